section
-- ===== PART A: goes FIRST, ahead of the names: the tables' words, and 'selects' of the private methods out of them =====
/-- a private method of a class that the tables say can be made, by its rows of tables_1 -/
def lw_okq (q : MethodName × Nat) : Prop := (q.1.cls ≠ "java/lang/invoke/MethodHandle" ∧ q.1.cls ≠ "java/lang/invoke/VarHandle") ∧ Cond.instantiable q.1.cls q.2 ∈ tables_1 ∧ Cond.privateMethod q.1 ∈ tables_1 ∧ Cond.instanceMethod q.1 ∈ tables_1
theorem lw_p0 : lw_okq (⟨"IcedTooSoon$Tape", "next", "()V"⟩, 9) := ⟨⟨by decide +kernel, by decide +kernel⟩, List.mem_of_getElem? (i := 49) (by decide +kernel), List.mem_of_getElem? (i := 215) (by decide +kernel), List.mem_of_getElem? (i := 216) (by decide +kernel)⟩
theorem lw_p1 : lw_okq (⟨"IcedTooSoon$Tape", "nextWord", "()V"⟩, 9) := ⟨⟨by decide +kernel, by decide +kernel⟩, List.mem_of_getElem? (i := 49) (by decide +kernel), List.mem_of_getElem? (i := 222) (by decide +kernel), List.mem_of_getElem? (i := 223) (by decide +kernel)⟩
theorem lw_p2 : lw_okq (⟨"IcedTooSoon$Tape", "isWord", "(I)Z"⟩, 9) := ⟨⟨by decide +kernel, by decide +kernel⟩, List.mem_of_getElem? (i := 49) (by decide +kernel), List.mem_of_getElem? (i := 226) (by decide +kernel), List.mem_of_getElem? (i := 227) (by decide +kernel)⟩
theorem lw_p3 : lw_okq (⟨"IcedTooSoon$Tape", "nextNumber", "()V"⟩, 9) := ⟨⟨by decide +kernel, by decide +kernel⟩, List.mem_of_getElem? (i := 49) (by decide +kernel), List.mem_of_getElem? (i := 237) (by decide +kernel), List.mem_of_getElem? (i := 238) (by decide +kernel)⟩
theorem lw_p4 : lw_okq (⟨"IcedTooSoon$Tape", "readLevel", "(II)Z"⟩, 9) := ⟨⟨by decide +kernel, by decide +kernel⟩, List.mem_of_getElem? (i := 49) (by decide +kernel), List.mem_of_getElem? (i := 301) (by decide +kernel), List.mem_of_getElem? (i := 302) (by decide +kernel)⟩
theorem lw_p5 : lw_okq (⟨"IcedTooSoon$Tape", "readOne", "(I)Z"⟩, 9) := ⟨⟨by decide +kernel, by decide +kernel⟩, List.mem_of_getElem? (i := 49) (by decide +kernel), List.mem_of_getElem? (i := 305) (by decide +kernel), List.mem_of_getElem? (i := 306) (by decide +kernel)⟩
theorem lw_p6 : lw_okq (⟨"IcedTooSoon$Tape", "readTurned", "(II)Z"⟩, 9) := ⟨⟨by decide +kernel, by decide +kernel⟩, List.mem_of_getElem? (i := 49) (by decide +kernel), List.mem_of_getElem? (i := 309) (by decide +kernel), List.mem_of_getElem? (i := 310) (by decide +kernel)⟩
theorem lw_p7 : lw_okq (⟨"IcedTooSoon$Tape", "write", "(I)V"⟩, 9) := ⟨⟨by decide +kernel, by decide +kernel⟩, List.mem_of_getElem? (i := 49) (by decide +kernel), List.mem_of_getElem? (i := 313) (by decide +kernel), List.mem_of_getElem? (i := 314) (by decide +kernel)⟩
theorem lw_p8 : lw_okq (⟨"IcedTooSoon$Tape", "readInner", "(I)Z"⟩, 9) := ⟨⟨by decide +kernel, by decide +kernel⟩, List.mem_of_getElem? (i := 49) (by decide +kernel), List.mem_of_getElem? (i := 317) (by decide +kernel), List.mem_of_getElem? (i := 318) (by decide +kernel)⟩
theorem lw_p9 : lw_okq (⟨"IcedTooSoon$Tape", "joins", "(I)Z"⟩, 9) := ⟨⟨by decide +kernel, by decide +kernel⟩, List.mem_of_getElem? (i := 49) (by decide +kernel), List.mem_of_getElem? (i := 324) (by decide +kernel), List.mem_of_getElem? (i := 325) (by decide +kernel)⟩
theorem lw_p10 : lw_okq (⟨"IcedTooSoon", "nextOff", "(I)I"⟩, 7) := ⟨⟨by decide +kernel, by decide +kernel⟩, List.mem_of_getElem? (i := 18) (by decide +kernel), List.mem_of_getElem? (i := 503) (by decide +kernel), List.mem_of_getElem? (i := 504) (by decide +kernel)⟩
theorem lw_p11 : lw_okq (⟨"IcedTooSoon", "think", "()V"⟩, 7) := ⟨⟨by decide +kernel, by decide +kernel⟩, List.mem_of_getElem? (i := 18) (by decide +kernel), List.mem_of_getElem? (i := 507) (by decide +kernel), List.mem_of_getElem? (i := 508) (by decide +kernel)⟩
theorem lw_p12 : lw_okq (⟨"IcedTooSoon", "pass", "(I)V"⟩, 7) := ⟨⟨by decide +kernel, by decide +kernel⟩, List.mem_of_getElem? (i := 18) (by decide +kernel), List.mem_of_getElem? (i := 569) (by decide +kernel), List.mem_of_getElem? (i := 570) (by decide +kernel)⟩
theorem lw_p13 : lw_okq (⟨"IcedTooSoon", "moodIfIced", "(III)I"⟩, 7) := ⟨⟨by decide +kernel, by decide +kernel⟩, List.mem_of_getElem? (i := 18) (by decide +kernel), List.mem_of_getElem? (i := 597) (by decide +kernel), List.mem_of_getElem? (i := 598) (by decide +kernel)⟩
theorem lw_p14 : lw_okq (⟨"IcedTooSoon", "moodIfSpilt", "(II)I"⟩, 7) := ⟨⟨by decide +kernel, by decide +kernel⟩, List.mem_of_getElem? (i := 18) (by decide +kernel), List.mem_of_getElem? (i := 605) (by decide +kernel), List.mem_of_getElem? (i := 606) (by decide +kernel)⟩
theorem lw_p15 : lw_okq (⟨"IcedTooSoon", "roundOf", "(III)I"⟩, 7) := ⟨⟨by decide +kernel, by decide +kernel⟩, List.mem_of_getElem? (i := 18) (by decide +kernel), List.mem_of_getElem? (i := 613) (by decide +kernel), List.mem_of_getElem? (i := 614) (by decide +kernel)⟩
def lw_privs_1 : List (MethodName × Nat) := [(⟨"IcedTooSoon$Tape", "next", "()V"⟩, 9), (⟨"IcedTooSoon$Tape", "nextWord", "()V"⟩, 9), (⟨"IcedTooSoon$Tape", "isWord", "(I)Z"⟩, 9), (⟨"IcedTooSoon$Tape", "nextNumber", "()V"⟩, 9), (⟨"IcedTooSoon$Tape", "readLevel", "(II)Z"⟩, 9), (⟨"IcedTooSoon$Tape", "readOne", "(I)Z"⟩, 9), (⟨"IcedTooSoon$Tape", "readTurned", "(II)Z"⟩, 9), (⟨"IcedTooSoon$Tape", "write", "(I)V"⟩, 9), (⟨"IcedTooSoon$Tape", "readInner", "(I)Z"⟩, 9), (⟨"IcedTooSoon$Tape", "joins", "(I)Z"⟩, 9), (⟨"IcedTooSoon", "nextOff", "(I)I"⟩, 7), (⟨"IcedTooSoon", "think", "()V"⟩, 7), (⟨"IcedTooSoon", "pass", "(I)V"⟩, 7), (⟨"IcedTooSoon", "moodIfIced", "(III)I"⟩, 7), (⟨"IcedTooSoon", "moodIfSpilt", "(II)I"⟩, 7), (⟨"IcedTooSoon", "roundOf", "(III)I"⟩, 7)]
theorem lw_r1 : ∀ q ∈ lw_privs_1, lw_okq q := List.forall_mem_cons.mpr ⟨lw_p0, List.forall_mem_cons.mpr ⟨lw_p1, List.forall_mem_cons.mpr ⟨lw_p2, List.forall_mem_cons.mpr ⟨lw_p3, List.forall_mem_cons.mpr ⟨lw_p4, List.forall_mem_cons.mpr ⟨lw_p5, List.forall_mem_cons.mpr ⟨lw_p6, List.forall_mem_cons.mpr ⟨lw_p7, List.forall_mem_cons.mpr ⟨lw_p8, List.forall_mem_cons.mpr ⟨lw_p9, List.forall_mem_cons.mpr ⟨lw_p10, List.forall_mem_cons.mpr ⟨lw_p11, List.forall_mem_cons.mpr ⟨lw_p12, List.forall_mem_cons.mpr ⟨lw_p13, List.forall_mem_cons.mpr ⟨lw_p14, List.forall_mem_cons.mpr ⟨lw_p15, fun _ h => absurd h List.not_mem_nil⟩⟩⟩⟩⟩⟩⟩⟩⟩⟩⟩⟩⟩⟩⟩⟩
theorem lw_p16 : lw_okq (⟨"IcedTooSoon", "refusalOfDays", "(II)I"⟩, 7) := ⟨⟨by decide +kernel, by decide +kernel⟩, List.mem_of_getElem? (i := 18) (by decide +kernel), List.mem_of_getElem? (i := 645) (by decide +kernel), List.mem_of_getElem? (i := 646) (by decide +kernel)⟩
theorem lw_p17 : lw_okq (⟨"IcedTooSoon", "refusalOfSheet", "(I)I"⟩, 7) := ⟨⟨by decide +kernel, by decide +kernel⟩, List.mem_of_getElem? (i := 18) (by decide +kernel), List.mem_of_getElem? (i := 649) (by decide +kernel), List.mem_of_getElem? (i := 650) (by decide +kernel)⟩
theorem lw_p18 : lw_okq (⟨"IcedTooSoon", "firstOtherwise", "(II)I"⟩, 7) := ⟨⟨by decide +kernel, by decide +kernel⟩, List.mem_of_getElem? (i := 18) (by decide +kernel), List.mem_of_getElem? (i := 656) (by decide +kernel), List.mem_of_getElem? (i := 657) (by decide +kernel)⟩
theorem lw_p19 : lw_okq (⟨"IcedTooSoon", "thinkOfLots", "(I)V"⟩, 7) := ⟨⟨by decide +kernel, by decide +kernel⟩, List.mem_of_getElem? (i := 18) (by decide +kernel), List.mem_of_getElem? (i := 702) (by decide +kernel), List.mem_of_getElem? (i := 703) (by decide +kernel)⟩
theorem lw_p20 : lw_okq (⟨"IcedTooSoonModel", "next", "()V"⟩, 34) := ⟨⟨by decide +kernel, by decide +kernel⟩, List.mem_of_getElem? (i := 756) (by decide +kernel), List.mem_of_getElem? (i := 766) (by decide +kernel), List.mem_of_getElem? (i := 767) (by decide +kernel)⟩
theorem lw_p21 : lw_okq (⟨"IcedTooSoonModel", "wordFrom", "(II)I"⟩, 34) := ⟨⟨by decide +kernel, by decide +kernel⟩, List.mem_of_getElem? (i := 756) (by decide +kernel), List.mem_of_getElem? (i := 773) (by decide +kernel), List.mem_of_getElem? (i := 774) (by decide +kernel)⟩
theorem lw_p22 : lw_okq (⟨"IcedTooSoonModel", "eRead", "()Z"⟩, 34) := ⟨⟨by decide +kernel, by decide +kernel⟩, List.mem_of_getElem? (i := 756) (by decide +kernel), List.mem_of_getElem? (i := 777) (by decide +kernel), List.mem_of_getElem? (i := 778) (by decide +kernel)⟩
theorem lw_p23 : lw_okq (⟨"IcedTooSoonModel", "puts", "(I)V"⟩, 34) := ⟨⟨by decide +kernel, by decide +kernel⟩, List.mem_of_getElem? (i := 756) (by decide +kernel), List.mem_of_getElem? (i := 782) (by decide +kernel), List.mem_of_getElem? (i := 783) (by decide +kernel)⟩
theorem lw_p24 : lw_okq (⟨"IcedTooSoonModel", "unwinds", "(I)V"⟩, 34) := ⟨⟨by decide +kernel, by decide +kernel⟩, List.mem_of_getElem? (i := 756) (by decide +kernel), List.mem_of_getElem? (i := 786) (by decide +kernel), List.mem_of_getElem? (i := 787) (by decide +kernel)⟩
theorem lw_p25 : lw_okq (⟨"IcedTooSoonModel", "opensOne", "(I)Z"⟩, 34) := ⟨⟨by decide +kernel, by decide +kernel⟩, List.mem_of_getElem? (i := 756) (by decide +kernel), List.mem_of_getElem? (i := 793) (by decide +kernel), List.mem_of_getElem? (i := 794) (by decide +kernel)⟩
theorem lw_p26 : lw_okq (⟨"IcedTooSoonModel", "holds", "(I)V"⟩, 34) := ⟨⟨by decide +kernel, by decide +kernel⟩, List.mem_of_getElem? (i := 756) (by decide +kernel), List.mem_of_getElem? (i := 797) (by decide +kernel), List.mem_of_getElem? (i := 798) (by decide +kernel)⟩
theorem lw_p27 : lw_okq (⟨"IcedTooSoonModel", "signOf", "()I"⟩, 34) := ⟨⟨by decide +kernel, by decide +kernel⟩, List.mem_of_getElem? (i := 756) (by decide +kernel), List.mem_of_getElem? (i := 801) (by decide +kernel), List.mem_of_getElem? (i := 802) (by decide +kernel)⟩
theorem lw_p28 : lw_okq (⟨"IcedTooSoonModel", "between", "(I)Z"⟩, 34) := ⟨⟨by decide +kernel, by decide +kernel⟩, List.mem_of_getElem? (i := 756) (by decide +kernel), List.mem_of_getElem? (i := 805) (by decide +kernel), List.mem_of_getElem? (i := 806) (by decide +kernel)⟩
theorem lw_p29 : lw_okq (⟨"IcedTooSoonModel", "many", "()I"⟩, 34) := ⟨⟨by decide +kernel, by decide +kernel⟩, List.mem_of_getElem? (i := 756) (by decide +kernel), List.mem_of_getElem? (i := 916) (by decide +kernel), List.mem_of_getElem? (i := 917) (by decide +kernel)⟩
theorem lw_p30 : lw_okq (⟨"IcedTooSoonModel", "isThere", "(I)Z"⟩, 34) := ⟨⟨by decide +kernel, by decide +kernel⟩, List.mem_of_getElem? (i := 756) (by decide +kernel), List.mem_of_getElem? (i := 920) (by decide +kernel), List.mem_of_getElem? (i := 921) (by decide +kernel)⟩
theorem lw_p31 : lw_okq (⟨"IcedTooSoonModel", "asksOf", "(II)I"⟩, 34) := ⟨⟨by decide +kernel, by decide +kernel⟩, List.mem_of_getElem? (i := 756) (by decide +kernel), List.mem_of_getElem? (i := 947) (by decide +kernel), List.mem_of_getElem? (i := 948) (by decide +kernel)⟩
def lw_privs_2 : List (MethodName × Nat) := [(⟨"IcedTooSoon", "refusalOfDays", "(II)I"⟩, 7), (⟨"IcedTooSoon", "refusalOfSheet", "(I)I"⟩, 7), (⟨"IcedTooSoon", "firstOtherwise", "(II)I"⟩, 7), (⟨"IcedTooSoon", "thinkOfLots", "(I)V"⟩, 7), (⟨"IcedTooSoonModel", "next", "()V"⟩, 34), (⟨"IcedTooSoonModel", "wordFrom", "(II)I"⟩, 34), (⟨"IcedTooSoonModel", "eRead", "()Z"⟩, 34), (⟨"IcedTooSoonModel", "puts", "(I)V"⟩, 34), (⟨"IcedTooSoonModel", "unwinds", "(I)V"⟩, 34), (⟨"IcedTooSoonModel", "opensOne", "(I)Z"⟩, 34), (⟨"IcedTooSoonModel", "holds", "(I)V"⟩, 34), (⟨"IcedTooSoonModel", "signOf", "()I"⟩, 34), (⟨"IcedTooSoonModel", "between", "(I)Z"⟩, 34), (⟨"IcedTooSoonModel", "many", "()I"⟩, 34), (⟨"IcedTooSoonModel", "isThere", "(I)Z"⟩, 34), (⟨"IcedTooSoonModel", "asksOf", "(II)I"⟩, 34)]
theorem lw_r2 : ∀ q ∈ lw_privs_2, lw_okq q := List.forall_mem_cons.mpr ⟨lw_p16, List.forall_mem_cons.mpr ⟨lw_p17, List.forall_mem_cons.mpr ⟨lw_p18, List.forall_mem_cons.mpr ⟨lw_p19, List.forall_mem_cons.mpr ⟨lw_p20, List.forall_mem_cons.mpr ⟨lw_p21, List.forall_mem_cons.mpr ⟨lw_p22, List.forall_mem_cons.mpr ⟨lw_p23, List.forall_mem_cons.mpr ⟨lw_p24, List.forall_mem_cons.mpr ⟨lw_p25, List.forall_mem_cons.mpr ⟨lw_p26, List.forall_mem_cons.mpr ⟨lw_p27, List.forall_mem_cons.mpr ⟨lw_p28, List.forall_mem_cons.mpr ⟨lw_p29, List.forall_mem_cons.mpr ⟨lw_p30, List.forall_mem_cons.mpr ⟨lw_p31, fun _ h => absurd h List.not_mem_nil⟩⟩⟩⟩⟩⟩⟩⟩⟩⟩⟩⟩⟩⟩⟩⟩
theorem lw_p32 : lw_okq (⟨"IcedTooSoonModel", "says", "(I)I"⟩, 34) := ⟨⟨by decide +kernel, by decide +kernel⟩, List.mem_of_getElem? (i := 756) (by decide +kernel), List.mem_of_getElem? (i := 951) (by decide +kernel), List.mem_of_getElem? (i := 952) (by decide +kernel)⟩
theorem lw_p33 : lw_okq (⟨"IcedTooSoonModel", "isOne", "(I)Z"⟩, 34) := ⟨⟨by decide +kernel, by decide +kernel⟩, List.mem_of_getElem? (i := 756) (by decide +kernel), List.mem_of_getElem? (i := 966) (by decide +kernel), List.mem_of_getElem? (i := 967) (by decide +kernel)⟩
theorem lw_p34 : lw_okq (⟨"IcedTooSoonModel", "ordered", "(III)I"⟩, 34) := ⟨⟨by decide +kernel, by decide +kernel⟩, List.mem_of_getElem? (i := 756) (by decide +kernel), List.mem_of_getElem? (i := 970) (by decide +kernel), List.mem_of_getElem? (i := 971) (by decide +kernel)⟩
theorem lw_p35 : lw_okq (⟨"IcedTooSoonModel", "chillsOf", "(I)I"⟩, 34) := ⟨⟨by decide +kernel, by decide +kernel⟩, List.mem_of_getElem? (i := 756) (by decide +kernel), List.mem_of_getElem? (i := 974) (by decide +kernel), List.mem_of_getElem? (i := 975) (by decide +kernel)⟩
theorem lw_p36 : lw_okq (⟨"IcedTooSoonModel", "glassesOf", "(I)I"⟩, 34) := ⟨⟨by decide +kernel, by decide +kernel⟩, List.mem_of_getElem? (i := 756) (by decide +kernel), List.mem_of_getElem? (i := 986) (by decide +kernel), List.mem_of_getElem? (i := 987) (by decide +kernel)⟩
theorem lw_p37 : lw_okq (⟨"IcedTooSoonModel", "firstOff", "(I)I"⟩, 34) := ⟨⟨by decide +kernel, by decide +kernel⟩, List.mem_of_getElem? (i := 756) (by decide +kernel), List.mem_of_getElem? (i := 990) (by decide +kernel), List.mem_of_getElem? (i := 991) (by decide +kernel)⟩
theorem lw_p38 : lw_okq (⟨"IcedTooSoonModel", "keeps", "()V"⟩, 34) := ⟨⟨by decide +kernel, by decide +kernel⟩, List.mem_of_getElem? (i := 756) (by decide +kernel), List.mem_of_getElem? (i := 994) (by decide +kernel), List.mem_of_getElem? (i := 995) (by decide +kernel)⟩
theorem lw_p39 : lw_okq (⟨"IcedTooSoonModel", "dayOf", "()I"⟩, 34) := ⟨⟨by decide +kernel, by decide +kernel⟩, List.mem_of_getElem? (i := 756) (by decide +kernel), List.mem_of_getElem? (i := 998) (by decide +kernel), List.mem_of_getElem? (i := 999) (by decide +kernel)⟩
theorem lw_p40 : lw_okq (⟨"IcedTooSoonModel", "meltsOf", "(I)I"⟩, 34) := ⟨⟨by decide +kernel, by decide +kernel⟩, List.mem_of_getElem? (i := 756) (by decide +kernel), List.mem_of_getElem? (i := 1002) (by decide +kernel), List.mem_of_getElem? (i := 1003) (by decide +kernel)⟩
theorem lw_p41 : lw_okq (⟨"IcedTooSoonModel", "feelsOf", "(I)I"⟩, 34) := ⟨⟨by decide +kernel, by decide +kernel⟩, List.mem_of_getElem? (i := 756) (by decide +kernel), List.mem_of_getElem? (i := 1006) (by decide +kernel), List.mem_of_getElem? (i := 1007) (by decide +kernel)⟩
theorem lw_p42 : lw_okq (⟨"IcedTooSoonModel", "lays", "()V"⟩, 34) := ⟨⟨by decide +kernel, by decide +kernel⟩, List.mem_of_getElem? (i := 756) (by decide +kernel), List.mem_of_getElem? (i := 1010) (by decide +kernel), List.mem_of_getElem? (i := 1011) (by decide +kernel)⟩
theorem lw_p43 : lw_okq (⟨"IcedTooSoonModel", "goes", "(I)V"⟩, 34) := ⟨⟨by decide +kernel, by decide +kernel⟩, List.mem_of_getElem? (i := 756) (by decide +kernel), List.mem_of_getElem? (i := 1035) (by decide +kernel), List.mem_of_getElem? (i := 1036) (by decide +kernel)⟩
theorem lw_p44 : lw_okq (⟨"IcedTooSoonModel", "toldBehind", "(I)I"⟩, 34) := ⟨⟨by decide +kernel, by decide +kernel⟩, List.mem_of_getElem? (i := 756) (by decide +kernel), List.mem_of_getElem? (i := 1039) (by decide +kernel), List.mem_of_getElem? (i := 1040) (by decide +kernel)⟩
theorem lw_p45 : lw_okq (⟨"IcedTooSoonModel", "moodAll", "()I"⟩, 34) := ⟨⟨by decide +kernel, by decide +kernel⟩, List.mem_of_getElem? (i := 756) (by decide +kernel), List.mem_of_getElem? (i := 1043) (by decide +kernel), List.mem_of_getElem? (i := 1044) (by decide +kernel)⟩
theorem lw_p46 : lw_okq (⟨"IcedTooSoonModel", "belowSet", "(I)I"⟩, 34) := ⟨⟨by decide +kernel, by decide +kernel⟩, List.mem_of_getElem? (i := 756) (by decide +kernel), List.mem_of_getElem? (i := 1059) (by decide +kernel), List.mem_of_getElem? (i := 1060) (by decide +kernel)⟩
theorem lw_p47 : lw_okq (⟨"IcedTooSoonModel", "moodBehind", "(I)I"⟩, 34) := ⟨⟨by decide +kernel, by decide +kernel⟩, List.mem_of_getElem? (i := 756) (by decide +kernel), List.mem_of_getElem? (i := 1067) (by decide +kernel), List.mem_of_getElem? (i := 1068) (by decide +kernel)⟩
def lw_privs_3 : List (MethodName × Nat) := [(⟨"IcedTooSoonModel", "says", "(I)I"⟩, 34), (⟨"IcedTooSoonModel", "isOne", "(I)Z"⟩, 34), (⟨"IcedTooSoonModel", "ordered", "(III)I"⟩, 34), (⟨"IcedTooSoonModel", "chillsOf", "(I)I"⟩, 34), (⟨"IcedTooSoonModel", "glassesOf", "(I)I"⟩, 34), (⟨"IcedTooSoonModel", "firstOff", "(I)I"⟩, 34), (⟨"IcedTooSoonModel", "keeps", "()V"⟩, 34), (⟨"IcedTooSoonModel", "dayOf", "()I"⟩, 34), (⟨"IcedTooSoonModel", "meltsOf", "(I)I"⟩, 34), (⟨"IcedTooSoonModel", "feelsOf", "(I)I"⟩, 34), (⟨"IcedTooSoonModel", "lays", "()V"⟩, 34), (⟨"IcedTooSoonModel", "goes", "(I)V"⟩, 34), (⟨"IcedTooSoonModel", "toldBehind", "(I)I"⟩, 34), (⟨"IcedTooSoonModel", "moodAll", "()I"⟩, 34), (⟨"IcedTooSoonModel", "belowSet", "(I)I"⟩, 34), (⟨"IcedTooSoonModel", "moodBehind", "(I)I"⟩, 34)]
theorem lw_r3 : ∀ q ∈ lw_privs_3, lw_okq q := List.forall_mem_cons.mpr ⟨lw_p32, List.forall_mem_cons.mpr ⟨lw_p33, List.forall_mem_cons.mpr ⟨lw_p34, List.forall_mem_cons.mpr ⟨lw_p35, List.forall_mem_cons.mpr ⟨lw_p36, List.forall_mem_cons.mpr ⟨lw_p37, List.forall_mem_cons.mpr ⟨lw_p38, List.forall_mem_cons.mpr ⟨lw_p39, List.forall_mem_cons.mpr ⟨lw_p40, List.forall_mem_cons.mpr ⟨lw_p41, List.forall_mem_cons.mpr ⟨lw_p42, List.forall_mem_cons.mpr ⟨lw_p43, List.forall_mem_cons.mpr ⟨lw_p44, List.forall_mem_cons.mpr ⟨lw_p45, List.forall_mem_cons.mpr ⟨lw_p46, List.forall_mem_cons.mpr ⟨lw_p47, fun _ h => absurd h List.not_mem_nil⟩⟩⟩⟩⟩⟩⟩⟩⟩⟩⟩⟩⟩⟩⟩⟩
theorem lw_p48 : lw_okq (⟨"IcedTooSoonModel", "ices", "(II)I"⟩, 34) := ⟨⟨by decide +kernel, by decide +kernel⟩, List.mem_of_getElem? (i := 756) (by decide +kernel), List.mem_of_getElem? (i := 1079) (by decide +kernel), List.mem_of_getElem? (i := 1080) (by decide +kernel)⟩
theorem lw_p49 : lw_okq (⟨"IcedTooSoonModel", "laysIce", "()V"⟩, 34) := ⟨⟨by decide +kernel, by decide +kernel⟩, List.mem_of_getElem? (i := 756) (by decide +kernel), List.mem_of_getElem? (i := 1083) (by decide +kernel), List.mem_of_getElem? (i := 1084) (by decide +kernel)⟩
theorem lw_p50 : lw_okq (⟨"IcedTooSoonModel", "toldWrong", "(II)I"⟩, 34) := ⟨⟨by decide +kernel, by decide +kernel⟩, List.mem_of_getElem? (i := 756) (by decide +kernel), List.mem_of_getElem? (i := 1099) (by decide +kernel), List.mem_of_getElem? (i := 1100) (by decide +kernel)⟩
theorem lw_p51 : lw_okq (⟨"IcedTooSoonModel", "sheetWrong", "(I)I"⟩, 34) := ⟨⟨by decide +kernel, by decide +kernel⟩, List.mem_of_getElem? (i := 756) (by decide +kernel), List.mem_of_getElem? (i := 1103) (by decide +kernel), List.mem_of_getElem? (i := 1104) (by decide +kernel)⟩
theorem lw_p52 : lw_okq (⟨"IcedTooSoonModel", "unlike", "(II)I"⟩, 34) := ⟨⟨by decide +kernel, by decide +kernel⟩, List.mem_of_getElem? (i := 756) (by decide +kernel), List.mem_of_getElem? (i := 1107) (by decide +kernel), List.mem_of_getElem? (i := 1108) (by decide +kernel)⟩
theorem lw_p53 : lw_okq (⟨"IcedTooSoonModel", "lotOrders", "(I)I"⟩, 34) := ⟨⟨by decide +kernel, by decide +kernel⟩, List.mem_of_getElem? (i := 756) (by decide +kernel), List.mem_of_getElem? (i := 1140) (by decide +kernel), List.mem_of_getElem? (i := 1141) (by decide +kernel)⟩
def lw_privs_4 : List (MethodName × Nat) := [(⟨"IcedTooSoonModel", "ices", "(II)I"⟩, 34), (⟨"IcedTooSoonModel", "laysIce", "()V"⟩, 34), (⟨"IcedTooSoonModel", "toldWrong", "(II)I"⟩, 34), (⟨"IcedTooSoonModel", "sheetWrong", "(I)I"⟩, 34), (⟨"IcedTooSoonModel", "unlike", "(II)I"⟩, 34), (⟨"IcedTooSoonModel", "lotOrders", "(I)I"⟩, 34)]
theorem lw_r4 : ∀ q ∈ lw_privs_4, lw_okq q := List.forall_mem_cons.mpr ⟨lw_p48, List.forall_mem_cons.mpr ⟨lw_p49, List.forall_mem_cons.mpr ⟨lw_p50, List.forall_mem_cons.mpr ⟨lw_p51, List.forall_mem_cons.mpr ⟨lw_p52, List.forall_mem_cons.mpr ⟨lw_p53, fun _ h => absurd h List.not_mem_nil⟩⟩⟩⟩⟩⟩
def lw_privs : List (MethodName × Nat) := lw_privs_1 ++ (lw_privs_2 ++ (lw_privs_3 ++ (lw_privs_4)))
def lw_tbl : List Cond := k2_sels lw_privs ++ tables_1
theorem lw_privs_ok : ∀ q ∈ lw_privs, lw_okq q := by
  show ∀ q ∈ lw_privs_1 ++ (lw_privs_2 ++ (lw_privs_3 ++ (lw_privs_4))), lw_okq q
  exact List.forall_mem_append.mpr ⟨lw_r1, List.forall_mem_append.mpr ⟨lw_r2, List.forall_mem_append.mpr ⟨lw_r3, lw_r4⟩⟩⟩
end
section
def it_R0 : String := "IcedTooSoon$House"
def it_F0 : u_T := fun k => match k with
  | 0 => ("IcedTooSoon$House", "book", "LIcedTooSoon$Lawbook;", true)
  | 1 => ("IcedTooSoon$House", "guests", "I", false)
  | 2 => ("IcedTooSoon$House", "kind", "[I", true)
  | 3 => ("IcedTooSoon$House", "more", "[I", true)
  | 4 => ("IcedTooSoon$House", "mood", "[I", true)
  | 5 => ("IcedTooSoon$House", "cold", "[I", true)
  | 6 => ("IcedTooSoon$House", "whose", "[I", true)
  | 7 => ("IcedTooSoon$House", "weight", "[I", true)
  | 8 => ("IcedTooSoon$House", "ice", "[I", true)
  | 9 => ("IcedTooSoon$House", "date", "I", false)
  | _ => ("IcedTooSoon$House", "law", "I", false)
def it_t0 : Nat → FieldType := fun k => match k with
  | 0 => .object "IcedTooSoon$Lawbook"
  | 1 => .int
  | 2 => .array .int
  | 3 => .array .int
  | 4 => .array .int
  | 5 => .array .int
  | 6 => .array .int
  | 7 => .array .int
  | 8 => .array .int
  | 9 => .int
  | _ => .int
theorem it_n0 : ∀ a, a < 11 → ∀ b, b < 11 → a ≠ b → (it_F0 a).2.1 ≠ (it_F0 b).2.1 := by decide +kernel
theorem it_y0 : ∀ k, k < 11 → parseFieldDescriptor (it_F0 k).2.2.1 = some (it_t0 k) := by decide +kernel
theorem it_i0 : ∀ w ∈ u_ws it_R0 it_F0 11, w ∈ lw_tbl := by decide +kernel
def it_R1 : String := "IcedTooSoon$Lawbook"
def it_F1 : u_T := fun k => match k with
  | 0 => ("IcedTooSoon$Lawbook", "texts", "[LIcedTooSoon$Text;", true)
  | 1 => ("IcedTooSoon$Lawbook", "named", "[I", true)
  | 2 => ("IcedTooSoon$Lawbook", "pile", "[I", true)
  | _ => ("IcedTooSoon$Lawbook", "size", "I", false)
def it_t1 : Nat → FieldType := fun k => match k with
  | 0 => .array (.object "IcedTooSoon$Text")
  | 1 => .array .int
  | 2 => .array .int
  | _ => .int
theorem it_n1 : ∀ a, a < 4 → ∀ b, b < 4 → a ≠ b → (it_F1 a).2.1 ≠ (it_F1 b).2.1 := by decide +kernel
theorem it_y1 : ∀ k, k < 4 → parseFieldDescriptor (it_F1 k).2.2.1 = some (it_t1 k) := by decide +kernel
theorem it_i1 : ∀ w ∈ u_ws it_R1 it_F1 4, w ∈ lw_tbl := by decide +kernel
def it_R2 : String := "IcedTooSoon$Sheet"
def it_F2 : u_T := fun k => match k with
  | 0 => ("IcedTooSoon$Sheet", "sort", "I", false)
  | 1 => ("IcedTooSoon$Sheet", "size", "I", false)
  | _ => ("IcedTooSoon$Sheet", "cells", "[I", true)
def it_t2 : Nat → FieldType := fun k => match k with
  | 0 => .int
  | 1 => .int
  | _ => .array .int
theorem it_n2 : ∀ a, a < 3 → ∀ b, b < 3 → a ≠ b → (it_F2 a).2.1 ≠ (it_F2 b).2.1 := by decide +kernel
theorem it_y2 : ∀ k, k < 3 → parseFieldDescriptor (it_F2 k).2.2.1 = some (it_t2 k) := by decide +kernel
theorem it_i2 : ∀ w ∈ u_ws it_R2 it_F2 3, w ∈ lw_tbl := by decide +kernel
def it_R3 : String := "IcedTooSoon$Tape"
def it_F3 : u_T := fun k => match k with
  | 0 => ("IcedTooSoon$Tape", "bytes", "[I", true)
  | 1 => ("IcedTooSoon$Tape", "size", "I", false)
  | 2 => ("IcedTooSoon$Tape", "at", "I", false)
  | 3 => ("IcedTooSoon$Tape", "token", "I", false)
  | 4 => ("IcedTooSoon$Tape", "number", "I", false)
  | 5 => ("IcedTooSoon$Tape", "place", "I", false)
  | 6 => ("IcedTooSoon$Tape", "code", "[I", true)
  | 7 => ("IcedTooSoon$Tape", "codes", "I", false)
  | _ => ("IcedTooSoon$Tape", "ends", "[I", true)
def it_t3 : Nat → FieldType := fun k => match k with
  | 0 => .array .int
  | 1 => .int
  | 2 => .int
  | 3 => .int
  | 4 => .int
  | 5 => .int
  | 6 => .array .int
  | 7 => .int
  | _ => .array .int
theorem it_n3 : ∀ a, a < 9 → ∀ b, b < 9 → a ≠ b → (it_F3 a).2.1 ≠ (it_F3 b).2.1 := by decide +kernel
theorem it_y3 : ∀ k, k < 9 → parseFieldDescriptor (it_F3 k).2.2.1 = some (it_t3 k) := by decide +kernel
theorem it_i3 : ∀ w ∈ u_ws it_R3 it_F3 9, w ∈ lw_tbl := by decide +kernel
def it_R4 : String := "IcedTooSoon$Text"
def it_F4 : u_T := fun k => match k with
  | 0 => ("IcedTooSoon$Text", "code", "[I", true)
  | _ => ("IcedTooSoon$Text", "ends", "[I", true)
def it_t4 : Nat → FieldType := fun k => match k with
  | 0 => .array .int
  | _ => .array .int
theorem it_n4 : ∀ a, a < 2 → ∀ b, b < 2 → a ≠ b → (it_F4 a).2.1 ≠ (it_F4 b).2.1 := by decide +kernel
theorem it_y4 : ∀ k, k < 2 → parseFieldDescriptor (it_F4 k).2.2.1 = some (it_t4 k) := by decide +kernel
theorem it_i4 : ∀ w ∈ u_ws it_R4 it_F4 2, w ∈ lw_tbl := by decide +kernel
def it_R5 : String := "IcedTooSoon"
def it_F5 : u_T := fun k => match k with
  | 0 => ("IcedTooSoon", "book", "LIcedTooSoon$Lawbook;", true)
  | 1 => ("IcedTooSoon", "tape", "LIcedTooSoon$Tape;", true)
  | 2 => ("IcedTooSoon", "house", "LIcedTooSoon$House;", true)
  | 3 => ("IcedTooSoon", "thought", "LIcedTooSoon$House;", true)
  | 4 => ("IcedTooSoon", "kept", "LIcedTooSoon$House;", true)
  | 5 => ("IcedTooSoon", "isKept", "Z", false)
  | _ => ("IcedTooSoon", "sheets", "[LIcedTooSoon$Sheet;", true)
def it_t5 : Nat → FieldType := fun k => match k with
  | 0 => .object "IcedTooSoon$Lawbook"
  | 1 => .object "IcedTooSoon$Tape"
  | 2 => .object "IcedTooSoon$House"
  | 3 => .object "IcedTooSoon$House"
  | 4 => .object "IcedTooSoon$House"
  | 5 => .boolean
  | _ => .array (.object "IcedTooSoon$Sheet")
theorem it_n5 : ∀ a, a < 7 → ∀ b, b < 7 → a ≠ b → (it_F5 a).2.1 ≠ (it_F5 b).2.1 := by decide +kernel
theorem it_y5 : ∀ k, k < 7 → parseFieldDescriptor (it_F5 k).2.2.1 = some (it_t5 k) := by decide +kernel
theorem it_i5 : ∀ w ∈ u_ws it_R5 it_F5 7, w ∈ lw_tbl := by decide +kernel
def it_R6 : String := "IcedTooSoonModel"
def it_F6 : u_T := fun k => match k with
  | 0 => ("IcedTooSoonModel", "guests", "I", false)
  | 1 => ("IcedTooSoonModel", "kind", "[I", true)
  | 2 => ("IcedTooSoonModel", "moreOf", "[I", true)
  | 3 => ("IcedTooSoonModel", "rows", "[I", true)
  | 4 => ("IcedTooSoonModel", "glasses", "[I", true)
  | 5 => ("IcedTooSoonModel", "days", "I", false)
  | 6 => ("IcedTooSoonModel", "tape", "[I", true)
  | 7 => ("IcedTooSoonModel", "taped", "I", false)
  | 8 => ("IcedTooSoonModel", "codes", "[I", true)
  | 9 => ("IcedTooSoonModel", "starts", "[I", true)
  | 10 => ("IcedTooSoonModel", "texts", "I", false)
  | 11 => ("IcedTooSoonModel", "rule", "I", false)
  | 12 => ("IcedTooSoonModel", "hasImage", "Z", false)
  | 13 => ("IcedTooSoonModel", "imageRows", "[I", true)
  | 14 => ("IcedTooSoonModel", "imageHeld", "[I", true)
  | 15 => ("IcedTooSoonModel", "sheetSort", "[I", true)
  | 16 => ("IcedTooSoonModel", "sheetSize", "[I", true)
  | 17 => ("IcedTooSoonModel", "cells", "[I", true)
  | 18 => ("IcedTooSoonModel", "law", "[I", true)
  | 19 => ("IcedTooSoonModel", "at", "I", false)
  | 20 => ("IcedTooSoonModel", "begun", "I", false)
  | 21 => ("IcedTooSoonModel", "token", "I", false)
  | 22 => ("IcedTooSoonModel", "value", "I", false)
  | 23 => ("IcedTooSoonModel", "words", "[I", true)
  | 24 => ("IcedTooSoonModel", "held", "[I", true)
  | 25 => ("IcedTooSoonModel", "heldMany", "I", false)
  | 26 => ("IcedTooSoonModel", "opens", "I", false)
  | 27 => ("IcedTooSoonModel", "out", "I", false)
  | 28 => ("IcedTooSoonModel", "stack", "[I", true)
  | 29 => ("IcedTooSoonModel", "named", "[I", true)
  | 30 => ("IcedTooSoonModel", "kept", "[I", true)
  | 31 => ("IcedTooSoonModel", "roundSet", "I", false)
  | 32 => ("IcedTooSoonModel", "keptIce", "[I", true)
  | _ => ("IcedTooSoonModel", "manyThen", "I", false)
def it_t6 : Nat → FieldType := fun k => match k with
  | 0 => .int
  | 1 => .array .int
  | 2 => .array .int
  | 3 => .array .int
  | 4 => .array .int
  | 5 => .int
  | 6 => .array .int
  | 7 => .int
  | 8 => .array .int
  | 9 => .array .int
  | 10 => .int
  | 11 => .int
  | 12 => .boolean
  | 13 => .array .int
  | 14 => .array .int
  | 15 => .array .int
  | 16 => .array .int
  | 17 => .array .int
  | 18 => .array .int
  | 19 => .int
  | 20 => .int
  | 21 => .int
  | 22 => .int
  | 23 => .array .int
  | 24 => .array .int
  | 25 => .int
  | 26 => .int
  | 27 => .int
  | 28 => .array .int
  | 29 => .array .int
  | 30 => .array .int
  | 31 => .int
  | 32 => .array .int
  | _ => .int
theorem it_n6 : ∀ a, a < 34 → ∀ b, b < 34 → a ≠ b → (it_F6 a).2.1 ≠ (it_F6 b).2.1 := by decide +kernel
theorem it_y6 : ∀ k, k < 34 → parseFieldDescriptor (it_F6 k).2.2.1 = some (it_t6 k) := by decide +kernel
theorem it_i6 : ∀ w ∈ u_ws it_R6 it_F6 34, w ∈ lw_tbl := by decide +kernel
abbrev it_cl : List vw_C := [(it_R0, it_F0, 11), (it_R1, it_F1, 4), (it_R2, it_F2, 3), (it_R3, it_F3, 9), (it_R4, it_F4, 2), (it_R5, it_F5, 7), (it_R6, it_F6, 34)]
/-- which fields are references -/
def it_mask (ci : Nat) : List Bool := match ci with
  | 0 => [true, false, true, true, true, true, true, true, true, false, false]
  | 1 => [true, true, true, false]
  | 2 => [false, false, true]
  | 3 => [true, false, false, false, false, false, true, false, true]
  | 4 => [true, true]
  | 5 => [true, true, true, true, true, false, true]
  | _ => [false, true, true, true, true, false, true, false, true, true, false, false, false, true, true, true, true, true, true, false, false, false, false, true, true, false, false, false, true, true, true, false, true, false]
end
section
/-! the cells of a run: cell a of the run lies at the address where the run began and a more; its numbers are S a, its references are laid out once for all -/
abbrev it_SS : Type := Nat → Nat → Int32
abbrev it_KK : Type := Nat × (Nat → Nat × Nat) × (Nat → Nat → Bool)
abbrev it_G : Type := Nat × va_G × (Nat → ClassId) × (Nat → Nat) × (Nat × (Nat → Int32))
def it_up (S : it_SS) (a j : Nat) (v : Int32) : it_SS := fun b => if b = a then upd (S a) j v else S b
def it_lay (ci k a : Nat) : Nat := match ci with
  | 0 => match k with
    | 0 => 1
    | k + 1 => a + k
  | 1 => match k with
    | 0 => 2
    | 1 => 3
    | _ => 4
  | 2 => a + 1
  | 3 => match k with
    | 0 => 6
    | 6 => 7
    | _ => 8
  | 4 => match k with
    | 0 => a + 1
    | _ => a + 2
  | 5 => match k with
    | 0 => 1
    | 1 => 5
    | 2 => 9
    | 3 => 17
    | 4 => 25
    | _ => 33
  | _ => match k with
    | 1 => 46
    | 2 => 47
    | 3 => 48
    | 4 => 49
    | 6 => 50
    | 8 => 51
    | 9 => 52
    | 13 => 53
    | 14 => 54
    | 15 => 55
    | 16 => 56
    | 17 => 57
    | 18 => 58
    | 23 => 59
    | 24 => 60
    | 28 => 61
    | 29 => 62
    | 30 => 63
    | _ => 64
def it_el (t j : Nat) : Nat := match t with
  | 1 => match j with
    | 0 => 42
    | j + 1 => 65 + 3 * j
  | _ => 34 + 2 * j
def it_fld (g : it_G) (κ : it_KK) (S : it_SS) (ci a k : Nat) (r : Bool) : Value := if r = true then (if κ.2.2 a k = true then .ref (g.1 + it_lay ci k a) else .null) else .int (S a k)
def it_fs (g : it_G) (κ : it_KK) (S : it_SS) (ci a : Nat) : List Value := (it_mask ci).mapIdx (fun k r => it_fld g κ S ci a k r)
def it_rf (g : it_G) (κ : it_KK) (t a : Nat) : Nat → Option Nat := fun j => if κ.2.2 a j = true then some (g.1 + it_el t j) else none
def it_ce (g : it_G) (κ : it_KK) (S : it_SS) (a : Nat) : va_E := match (κ.2.1 a).1 with
  | 0 => .inl (g.2.2.1 0, (κ.2.1 a).2, .inl (S a))
  | 1 => .inl (g.2.2.1 1, (κ.2.1 a).2, .inr (.inr (.inr (.inr (it_rf g κ 1 a)))))
  | 2 => .inl (g.2.2.1 2, (κ.2.1 a).2, .inr (.inr (.inr (.inr (it_rf g κ 2 a)))))
  | ci + 3 => .inr (ci, it_fs g κ S ci a)
def it_ws (g : it_G) (κ : it_KK) (S : it_SS) : va_W := (List.range κ.1).map (fun a => (g.1 + a, it_ce g κ S a))
def it_A (g : it_G) : Nat → Prop := fun q => g.1 ≤ q
def it_tys (g : it_G) : List (ClassId × FieldType) := [(g.2.2.1 0, .int), (g.2.2.1 1, .object it_R4), (g.2.2.1 2, .object it_R2)]
theorem it_ws_get {g : it_G} {κ : it_KK} {S : it_SS} {a : Nat} (h : a < κ.1) : (it_ws g κ S)[a]? = some (g.1 + a, it_ce g κ S a) := by
  simp [it_ws, h]
theorem it_ws_len (g : it_G) (κ : it_KK) (S : it_SS) : (it_ws g κ S).length = κ.1 := by simp [it_ws]
theorem it_ws_of {g : it_G} {κ : it_KK} {S : it_SS} {k : Nat} {q : Nat × va_E} (h : (it_ws g κ S)[k]? = some q) : k < κ.1 ∧ q = (g.1 + k, it_ce g κ S k) := by
  have hk : k < κ.1 := by
    have := (List.getElem?_eq_some_iff.mp h).1
    rwa [it_ws_len] at this
  rw [it_ws_get hk] at h
  exact ⟨hk, (Option.some.inj h).symm⟩
theorem it_ws_D (g : it_G) (κ : it_KK) (S : it_SS) : va_D (it_A g) (it_ws g κ S) := by
  refine ⟨fun i j p q hi hj he => ?_, fun k q hk => ?_⟩
  · obtain ⟨-, rfl⟩ := it_ws_of hi
    obtain ⟨-, rfl⟩ := it_ws_of hj
    exact Nat.add_left_cancel he
  · obtain ⟨-, rfl⟩ := it_ws_of hk
    exact Nat.le_add_right _ _
theorem it_ws_set {g : it_G} {κ κ' : it_KK} {S S' : it_SS} {a : Nat} (hn : κ'.1 = κ.1) (h : ∀ b, b ≠ a → it_ce g κ' S' b = it_ce g κ S b) : (it_ws g κ S).set a (g.1 + a, it_ce g κ' S' a) = it_ws g κ' S' := by
  apply List.ext_getElem?
  intro i
  by_cases hi : i < κ.1
  · rw [it_ws_get (by rw [hn]; exact hi), List.getElem?_set]
    by_cases ha : a = i
    · subst ha
      rw [if_pos rfl, if_pos (by rw [it_ws_len]; exact hi)]
    · rw [if_neg ha, it_ws_get hi, h i (fun q => ha q.symm)]
  · rw [List.getElem?_eq_none (by rw [List.length_set, it_ws_len]; omega), List.getElem?_eq_none (by rw [it_ws_len]; omega)]
theorem it_ws_push {g : it_G} {κ κ' : it_KK} {S S' : it_SS} {a : Nat} {x : va_E} (hn : κ'.1 = κ.1 + 1) (h : ∀ b, b < κ.1 → it_ce g κ' S' b = it_ce g κ S b) (ha : a = g.1 + κ.1) (hx : it_ce g κ' S' κ.1 = x) : it_ws g κ S ++ [(a, x)] = it_ws g κ' S' := by
  subst ha; subst hx
  apply List.ext_getElem?
  intro i
  by_cases hi : i < κ.1
  · rw [List.getElem?_append_left (by rw [it_ws_len]; exact hi), it_ws_get hi, it_ws_get (by omega), h i hi]
  · by_cases hj : i = κ.1
    · subst hj
      rw [List.getElem?_append_right (by rw [it_ws_len]; omega), it_ws_len, it_ws_get (by omega)]
      simp
    · rw [List.getElem?_eq_none (by simp [it_ws_len]; omega), List.getElem?_eq_none (by rw [it_ws_len]; omega)]
theorem it_up_ne {S : it_SS} {a j b : Nat} {v : Int32} (h : b ≠ a) : it_up S a j v b = S b := by simp [it_up, h]
theorem it_up_eq (S : it_SS) (a j : Nat) (v : Int32) : it_up S a j v a = upd (S a) j v := by simp [it_up]
/-- an int array of the run -/
def it_ar (κ : it_KK) (a n : Nat) : Prop := a < κ.1 ∧ κ.2.1 a = (0, n)
/-- a whole object of the run -/
def it_ob (κ : it_KK) (a ci : Nat) : Prop := a < κ.1 ∧ κ.2.1 a = (ci + 3, 0) ∧ ∀ k, κ.2.2 a k = true
theorem it_ce_ar {g : it_G} {κ : it_KK} {S : it_SS} {a n : Nat} (h : κ.2.1 a = (0, n)) : it_ce g κ S a = .inl (g.2.2.1 0, n, .inl (S a)) := by
  simp [it_ce, h]
theorem it_ce_ob {g : it_G} {κ : it_KK} {S : it_SS} {a ci n : Nat} (h : κ.2.1 a = (ci + 3, n)) : it_ce g κ S a = .inr (ci, it_fs g κ S ci a) := by
  simp [it_ce, h]
theorem it_ce_ne {g : it_G} {κ : it_KK} {S : it_SS} {a j b : Nat} {v : Int32} (h : b ≠ a) : it_ce g κ (it_up S a j v) b = it_ce g κ S b := by
  have : it_fs g κ (it_up S a j v) = fun ci c => if c = a then it_fs g κ (it_up S a j v) ci c else it_fs g κ S ci c := by
    funext ci c
    by_cases hc : c = a
    · rw [if_pos hc]
    · rw [if_neg hc]
      simp only [it_fs, it_fld, it_up_ne hc]
  simp only [it_ce, it_up_ne h]
  split <;> try rfl
  rw [this]
  simp only [if_neg h]
theorem it_fs_get {g : it_G} {κ : it_KK} {S : it_SS} {ci a k : Nat} {r : Bool} (h : (it_mask ci)[k]? = some r) : (it_fs g κ S ci a)[k]? = some (it_fld g κ S ci a k r) := by
  simp [it_fs, List.getElem?_mapIdx, h]
theorem it_fs_up {g : it_G} {κ : it_KK} {S : it_SS} {ci a k : Nat} {v : Int32} (h : (it_mask ci)[k]? = some false) : (it_fs g κ S ci a).set k (.int v) = it_fs g κ (it_up S a k v) ci a := by
  apply List.ext_getElem?
  intro i
  rw [List.getElem?_set]
  have hl : k < (it_mask ci).length := (List.getElem?_eq_some_iff.mp h).1
  by_cases hi : k = i
  · subst hi
    rw [if_pos rfl, if_pos (by simpa [it_fs] using hl), it_fs_get h]
    simp [it_fld, it_up, upd]
  · rw [if_neg hi]
    simp only [it_fs, List.getElem?_mapIdx]
    cases hm : (it_mask ci)[i]? with
    | none => rfl
    | some r => simp [it_fld, it_up, upd, Ne.symm hi]
theorem it_fs_len (g : it_G) (κ : it_KK) (S : it_SS) (ci a : Nat) : (it_fs g κ S ci a).length = (it_mask ci).length := by simp [it_fs]
/-! what was there before the run: the script, three texts, two tables, a formatter -/
def it_lens : List Nat := [37, 48, 8]
def it_txt0 : String := "melts 10 ; feels weight ; chills 5 ; "
def it_txt1 : String := "meltsfeelschillsorandnotweighticecoldmooddaymore"
def it_txt2 : String := "();+-*<="
def it_bytes : List (List Int32) := [it_txt0.toList.map (fun c => Int32.ofNat c.toNat), it_txt1.toList.map (fun c => Int32.ofNat c.toNat), it_txt2.toList.map (fun c => Int32.ofNat c.toNat)]
def it_above : List Int32 := [-1, 0, 0, 1, 2, 0]
def it_wordAt : List Int32 := [0, 5, 10, 16, 18, 21, 24, 30, 33, 37, 41, 44, 48]
def it_nests : List (String × Nat × MethodName) := [("IcedTooSoon", 9, ⟨"IcedTooSoon$Lawbook", "<init>", "()V"⟩), ("IcedTooSoon", 18, ⟨"IcedTooSoon$Tape", "<init>", "()V"⟩), ("IcedTooSoon", 48, ⟨"IcedTooSoon$Sheet", "<init>", "()V"⟩), ("IcedTooSoon$Lawbook", 30, ⟨"IcedTooSoon", "isOutside", "(III)Z"⟩), ("IcedTooSoon$House", 89, ⟨"IcedTooSoon", "bounded", "(III)I"⟩), ("IcedTooSoon$House", 66, ⟨"IcedTooSoon", "isOutside", "(III)Z"⟩)]
def it_oldT (U : State) : Prop := va_AO it_R4 U ∧ va_AO it_R2 U ∧ va_Nw (.castable "[I" "java/lang/Cloneable") U ∧ ∀ q ∈ it_nests, va_Nw (.methodLinkNest q.1 q.2.1 q.2.2 "IcedTooSoon") U
def it_old (g : it_G) (U : State) (H : Heap) : Prop :=
  it_oldT U ∧
  va_X (g.2.2.2.1 0) g.2.2.2.2.1 g.2.2.2.2.2 U H ∧ g.2.2.2.1 0 < g.1 ∧ g.2.2.2.1 0 < H.size ∧
  vk_S 3 it_lens it_bytes (fun i => g.2.2.2.1 (1 + i)) (fun i => g.2.2.2.1 (4 + i)) (it_A g) U H ∧
  vk_R "IcedTooSoon" 49 it_txt0 (g.2.2.2.1 1) U ∧ vk_R "IcedTooSoon$Tape" 104 it_txt1 (g.2.2.2.1 2) U ∧ vk_R "IcedTooSoon$Tape" 90 it_txt2 (g.2.2.2.1 3) U ∧
  va_Z "IcedTooSoon" "KIND_ABOVE" "[I" (.ref (g.2.2.2.1 7)) (it_A g) U H ∧ va_T .int (g.2.2.2.1 7) 6 (fun j => .int (it_above.getD j 0)) (it_A g) U H ∧
  va_Z "IcedTooSoon$Tape" "WORD_AT" "[I" (.ref (g.2.2.2.1 8)) (it_A g) U H ∧ va_T .int (g.2.2.2.1 8) 13 (fun j => .int (it_wordAt.getD j 0)) (it_A g) U H ∧
  va_Z "java/lang/String" "COMPACT_STRINGS" "Z" (.int 1) (it_A g) U H ∧ (va_Z "jdk/internal/util/Preconditions" "SIOOBE_FORMATTER" "Ljava/util/function/BiFunction;" .null (it_A g) U H ∨ va_Z "jdk/internal/util/Preconditions" "SIOOBE_FORMATTER" "Ljava/util/function/BiFunction;" (.ref (g.2.2.2.1 9)) (it_A g) U H)
theorem it_oldT.warm {s U : State} (hW : s.WarmedH U.vm) (h : it_oldT s) : it_oldT U := ⟨h.1.moved hW.alike, h.2.1.moved hW.alike, h.2.2.1.warmC hW, fun q hq => (h.2.2.2 q hq).warmM hW⟩
theorem it_oldT.same {u U : State} (hv : U.vm = u.vm) (h : it_oldT u) : it_oldT U := ⟨h.1.moved (hv ▸ Vm.Alike.refl u.vm), h.2.1.moved (hv ▸ Vm.Alike.refl u.vm), h.2.2.1.same rfl hv.symm, fun q hq => (h.2.2.2 q hq).same rfl hv.symm⟩
theorem it_old.warm {g : it_G} {s U : State} {H H1 : Heap} (hW : s.WarmedH U.vm) (hz : H.size ≤ H1.size) (hq : ∀ a : Nat, a < H.size → ¬ it_A g a → H1[a]? = H[a]?) (h : it_old g s H) : it_old g U H1 := by
  obtain ⟨h0, h1, h2, h3, h4, h5, h6, h7, h8, h9, h10, h11, h12, h13⟩ := h
  have hv := hW.alike
  refine ⟨h0.warm hW, (h1.moved hv).kept (hq _ h3 (Nat.not_le.mpr h2)), h2, Nat.lt_of_lt_of_le h3 hz, (h4.moved hv).kept hq, h5.warm hW, h6.warm hW, h7.warm hW, (h8.moved hv).kept hq, (h9.moved hv).kept hq, (h10.moved hv).kept hq, (h11.moved hv).kept hq, (h12.moved hv).kept hq, ?_⟩
  rcases h13 with h | h
  · exact Or.inl ((h.moved hv).kept hq)
  · exact Or.inr ((h.moved hv).kept hq)
theorem it_old.same {g : it_G} {u U : State} {H : Heap} (hv : U.vm = u.vm) (h : it_old g u H) : it_old g U H := by
  obtain ⟨h0, h1, h2, h3, h4, h5, h6, h7, h8, h9, h10, h11, h12, h13⟩ := h
  have ha : u.vm.Alike U.vm := hv ▸ Vm.Alike.refl u.vm
  refine ⟨h0.same hv, h1.moved ha, h2, h3, h4.moved ha, h5.same hv, h6.same hv, h7.same hv, h8.moved ha, h9.moved ha, h10.moved ha, h11.moved ha, h12.moved ha, ?_⟩
  rcases h13 with h | h
  · exact Or.inl (h.moved ha)
  · exact Or.inr (h.moved ha)
end
section
/-! a method's run, by itself: what the machine has around it is hidden -/
abbrev it_M : Type := MethodName × ByteArray × Nat × Option FieldType × Nat × Nat
abbrev it_L : Type := List (Option Value)
def it_tr (g : it_G) : Value → Value
  | .ref k => .ref (g.1 + k)
  | .retAddr k => .ref (g.2.2.2.1 k)
  | v => v
theorem it_tr_cat (g : it_G) (v : Value) : (it_tr g v).category = v.category := by cases v <;> rfl
def it_lv (g : it_G) (L : it_L) : List (Nat × Value) := (List.range L.length).filterMap (fun i => (L[i]?.join).map (fun v => (i, it_tr g v)))
theorem it_lv_mem {g : it_G} {L : it_L} {q : Nat × Value} : q ∈ it_lv g L ↔ ∃ v, L[q.1]? = some (some v) ∧ q.2 = it_tr g v := by
  simp only [it_lv, List.mem_filterMap, List.mem_range, Option.map_eq_some_iff]
  constructor
  · rintro ⟨i, hi, v, hv, rfl⟩
    refine ⟨v, ?_, rfl⟩
    simpa [Option.join_eq_some_iff] using hv
  · rintro ⟨v, hv, h2⟩
    refine ⟨q.1, (List.getElem?_eq_some_iff.mp hv).1, v, ?_, ?_⟩
    · simp [hv]
    · rw [← h2]
def it_kill (L : it_L) (i : Nat) : it_L := match i with
  | 0 => L
  | j + 1 => match L[j]? with
    | some (some (.long _)) => L.set j none
    | some (some (.double _)) => L.set j none
    | _ => L
def it_set (L : it_L) (i : Nat) (v : Value) : it_L := (it_kill L i).set i (some v)
def it_set2 (L : it_L) (i : Nat) (v : Value) : it_L := ((it_kill L i).set (i + 1) none).set i (some v)
theorem it_kill_get {L : it_L} {i j : Nat} {w : Value} (h : (it_kill L i)[j]? = some (some w)) : L[j]? = some (some w) ∧ ¬ (j + 1 = i ∧ w.category = 2) := by
  cases i with
  | zero => exact ⟨h, fun q => by omega⟩
  | succ i =>
    by_cases hj : j = i
    · subst hj
      simp only [it_kill] at h
      split at h
      · rename_i x hx
        rw [List.getElem?_set] at h
        simp at h
      · rename_i x hx
        rw [List.getElem?_set] at h
        simp at h
      · rename_i h1 h2
        refine ⟨h, fun q => ?_⟩
        cases w with
        | long x => exact h1 x h
        | double x => exact h2 x h
        | _ => exact absurd q.2 (by simp [Value.category])
    · refine ⟨?_, fun q => hj (by omega)⟩
      simp only [it_kill] at h
      split at h
      · rw [List.getElem?_set, if_neg (fun q => hj q.symm)] at h
        exact h
      · rw [List.getElem?_set, if_neg (fun q => hj q.symm)] at h
        exact h
      · exact h
theorem it_has_set {g : it_G} {ls : Array Slot} {nL : Nat} {L : it_L} {i : Nat} {v x : Value} (hx : it_tr g v = x) (h : lv_has ls nL ((i, x) :: (it_lv g L).filter (fun q => !(q.1 == i) && !(q.1 + 1 == i && q.2.category == 2)))) : lv_has ls nL (it_lv g (it_set L i v)) := by
  refine ⟨h.1, h.2.1, fun q hq => h.2.2 q ?_⟩
  obtain ⟨w, hw, hq2⟩ := it_lv_mem.mp hq
  rw [it_set, List.getElem?_set] at hw
  by_cases hi : i = q.1
  · rw [if_pos hi] at hw
    split at hw
    · cases hw
      rw [← hx, ← hq2, hi]
      exact List.mem_cons_self
    · cases hw
  · rw [if_neg hi] at hw
    obtain ⟨h1, h2⟩ := it_kill_get hw
    refine List.mem_cons_of_mem _ (List.mem_filter.mpr ⟨it_lv_mem.mpr ⟨w, h1, hq2⟩, ?_⟩)
    rw [hq2, it_tr_cat]
    simp only [Bool.and_eq_true, Bool.not_eq_true', beq_eq_false_iff_ne, ne_eq, Bool.and_eq_false_iff]
    refine ⟨fun q => hi q.symm, ?_⟩
    by_cases h3 : q.1 + 1 = i
    · exact Or.inr (fun q => h2 ⟨h3, by simpa using q⟩)
    · exact Or.inl h3
theorem it_has_set2 {g : it_G} {ls : Array Slot} {nL : Nat} {L : it_L} {i : Nat} {v x : Value} (hx : it_tr g v = x) (h : lv_has ls nL ((i, x) :: (it_lv g L).filter (fun q => !(q.1 == i) && (!(q.1 == i + 1) && !(q.1 + 1 == i && q.2.category == 2))))) : lv_has ls nL (it_lv g (it_set2 L i v)) := by
  refine ⟨h.1, h.2.1, fun q hq => h.2.2 q ?_⟩
  obtain ⟨w, hw, hq2⟩ := it_lv_mem.mp hq
  rw [it_set2, List.getElem?_set] at hw
  by_cases hi : i = q.1
  · rw [if_pos hi] at hw
    split at hw
    · cases hw
      rw [← hx, ← hq2, hi]
      exact List.mem_cons_self
    · cases hw
  · rw [if_neg hi, List.getElem?_set] at hw
    by_cases hi2 : i + 1 = q.1
    · rw [if_pos hi2] at hw
      split at hw <;> cases hw
    · rw [if_neg hi2] at hw
      obtain ⟨h1, h2⟩ := it_kill_get hw
      refine List.mem_cons_of_mem _ (List.mem_filter.mpr ⟨it_lv_mem.mpr ⟨w, h1, hq2⟩, ?_⟩)
      rw [hq2, it_tr_cat]
      simp only [Bool.and_eq_true, Bool.not_eq_true', beq_eq_false_iff_ne, ne_eq, Bool.and_eq_false_iff]
      refine ⟨fun q => hi q.symm, fun q => hi2 q.symm, ?_⟩
      by_cases h3 : q.1 + 1 = i
      · exact Or.inr (fun q => h2 ⟨h3, by simpa using q⟩)
      · exact Or.inl h3
/-- the tables' words that stay as they are -/
def it_tb : List Cond := lw_tbl.filter goodWord
theorem it_in_tb {w : Cond} (h : w ∈ lw_tbl) (hg : goodWord w = true) : w ∈ it_tb := List.mem_filter.mpr ⟨h, hg⟩
theorem it_tb_good {w : Cond} (h : w ∈ it_tb) : goodWord w = true := (List.mem_filter.mp h).2
def it_cx (d : Nat) (M : it_M) (p : Program) (R : Room) (s : State) (m : MethodId) (args : Array Value) (meth : Method) (c : Code) : Prop :=
  p.tables.exec = Jvm.exec ∧ c.code = M.2.1 ∧ c.maxLocals = M.2.2.1 ∧ s.vm.findClass M.1.cls = some m.cls ∧ (∀ w ∈ it_tb, w.before args s = true) ∧ (M.1.name = "<init>" → meth.name = "<init>") ∧ d ≤ R.frames ∧ 60 * d ≤ R.locals ∧ M.2.2.2.2.1 ≤ R.cells ∧ M.2.2.2.2.2 ≤ R.slots
def it_fr (g : it_G) (κ : it_KK) (S : it_SS) (s : State) (H : Heap) (locs : List Loc) : Prop :=
  H.size = g.1 + κ.1 ∧ g.1 ≤ s.heap.size ∧ va_P g.2.1 it_cl (it_ws g κ S) H ∧ va_K g.2.1 it_cl (it_tys g) s ∧ it_old g s s.heap ∧ va_S (it_A g) s.heap H locs
/-- how many cells have come, told exactly (but for the law itself) -/
def it_ex (g : it_G) (κ : it_KK) (kc : Nat) (s : State) : Prop := kc < 1000 → s.heap.size + kc = g.1 + κ.1
def it_ret (M : it_M) (pc : Nat) (v : Option Value) : Prop := match v with
  | none => decode M.2.1 pc = .ok (.return_, 1) ∧ M.2.2.2.1 = none
  | some (.int x) => decode M.2.1 pc = .ok (.ireturn, 1) ∧ ∃ ty, M.2.2.2.1 = some ty ∧ narrow ty (.int x) = .int x
  | some (.long _) => decode M.2.1 pc = .ok (.lreturn, 1) ∧ M.2.2.2.1 = some .long
  | some (.ref _) => decode M.2.1 pc = .ok (.areturn, 1) ∧ ∃ rt, M.2.2.2.1 = some rt ∧ ((∃ n, rt = .object n) ∨ ∃ t, rt = .array t)
  | _ => False
def it_Ev (g : it_G) (l : Launch) (d : Nat) (M : it_M) (kc ks pc : Nat) (L : it_L) (st : List Value) (κ : it_KK) (S : it_SS) (P : Option Value → it_KK → it_SS → Prop) : Prop :=
  ∀ (p : Program) (e : Env) (R : Room) (s : State) (m : MethodId) (args : Array Value) (below : List Frame) (meth : Method) (c : Code) (H : Heap) (locs : List Loc) (ls : Array Slot) (Q : State → Prop),
    it_cx d M p R s m args meth c → it_fr g κ S s H locs → it_ex g κ kc s → lv_has ls M.2.2.1 (it_lv g L) →
    (∀ (v : Option Value) (κ' : it_KK) (S' : it_SS) (H' : Heap) (locs' : List Loc) (pc' : Nat) (ls' : Array Slot), P v κ' S' → it_fr g κ' S' s H' locs' → it_ret M pc' v → W p l e R s m args below meth c H' locs' M.2.2.2.2.1 M.2.2.2.2.2 Q (F0 m pc' ls' (v.toList.map (it_tr g)))) →
    W p l e R s m args below meth c H locs kc ks Q (F0 m pc ls (st.map (it_tr g)))
def it_wd (g : it_G) (κ : it_KK) (S : it_SS) (U : State) : Prop :=
  U.heap.size = g.1 + κ.1 ∧ va_P g.2.1 it_cl (it_ws g κ S) U.heap ∧ va_K g.2.1 it_cl (it_tys g) U ∧ it_old g U U.heap
def it_Qc (g : it_G) (P : Option Value → it_KK → it_SS → Prop) : Array Value → State → Outcome → State → Prop := fun _ st oc t =>
  (∃ (v : Option Value) (κ' : it_KK) (S' : it_SS), oc = .returned (v.map (it_tr g)) ∧ P v κ' S' ∧ t.heap.size = g.1 + κ'.1 ∧ va_P g.2.1 it_cl (it_ws g κ' S') t.heap) ∧ va_F (it_A g) st t
def it_rm (d : Nat) (M : it_M) : Room := { frames := d, cells := M.2.2.2.2.1, slots := M.2.2.2.2.2, locals := 60 * d }
def it_wds (M : it_M) : List Cond := .code M.1 M.2.1 M.2.2.1 M.2.2.2.1 :: it_tb
def it_Cn (g : it_G) (l : Launch) (d : Nat) (M : it_M) (av : List Value) (κ : it_KK) (S : it_SS) (P : Option Value → it_KK → it_SS → Prop) : Prop :=
  Met l M.1 (it_wds M) (it_rm d M) (va_Pc (av.map (it_tr g)) (it_wd g κ S)) (it_Qc g P) M.2.2.2.2.1 M.2.2.2.2.2 (it_A g)
def it_ent : List Value → it_L
  | [] => []
  | v :: vs => if v.category = 2 then some v :: none :: it_ent vs else some v :: it_ent vs
def it_in (n : Nat) (av : List Value) : it_L := it_ent av ++ List.replicate (n - (it_ent av).length) none
theorem it_ent_at (g : it_G) : ∀ (av : List Value) (i o : Nat) (v : Value), (it_ent av)[i]? = some (some v) → (o + i, it_tr g v) ∈ lv_args o (av.map (it_tr g))
  | [], i, o, v, h => by simp [it_ent] at h
  | w :: ws, i, o, v, h => by
    simp only [List.map_cons, lv_args]
    rw [it_tr_cat]
    simp only [it_ent] at h
    by_cases hc : w.category = 2
    · rw [if_pos hc] at h ⊢
      match i, h with
      | 0, h => cases h; exact List.mem_cons_self
      | 1, h => cases h
      | i + 2, h =>
        have := it_ent_at g ws i (o + 2) v h
        rw [show o + (i + 2) = o + 2 + i by omega]
        exact List.mem_cons_of_mem _ this
    · rw [if_neg hc] at h ⊢
      match i, h with
      | 0, h => cases h; exact List.mem_cons_self
      | i + 1, h =>
        have := it_ent_at g ws i (o + 1) v h
        rw [show o + (i + 1) = o + 1 + i by omega]
        exact List.mem_cons_of_mem _ this
theorem it_has_in {g : it_G} {ls : Array Slot} {n : Nat} {av : List Value} (h : lv_has ls n (lv_args 0 (av.map (it_tr g)))) : lv_has ls n (it_lv g (it_in n av)) := by
  refine ⟨h.1, h.2.1, fun q hq => h.2.2 q ?_⟩
  obtain ⟨w, hw, hq2⟩ := it_lv_mem.mp hq
  have h1 : (it_ent av)[q.1]? = some (some w) := by
    rw [it_in] at hw
    by_cases hl : q.1 < (it_ent av).length
    · rwa [List.getElem?_append_left hl] at hw
    · rw [List.getElem?_append_right (by omega)] at hw
      have := List.mem_of_getElem? hw
      simp at this
  have := it_ent_at g av q.1 0 w h1
  rw [Nat.zero_add, ← hq2] at this
  exact this
/-- a contract out of a run -/
theorem it_Cn.of {g : it_G} {l : Launch} {d : Nat} {M : it_M} {av : List Value} {κ : it_KK} {S : it_SS} {P : Option Value → it_KK → it_SS → Prop} (hy : plainName M.1.cls = true) (hl : (lg_sl (av.map (it_tr g))).length ≤ M.2.2.1)
    (h : it_Ev g l d M 0 0 0 (it_in M.2.2.1 av) [] κ S P) : it_Cn g l d M av κ S P := by
  refine Met.ofW (cc := M.2.1) (maxL := M.2.2.1) (ret := M.2.2.2.1) hy rfl ?_
  intro p e s m args below meth c s₁ B hml hv
  obtain ⟨rfl, hsz, hP, hK, hO⟩ := hv
  have hts := atoms_spec (ws := it_wds M) B.pre
  have hlocks := B.notSynchronized
  have hent := lv_entry (av.map (it_tr g)) (n := M.2.2.1) hl
  rw [lg_entry_eq]
  generalize (lg_sl (av.map (it_tr g)) ++ List.replicate (M.2.2.1 - (lg_sl (av.map (it_tr g))).length) Slot.unset).toArray = ls at hent ⊢
  refine h p e (headSpec (it_wds M) (it_rm d M)).room s m _ below meth c s.heap [] ls _ ⟨B.exec, B.bytes, hml, findClass_of_methodNamed B.named, fun w hw => hts w (List.mem_cons_of_mem _ hw), (fun hn => (name_of_methodNamed B.named B.method).1.trans hn), Nat.le_refl _, Nat.le_refl _, Nat.le_refl _, Nat.le_refl _⟩
    ⟨hsz, by rw [hsz]; exact Nat.le_add_right _ _, hP, hK, hO, va_S.rf⟩ (fun _ => hsz) (it_has_in hent) ?_
  intro v κ' S' H' locs' pc' ls' hp hf hr
  have hq : ∀ t : State, t.heap = H' → s.WarmedH t.vm → it_Qc g P (List.map (it_tr g) av).toArray s (.returned (v.map (it_tr g))) t := fun t ht hW =>
    ⟨⟨v, κ', S', rfl, hp, by rw [ht]; exact hf.1, by rw [ht]; exact hf.2.2.1⟩, hf.2.2.2.2.2.F ht⟩
  match v, hr, hq with
  | none, hr, hq => exact W.vret B.exec B.bytes (B.returns.trans hr.2) hq hf.2.2.2.2.2.2.2 hr.1
  | some (.int x), hr, hq =>
    obtain ⟨h1, ty, h2, h3⟩ := hr
    exact W.zret B.exec B.bytes (B.returns.trans h2) h3 hq hf.2.2.2.2.2.2.2 h1
  | some (.long x), hr, hq => exact W.lret B.exec B.bytes (B.returns.trans hr.2) hq hf.2.2.2.2.2.2.2 hr.1
  | some (.ref x), hr, hq =>
    obtain ⟨h1, rt, h2, h3⟩ := hr
    exact W.aret B.exec B.bytes (B.returns.trans h2) h3 (Or.inr ⟨_, rfl⟩) hq hf.2.2.2.2.2.2.2 h1
theorem it_wd.calling {g : it_G} {κ : it_KK} {S : it_SS} {U : State} {f : JFrame} {mk : MethodId} {a : Array Value} (h : it_wd g κ S U) : it_wd g κ S (U.calling f mk a) := by
  obtain ⟨h1, h2, h3, h4⟩ := h
  exact ⟨h1, h2, va_K.moved (u := U) (U := U.calling f mk a) (Vm.Alike.refl U.vm) h3, it_old.same (u := U) rfl h4⟩
theorem it_fr.wd {g : it_G} {κ : it_KK} {S : it_SS} {s U : State} {H : Heap} {locs : List Loc} (h : it_fr g κ S s H locs) (hU : U.heap = H) (hW : s.WarmedH U.vm) : it_wd g κ S U := by
  obtain ⟨h1, h2, h3, h4, h5, h6⟩ := h
  exact ⟨by rw [hU]; exact h1, by rw [hU]; exact h3, va_K.moved hW.alike h4, it_old.warm hW (by rw [hU]; exact h6.1) (fun a ha hn => by rw [hU]; exact h6.2.1 a ha hn) h5⟩
theorem it_after {g : it_G} {p : Program} {l : Launch} {e : Env} {R : Room} {s : State} {m : MethodId} {args : Array Value} {below : List Frame} {meth : Method} {c : Code} {H : Heap} {locs : List Loc} {kc ks mc ms pc : Nat} {ls : Array Slot} {st0 : List Value} {rest : List Value} {Q : State → Prop} {P' : Option Value → it_KK → it_SS → Prop} {a : Array Value} {κ : it_KK} {S : it_SS}
    (hr : va_Run p l e R s m args below meth c H locs kc ks mc ms (F0 m pc ls st0) (rest.map (it_tr g)) (it_Qc g P' a) (it_A g)) (hf : it_fr g κ S s H locs)
    (kk : ∀ (v : Option Value) (κ' : it_KK) (S' : it_SS) (H1 : Heap) (locs1 : List Loc), P' v κ' S' → it_fr g κ' S' s H1 locs1 → W p l e R s m args below meth c H1 locs1 (kc + mc) (ks + ms) Q (F0 m (pc + 3) ls ((v.toList ++ rest).map (it_tr g)))) : W p l e R s m args below meth c H locs kc ks Q (F0 m pc ls st0) := by
  intro T hT X
  obtain ⟨v, st₀, t, T', L, h0, X', hL, e1, e2, ⟨⟨v', κ', S', hv, hp, hz1, hP1⟩, hz, hk⟩, st⟩ := hr T hT X
  cases hv
  rw [h0] at hz hk
  obtain ⟨f1, f2, f3, f4, f5, f6⟩ := hf
  obtain ⟨t2, a1, b1⟩ := kk v' κ' S' T'.heap (locs ++ L) hp ⟨by rw [e1]; exact hz1, f2, by rw [e1]; exact hP1, f4, f5,
    ⟨Nat.le_trans f6.1 (by rw [e1]; exact hz), fun q h1 h2 => by rw [e1, hk q (Nat.lt_of_lt_of_le h1 f6.1) h2]; exact f6.2.1 q h1 h2, fun q hq => by
      rcases List.mem_append.mp hq with h | h
      · exact f6.2.2 q h
      · exact hL q h⟩⟩ T' rfl X'
  refine ⟨t2, st t2 ?_, b1⟩
  cases v' <;> simpa using a1
theorem it_W_sz {p : Program} {l : Launch} {e : Env} {R : Room} {s : State} {m : MethodId} {args : Array Value} {below : List Frame} {meth : Method} {c : Code} {H : Heap} {locs : List Loc} {cells slots : Nat} {Q : State → Prop} {f : JFrame} (h : H.size ≤ s.heap.size + cells → W p l e R s m args below meth c H locs cells slots Q f) : W p l e R s m args below meth c H locs cells slots Q f := fun T hT X => h (by rw [← hT]; exact X.heapSize) T hT X
theorem it_S_here {A : Nat → Prop} {H0 H : Heap} {locs : List Loc} (h : va_S A H0 H locs) : va_S A H H locs := ⟨Nat.le_refl _, fun _ _ _ => rfl, h.2.2⟩
theorem it_S_trans {A : Nat → Prop} {H0 H H1 : Heap} {locs locs1 : List Loc} (h : va_S A H0 H locs) (h1 : va_S A H H1 locs1) : va_S A H0 H1 locs1 := ⟨Nat.le_trans h.1 h1.1, fun q a b => (h1.2.1 q (Nat.lt_of_lt_of_le a h.1) b).trans (h.2.1 q a b), h1.2.2⟩
end
section
section ITR
variable {g : it_G} {l : Launch} {d : Nat} {M : it_M} {kc ks pc : Nat} {L : it_L} {st : List Value} {κ : it_KK} {S : it_SS} {P : Option Value → it_KK → it_SS → Prop}
theorem it_at {ls : Array Slot} {nL i : Nat} {v : Value} (h : lv_has ls nL (it_lv g L)) (hL : L[i]? = some (some v)) : ls[i]? = some (.val (it_tr g v)) := h.2.2 (i, it_tr g v) (it_lv_mem.mpr ⟨v, hL, rfl⟩)
theorem ev_iconst {n : Int} {v : Int32} (hd : decode M.2.1 pc = .ok (.iconst n, 1)) (hv : Int32.ofInt n = v) (k : it_Ev g l d M kc ks (pc + 1) L (.int v :: st) κ S P) : it_Ev g l d M kc ks pc L st κ S P := fun p e R s m args below meth c H locs ls Q C F X hl hq => lv_iconst C.1 C.2.1 hd hv (k p e R s m args below meth c H locs ls Q C F X hl hq)
theorem ev_bipush {n : Int} {v : Int32} (hd : decode M.2.1 pc = .ok (.bipush n, 2)) (hv : (Int8.ofInt n).toInt32 = v) (k : it_Ev g l d M kc ks (pc + 2) L (.int v :: st) κ S P) : it_Ev g l d M kc ks pc L st κ S P := fun p e R s m args below meth c H locs ls Q C F X hl hq => lv_bipush C.1 C.2.1 hd hv (k p e R s m args below meth c H locs ls Q C F X hl hq)
theorem ev_sipush {n : Int} {v : Int32} (hd : decode M.2.1 pc = .ok (.sipush n, 3)) (hv : (Int16.ofInt n).toInt32 = v) (k : it_Ev g l d M kc ks (pc + 3) L (.int v :: st) κ S P) : it_Ev g l d M kc ks pc L st κ S P := fun p e R s m args below meth c H locs ls Q C F X hl hq => lv_sipush C.1 C.2.1 hd hv (k p e R s m args below meth c H locs ls Q C F X hl hq)
theorem ev_lconst {n : Fin 2} {v : Int64} (hd : decode M.2.1 pc = .ok (.lconst n, 1)) (hv : Int64.ofNat n = v) (k : it_Ev g l d M kc ks (pc + 1) L (.long v :: st) κ S P) : it_Ev g l d M kc ks pc L st κ S P := fun p e R s m args below meth c H locs ls Q C F X hl hq => lv_lconst C.1 C.2.1 hd hv (k p e R s m args below meth c H locs ls Q C F X hl hq)
theorem ev_ldc {i : Nat} {v : Int32} (hd : decode M.2.1 pc = .ok (.ldc i, 2)) (hc : Cond.constant M.1.cls i v ∈ it_tb) (k : it_Ev g l d M kc ks (pc + 2) L (.int v :: st) κ S P) : it_Ev g l d M kc ks pc L st κ S P := fun p e R s m args below meth c H locs ls Q C F X hl hq => lv_ldc C.1 C.2.1 C.2.2.2.1 (C.2.2.2.2.1 _ hc) hd (k p e R s m args below meth c H locs ls Q C F X hl hq)
theorem ev_ldcw {i : Nat} {v : Int32} (hd : decode M.2.1 pc = .ok (.ldc_w i, 3)) (hc : Cond.constant M.1.cls i v ∈ it_tb) (k : it_Ev g l d M kc ks (pc + 3) L (.int v :: st) κ S P) : it_Ev g l d M kc ks pc L st κ S P := fun p e R s m args below meth c H locs ls Q C F X hl hq => lv_ldcw C.1 C.2.1 C.2.2.2.1 (C.2.2.2.2.1 _ hc) hd (k p e R s m args below meth c H locs ls Q C F X hl hq)
theorem ev_ldc2 {i : Nat} {v : Int64} (hd : decode M.2.1 pc = .ok (.ldc2_w i, 3)) (hc : Cond.constantLong M.1.cls i v ∈ it_tb) (k : it_Ev g l d M kc ks (pc + 3) L (.long v :: st) κ S P) : it_Ev g l d M kc ks pc L st κ S P := fun p e R s m args below meth c H locs ls Q C F X hl hq => lv_ldc2 C.1 C.2.1 C.2.2.2.1 (C.2.2.2.2.1 _ hc) hd (k p e R s m args below meth c H locs ls Q C F X hl hq)
theorem ev_iload_n {i : Fin 4} {x : Int32} (hd : decode M.2.1 pc = .ok (.iload_n i, 1)) (hL : L[(i : Nat)]? = some (some (.int x))) (k : it_Ev g l d M kc ks (pc + 1) L (.int x :: st) κ S P) : it_Ev g l d M kc ks pc L st κ S P := fun p e R s m args below meth c H locs ls Q C F X hl hq => lv_iload_n C.1 C.2.1 hd rfl (it_at hl hL) (k p e R s m args below meth c H locs ls Q C F X hl hq)
theorem ev_iload {i : Nat} {x : Int32} (hd : decode M.2.1 pc = .ok (.iload i, 2)) (hL : L[i]? = some (some (.int x))) (k : it_Ev g l d M kc ks (pc + 2) L (.int x :: st) κ S P) : it_Ev g l d M kc ks pc L st κ S P := fun p e R s m args below meth c H locs ls Q C F X hl hq => lv_iload C.1 C.2.1 hd (it_at hl hL) (k p e R s m args below meth c H locs ls Q C F X hl hq)
theorem ev_lload_n {i : Fin 4} {x : Int64} (hd : decode M.2.1 pc = .ok (.lload_n i, 1)) (hL : L[(i : Nat)]? = some (some (.long x))) (k : it_Ev g l d M kc ks (pc + 1) L (.long x :: st) κ S P) : it_Ev g l d M kc ks pc L st κ S P := fun p e R s m args below meth c H locs ls Q C F X hl hq => lv_lload_n C.1 C.2.1 hd rfl (it_at hl hL) (k p e R s m args below meth c H locs ls Q C F X hl hq)
theorem ev_lload {i : Nat} {x : Int64} (hd : decode M.2.1 pc = .ok (.lload i, 2)) (hL : L[i]? = some (some (.long x))) (k : it_Ev g l d M kc ks (pc + 2) L (.long x :: st) κ S P) : it_Ev g l d M kc ks pc L st κ S P := fun p e R s m args below meth c H locs ls Q C F X hl hq => lv_lload C.1 C.2.1 hd (it_at hl hL) (k p e R s m args below meth c H locs ls Q C F X hl hq)
theorem ev_aload_n {i : Fin 4} {x : Nat} (hd : decode M.2.1 pc = .ok (.aload_n i, 1)) (hL : L[(i : Nat)]? = some (some (.ref x))) (k : it_Ev g l d M kc ks (pc + 1) L (.ref x :: st) κ S P) : it_Ev g l d M kc ks pc L st κ S P := fun p e R s m args below meth c H locs ls Q C F X hl hq => lv_aload_n C.1 C.2.1 hd rfl (it_at hl hL) (k p e R s m args below meth c H locs ls Q C F X hl hq)
theorem ev_aload {i : Nat} {x : Nat} (hd : decode M.2.1 pc = .ok (.aload i, 2)) (hL : L[i]? = some (some (.ref x))) (k : it_Ev g l d M kc ks (pc + 2) L (.ref x :: st) κ S P) : it_Ev g l d M kc ks pc L st κ S P := fun p e R s m args below meth c H locs ls Q C F X hl hq => lv_aload C.1 C.2.1 hd (it_at hl hL) (k p e R s m args below meth c H locs ls Q C F X hl hq)
theorem ev_aload_nO {i : Fin 4} {x : Nat} (hd : decode M.2.1 pc = .ok (.aload_n i, 1)) (hL : L[(i : Nat)]? = some (some (.retAddr x))) (k : it_Ev g l d M kc ks (pc + 1) L (.retAddr x :: st) κ S P) : it_Ev g l d M kc ks pc L st κ S P := fun p e R s m args below meth c H locs ls Q C F X hl hq => lv_aload_n C.1 C.2.1 hd rfl (it_at hl hL) (k p e R s m args below meth c H locs ls Q C F X hl hq)
theorem ev_aloadO {i : Nat} {x : Nat} (hd : decode M.2.1 pc = .ok (.aload i, 2)) (hL : L[i]? = some (some (.retAddr x))) (k : it_Ev g l d M kc ks (pc + 2) L (.retAddr x :: st) κ S P) : it_Ev g l d M kc ks pc L st κ S P := fun p e R s m args below meth c H locs ls Q C F X hl hq => lv_aload C.1 C.2.1 hd (it_at hl hL) (k p e R s m args below meth c H locs ls Q C F X hl hq)
theorem ev_istore_n {i : Fin 4} {x : Int32} (hd : decode M.2.1 pc = .ok (.istore_n i, 1)) (hn : (i : Nat) < M.2.2.1) (k : it_Ev g l d M kc ks (pc + 1) (it_set L i (.int x)) st κ S P) : it_Ev g l d M kc ks pc L (.int x :: st) κ S P := fun p e R s m args below meth c H locs ls Q C F X hl hq => lv_istore_n C.1 C.2.1 hd rfl hl hn rfl (fun ls1 hl1 => k p e R s m args below meth c H locs ls1 Q C F X (it_has_set rfl hl1) hq)
theorem ev_istore {i : Nat} {x : Int32} (hd : decode M.2.1 pc = .ok (.istore i, 2)) (hn : (i : Nat) < M.2.2.1) (k : it_Ev g l d M kc ks (pc + 2) (it_set L i (.int x)) st κ S P) : it_Ev g l d M kc ks pc L (.int x :: st) κ S P := fun p e R s m args below meth c H locs ls Q C F X hl hq => lv_istore C.1 C.2.1 hd hl hn rfl (fun ls1 hl1 => k p e R s m args below meth c H locs ls1 Q C F X (it_has_set rfl hl1) hq)
theorem ev_lstore_n {i : Fin 4} {x : Int64} (hd : decode M.2.1 pc = .ok (.lstore_n i, 1)) (hn : (i : Nat) + 1 < M.2.2.1) (k : it_Ev g l d M kc ks (pc + 1) (it_set2 L i (.long x)) st κ S P) : it_Ev g l d M kc ks pc L (.long x :: st) κ S P := fun p e R s m args below meth c H locs ls Q C F X hl hq => lv_lstore_n C.1 C.2.1 hd rfl hl hn rfl (fun ls1 hl1 => k p e R s m args below meth c H locs ls1 Q C F X (it_has_set2 rfl hl1) hq)
theorem ev_lstore {i : Nat} {x : Int64} (hd : decode M.2.1 pc = .ok (.lstore i, 2)) (hn : (i : Nat) + 1 < M.2.2.1) (k : it_Ev g l d M kc ks (pc + 2) (it_set2 L i (.long x)) st κ S P) : it_Ev g l d M kc ks pc L (.long x :: st) κ S P := fun p e R s m args below meth c H locs ls Q C F X hl hq => lv_lstore C.1 C.2.1 hd hl hn rfl (fun ls1 hl1 => k p e R s m args below meth c H locs ls1 Q C F X (it_has_set2 rfl hl1) hq)
theorem ev_astore_n {i : Fin 4} {x : Nat} (hd : decode M.2.1 pc = .ok (.astore_n i, 1)) (hn : (i : Nat) < M.2.2.1) (k : it_Ev g l d M kc ks (pc + 1) (it_set L i (.ref x)) st κ S P) : it_Ev g l d M kc ks pc L (.ref x :: st) κ S P := fun p e R s m args below meth c H locs ls Q C F X hl hq => lv_astore_n C.1 C.2.1 hd rfl hl hn rfl (fun ls1 hl1 => k p e R s m args below meth c H locs ls1 Q C F X (it_has_set rfl hl1) hq)
theorem ev_astore {i : Nat} {x : Nat} (hd : decode M.2.1 pc = .ok (.astore i, 2)) (hn : (i : Nat) < M.2.2.1) (k : it_Ev g l d M kc ks (pc + 2) (it_set L i (.ref x)) st κ S P) : it_Ev g l d M kc ks pc L (.ref x :: st) κ S P := fun p e R s m args below meth c H locs ls Q C F X hl hq => lv_astore C.1 C.2.1 hd hl hn rfl (fun ls1 hl1 => k p e R s m args below meth c H locs ls1 Q C F X (it_has_set rfl hl1) hq)
theorem ev_iinc {i : Nat} {n : Int} {x c1 : Int32} (hd : decode M.2.1 pc = .ok (.iinc i n, 3)) (hc : Int32.ofInt n = c1) (hL : L[i]? = some (some (.int x))) (hn : i < M.2.2.1) (k : it_Ev g l d M kc ks (pc + 3) (it_set L i (.int (x + c1))) st κ S P) : it_Ev g l d M kc ks pc L st κ S P := by
  intro p e R s m args below meth c H locs ls Q C F X hl hq
  obtain ⟨j, hj⟩ := List.mem_iff_getElem?.mp (it_lv_mem (g := g) (L := L) (q := (i, .int x)).mpr ⟨.int x, hL, rfl⟩)
  exact lv_iinc (v := x + c1) C.1 C.2.1 hd hl hj (by rw [hc]) hn rfl (fun ls1 hl1 => k p e R s m args below meth c H locs ls1 Q C F X (it_has_set rfl hl1) hq)
theorem ev_iadd {x y : Int32} (hd : decode M.2.1 pc = .ok (.iadd, 1)) (k : it_Ev g l d M kc ks (pc + 1) L (.int (x + y) :: st) κ S P) : it_Ev g l d M kc ks pc L (.int y :: .int x :: st) κ S P := fun p e R s m args below meth c H locs ls Q C F X hl hq => lv_iadd C.1 C.2.1 hd (k p e R s m args below meth c H locs ls Q C F X hl hq)
theorem ev_isub {x y : Int32} (hd : decode M.2.1 pc = .ok (.isub, 1)) (k : it_Ev g l d M kc ks (pc + 1) L (.int (x - y) :: st) κ S P) : it_Ev g l d M kc ks pc L (.int y :: .int x :: st) κ S P := fun p e R s m args below meth c H locs ls Q C F X hl hq => lv_isub C.1 C.2.1 hd (k p e R s m args below meth c H locs ls Q C F X hl hq)
theorem ev_imul {x y : Int32} (hd : decode M.2.1 pc = .ok (.imul, 1)) (k : it_Ev g l d M kc ks (pc + 1) L (.int (x * y) :: st) κ S P) : it_Ev g l d M kc ks pc L (.int y :: .int x :: st) κ S P := fun p e R s m args below meth c H locs ls Q C F X hl hq => lv_imul C.1 C.2.1 hd (k p e R s m args below meth c H locs ls Q C F X hl hq)
theorem ev_iand {x y : Int32} (hd : decode M.2.1 pc = .ok (.iand, 1)) (k : it_Ev g l d M kc ks (pc + 1) L (.int (x &&& y) :: st) κ S P) : it_Ev g l d M kc ks pc L (.int y :: .int x :: st) κ S P := fun p e R s m args below meth c H locs ls Q C F X hl hq => lv_iand C.1 C.2.1 hd (k p e R s m args below meth c H locs ls Q C F X hl hq)
theorem ev_ior {x y : Int32} (hd : decode M.2.1 pc = .ok (.ior, 1)) (k : it_Ev g l d M kc ks (pc + 1) L (.int (x ||| y) :: st) κ S P) : it_Ev g l d M kc ks pc L (.int y :: .int x :: st) κ S P := fun p e R s m args below meth c H locs ls Q C F X hl hq => lv_ior C.1 C.2.1 hd (k p e R s m args below meth c H locs ls Q C F X hl hq)
theorem ev_ixor {x y : Int32} (hd : decode M.2.1 pc = .ok (.ixor, 1)) (k : it_Ev g l d M kc ks (pc + 1) L (.int (x ^^^ y) :: st) κ S P) : it_Ev g l d M kc ks pc L (.int y :: .int x :: st) κ S P := fun p e R s m args below meth c H locs ls Q C F X hl hq => lv_ixor C.1 C.2.1 hd (k p e R s m args below meth c H locs ls Q C F X hl hq)
theorem ev_ishl {x y : Int32} (hd : decode M.2.1 pc = .ok (.ishl, 1)) (k : it_Ev g l d M kc ks (pc + 1) L (.int (x <<< (y &&& 31)) :: st) κ S P) : it_Ev g l d M kc ks pc L (.int y :: .int x :: st) κ S P := fun p e R s m args below meth c H locs ls Q C F X hl hq => lv_ishl C.1 C.2.1 hd (k p e R s m args below meth c H locs ls Q C F X hl hq)
theorem ev_ishr {x y : Int32} (hd : decode M.2.1 pc = .ok (.ishr, 1)) (k : it_Ev g l d M kc ks (pc + 1) L (.int (x >>> (y &&& 31)) :: st) κ S P) : it_Ev g l d M kc ks pc L (.int y :: .int x :: st) κ S P := fun p e R s m args below meth c H locs ls Q C F X hl hq => lv_ishr C.1 C.2.1 hd (k p e R s m args below meth c H locs ls Q C F X hl hq)
theorem ev_iushr {x y : Int32} (hd : decode M.2.1 pc = .ok (.iushr, 1)) (k : it_Ev g l d M kc ks (pc + 1) L (.int ((x.toUInt32 >>> (y.toUInt32 &&& Int32.toUInt32 31)).toInt32) :: st) κ S P) : it_Ev g l d M kc ks pc L (.int y :: .int x :: st) κ S P := fun p e R s m args below meth c H locs ls Q C F X hl hq => lv_iushr C.1 C.2.1 hd rfl (k p e R s m args below meth c H locs ls Q C F X hl hq)
theorem ev_idiv {x y : Int32} (hd : decode M.2.1 pc = .ok (.idiv, 1)) (hne : ¬ y = 0) (k : it_Ev g l d M kc ks (pc + 1) L (.int (x / y) :: st) κ S P) : it_Ev g l d M kc ks pc L (.int y :: .int x :: st) κ S P := fun p e R s m args below meth c H locs ls Q C F X hl hq => lv_idiv C.1 C.2.1 hd hne (k p e R s m args below meth c H locs ls Q C F X hl hq)
theorem ev_irem {x y : Int32} (hd : decode M.2.1 pc = .ok (.irem, 1)) (hne : ¬ y = 0) (k : it_Ev g l d M kc ks (pc + 1) L (.int (x - x / y * y) :: st) κ S P) : it_Ev g l d M kc ks pc L (.int y :: .int x :: st) κ S P := fun p e R s m args below meth c H locs ls Q C F X hl hq => lv_irem C.1 C.2.1 hd hne (k p e R s m args below meth c H locs ls Q C F X hl hq)
theorem ev_ladd {x y : Int64} (hd : decode M.2.1 pc = .ok (.ladd, 1)) (k : it_Ev g l d M kc ks (pc + 1) L (.long (x + y) :: st) κ S P) : it_Ev g l d M kc ks pc L (.long y :: .long x :: st) κ S P := fun p e R s m args below meth c H locs ls Q C F X hl hq => lv_ladd C.1 C.2.1 hd (k p e R s m args below meth c H locs ls Q C F X hl hq)
theorem ev_lsub {x y : Int64} (hd : decode M.2.1 pc = .ok (.lsub, 1)) (k : it_Ev g l d M kc ks (pc + 1) L (.long (x - y) :: st) κ S P) : it_Ev g l d M kc ks pc L (.long y :: .long x :: st) κ S P := fun p e R s m args below meth c H locs ls Q C F X hl hq => lv_lsub C.1 C.2.1 hd (k p e R s m args below meth c H locs ls Q C F X hl hq)
theorem ev_lmul {x y : Int64} (hd : decode M.2.1 pc = .ok (.lmul, 1)) (k : it_Ev g l d M kc ks (pc + 1) L (.long (x * y) :: st) κ S P) : it_Ev g l d M kc ks pc L (.long y :: .long x :: st) κ S P := fun p e R s m args below meth c H locs ls Q C F X hl hq => lv_lmul C.1 C.2.1 hd (k p e R s m args below meth c H locs ls Q C F X hl hq)
theorem ev_ldiv {x y : Int64} (hd : decode M.2.1 pc = .ok (.ldiv, 1)) (hne : ¬ y = 0) (k : it_Ev g l d M kc ks (pc + 1) L (.long (x / y) :: st) κ S P) : it_Ev g l d M kc ks pc L (.long y :: .long x :: st) κ S P := fun p e R s m args below meth c H locs ls Q C F X hl hq => lv_ldiv C.1 C.2.1 hd hne (k p e R s m args below meth c H locs ls Q C F X hl hq)
theorem ev_lrem {x y : Int64} (hd : decode M.2.1 pc = .ok (.lrem, 1)) (hne : ¬ y = 0) (k : it_Ev g l d M kc ks (pc + 1) L (.long (x - x / y * y) :: st) κ S P) : it_Ev g l d M kc ks pc L (.long y :: .long x :: st) κ S P := fun p e R s m args below meth c H locs ls Q C F X hl hq => lv_lrem C.1 C.2.1 hd hne (k p e R s m args below meth c H locs ls Q C F X hl hq)
theorem ev_lcmp {x y : Int64} (hd : decode M.2.1 pc = .ok (.lcmp, 1)) (k : it_Ev g l d M kc ks (pc + 1) L (.int (lg_cmp x y) :: st) κ S P) : it_Ev g l d M kc ks pc L (.long y :: .long x :: st) κ S P := fun p e R s m args below meth c H locs ls Q C F X hl hq => W.lcmp C.1 C.2.1 hd (k p e R s m args below meth c H locs ls Q C F X hl hq)
theorem ev_ineg {x : Int32} (hd : decode M.2.1 pc = .ok (.ineg, 1)) (k : it_Ev g l d M kc ks (pc + 1) L (.int (-x) :: st) κ S P) : it_Ev g l d M kc ks pc L (.int x :: st) κ S P := fun p e R s m args below meth c H locs ls Q C F X hl hq => lv_ineg C.1 C.2.1 hd (k p e R s m args below meth c H locs ls Q C F X hl hq)
theorem ev_lneg {x : Int64} (hd : decode M.2.1 pc = .ok (.lneg, 1)) (k : it_Ev g l d M kc ks (pc + 1) L (.long (-x) :: st) κ S P) : it_Ev g l d M kc ks pc L (.long x :: st) κ S P := fun p e R s m args below meth c H locs ls Q C F X hl hq => lv_lneg C.1 C.2.1 hd (k p e R s m args below meth c H locs ls Q C F X hl hq)
theorem ev_i2b {x : Int32} (hd : decode M.2.1 pc = .ok (.i2b, 1)) (k : it_Ev g l d M kc ks (pc + 1) L (.int (x.toInt8.toInt32) :: st) κ S P) : it_Ev g l d M kc ks pc L (.int x :: st) κ S P := fun p e R s m args below meth c H locs ls Q C F X hl hq => lv_i2b C.1 C.2.1 hd rfl (k p e R s m args below meth c H locs ls Q C F X hl hq)
theorem ev_i2s {x : Int32} (hd : decode M.2.1 pc = .ok (.i2s, 1)) (k : it_Ev g l d M kc ks (pc + 1) L (.int (x.toInt16.toInt32) :: st) κ S P) : it_Ev g l d M kc ks pc L (.int x :: st) κ S P := fun p e R s m args below meth c H locs ls Q C F X hl hq => lv_i2s C.1 C.2.1 hd rfl (k p e R s m args below meth c H locs ls Q C F X hl hq)
theorem ev_i2c {x : Int32} (hd : decode M.2.1 pc = .ok (.i2c, 1)) (k : it_Ev g l d M kc ks (pc + 1) L (.int ((x.toUInt32 % 65536).toInt32) :: st) κ S P) : it_Ev g l d M kc ks pc L (.int x :: st) κ S P := fun p e R s m args below meth c H locs ls Q C F X hl hq => lv_i2c C.1 C.2.1 hd rfl (k p e R s m args below meth c H locs ls Q C F X hl hq)
theorem ev_i2l {x : Int32} (hd : decode M.2.1 pc = .ok (.i2l, 1)) (k : it_Ev g l d M kc ks (pc + 1) L (.long x.toInt64 :: st) κ S P) : it_Ev g l d M kc ks pc L (.int x :: st) κ S P := fun p e R s m args below meth c H locs ls Q C F X hl hq => lv_i2l C.1 C.2.1 hd rfl (k p e R s m args below meth c H locs ls Q C F X hl hq)
theorem ev_l2i {x : Int64} (hd : decode M.2.1 pc = .ok (.l2i, 1)) (k : it_Ev g l d M kc ks (pc + 1) L (.int x.toInt32 :: st) κ S P) : it_Ev g l d M kc ks pc L (.long x :: st) κ S P := fun p e R s m args below meth c H locs ls Q C F X hl hq => lv_l2i C.1 C.2.1 hd rfl (k p e R s m args below meth c H locs ls Q C F X hl hq)
theorem ev_dup {v : Value} (hd : decode M.2.1 pc = .ok (.dup, 1)) (hv : v.category = 1) (k : it_Ev g l d M kc ks (pc + 1) L (v :: v :: st) κ S P) : it_Ev g l d M kc ks pc L (v :: st) κ S P := fun p e R s m args below meth c H locs ls Q C F X hl hq => lv_dup C.1 C.2.1 hd ((it_tr_cat g v).trans hv) (k p e R s m args below meth c H locs ls Q C F X hl hq)
theorem ev_pop {v : Value} (hd : decode M.2.1 pc = .ok (.pop, 1)) (hv : v.category = 1) (k : it_Ev g l d M kc ks (pc + 1) L st κ S P) : it_Ev g l d M kc ks pc L (v :: st) κ S P := fun p e R s m args below meth c H locs ls Q C F X hl hq => lv_pop C.1 C.2.1 hd ((it_tr_cat g v).trans hv) (k p e R s m args below meth c H locs ls Q C F X hl hq)
theorem ev_if_eq {x : Int32} {off : Int} {tgt : Nat} (hd : decode M.2.1 pc = .ok (.ifCond .eq off, 3)) (ht : (pc : Int) + off = (tgt : Int)) (kt : x = 0 → it_Ev g l d M kc ks tgt L st κ S P) (kf : ¬ x = 0 → it_Ev g l d M kc ks (pc + 3) L st κ S P) : it_Ev g l d M kc ks pc L (.int x :: st) κ S P := fun p e R s m args below meth c H locs ls Q C F X hl hq => lv_if_eq C.1 C.2.1 hd ht (fun h => kt h p e R s m args below meth c H locs ls Q C F X hl hq) (fun h => kf h p e R s m args below meth c H locs ls Q C F X hl hq)
theorem ev_icmp_eq {x y : Int32} {off : Int} {tgt : Nat} (hd : decode M.2.1 pc = .ok (.if_icmp .eq off, 3)) (ht : (pc : Int) + off = (tgt : Int)) (kt : x = y → it_Ev g l d M kc ks tgt L st κ S P) (kf : ¬ x = y → it_Ev g l d M kc ks (pc + 3) L st κ S P) : it_Ev g l d M kc ks pc L (.int y :: .int x :: st) κ S P := fun p e R s m args below meth c H locs ls Q C F X hl hq => lv_icmp_eq C.1 C.2.1 hd ht (fun h => kt h p e R s m args below meth c H locs ls Q C F X hl hq) (fun h => kf h p e R s m args below meth c H locs ls Q C F X hl hq)
theorem ev_if_ne {x : Int32} {off : Int} {tgt : Nat} (hd : decode M.2.1 pc = .ok (.ifCond .ne off, 3)) (ht : (pc : Int) + off = (tgt : Int)) (kt : ¬ x = 0 → it_Ev g l d M kc ks tgt L st κ S P) (kf : x = 0 → it_Ev g l d M kc ks (pc + 3) L st κ S P) : it_Ev g l d M kc ks pc L (.int x :: st) κ S P := fun p e R s m args below meth c H locs ls Q C F X hl hq => lv_if_ne C.1 C.2.1 hd ht (fun h => kt h p e R s m args below meth c H locs ls Q C F X hl hq) (fun h => kf h p e R s m args below meth c H locs ls Q C F X hl hq)
theorem ev_icmp_ne {x y : Int32} {off : Int} {tgt : Nat} (hd : decode M.2.1 pc = .ok (.if_icmp .ne off, 3)) (ht : (pc : Int) + off = (tgt : Int)) (kt : ¬ x = y → it_Ev g l d M kc ks tgt L st κ S P) (kf : x = y → it_Ev g l d M kc ks (pc + 3) L st κ S P) : it_Ev g l d M kc ks pc L (.int y :: .int x :: st) κ S P := fun p e R s m args below meth c H locs ls Q C F X hl hq => lv_icmp_ne C.1 C.2.1 hd ht (fun h => kt h p e R s m args below meth c H locs ls Q C F X hl hq) (fun h => kf h p e R s m args below meth c H locs ls Q C F X hl hq)
theorem ev_if_lt {x : Int32} {off : Int} {tgt : Nat} (hd : decode M.2.1 pc = .ok (.ifCond .lt off, 3)) (ht : (pc : Int) + off = (tgt : Int)) (kt : x < 0 → it_Ev g l d M kc ks tgt L st κ S P) (kf : ¬ x < 0 → it_Ev g l d M kc ks (pc + 3) L st κ S P) : it_Ev g l d M kc ks pc L (.int x :: st) κ S P := fun p e R s m args below meth c H locs ls Q C F X hl hq => lv_if_lt C.1 C.2.1 hd ht (fun h => kt h p e R s m args below meth c H locs ls Q C F X hl hq) (fun h => kf h p e R s m args below meth c H locs ls Q C F X hl hq)
theorem ev_icmp_lt {x y : Int32} {off : Int} {tgt : Nat} (hd : decode M.2.1 pc = .ok (.if_icmp .lt off, 3)) (ht : (pc : Int) + off = (tgt : Int)) (kt : x < y → it_Ev g l d M kc ks tgt L st κ S P) (kf : ¬ x < y → it_Ev g l d M kc ks (pc + 3) L st κ S P) : it_Ev g l d M kc ks pc L (.int y :: .int x :: st) κ S P := fun p e R s m args below meth c H locs ls Q C F X hl hq => lv_icmp_lt C.1 C.2.1 hd ht (fun h => kt h p e R s m args below meth c H locs ls Q C F X hl hq) (fun h => kf h p e R s m args below meth c H locs ls Q C F X hl hq)
theorem ev_if_ge {x : Int32} {off : Int} {tgt : Nat} (hd : decode M.2.1 pc = .ok (.ifCond .ge off, 3)) (ht : (pc : Int) + off = (tgt : Int)) (kt : 0 ≤ x → it_Ev g l d M kc ks tgt L st κ S P) (kf : ¬ 0 ≤ x → it_Ev g l d M kc ks (pc + 3) L st κ S P) : it_Ev g l d M kc ks pc L (.int x :: st) κ S P := fun p e R s m args below meth c H locs ls Q C F X hl hq => lv_if_ge C.1 C.2.1 hd ht (fun h => kt h p e R s m args below meth c H locs ls Q C F X hl hq) (fun h => kf h p e R s m args below meth c H locs ls Q C F X hl hq)
theorem ev_icmp_ge {x y : Int32} {off : Int} {tgt : Nat} (hd : decode M.2.1 pc = .ok (.if_icmp .ge off, 3)) (ht : (pc : Int) + off = (tgt : Int)) (kt : y ≤ x → it_Ev g l d M kc ks tgt L st κ S P) (kf : ¬ y ≤ x → it_Ev g l d M kc ks (pc + 3) L st κ S P) : it_Ev g l d M kc ks pc L (.int y :: .int x :: st) κ S P := fun p e R s m args below meth c H locs ls Q C F X hl hq => lv_icmp_ge C.1 C.2.1 hd ht (fun h => kt h p e R s m args below meth c H locs ls Q C F X hl hq) (fun h => kf h p e R s m args below meth c H locs ls Q C F X hl hq)
theorem ev_if_gt {x : Int32} {off : Int} {tgt : Nat} (hd : decode M.2.1 pc = .ok (.ifCond .gt off, 3)) (ht : (pc : Int) + off = (tgt : Int)) (kt : 0 < x → it_Ev g l d M kc ks tgt L st κ S P) (kf : ¬ 0 < x → it_Ev g l d M kc ks (pc + 3) L st κ S P) : it_Ev g l d M kc ks pc L (.int x :: st) κ S P := fun p e R s m args below meth c H locs ls Q C F X hl hq => lv_if_gt C.1 C.2.1 hd ht (fun h => kt h p e R s m args below meth c H locs ls Q C F X hl hq) (fun h => kf h p e R s m args below meth c H locs ls Q C F X hl hq)
theorem ev_icmp_gt {x y : Int32} {off : Int} {tgt : Nat} (hd : decode M.2.1 pc = .ok (.if_icmp .gt off, 3)) (ht : (pc : Int) + off = (tgt : Int)) (kt : y < x → it_Ev g l d M kc ks tgt L st κ S P) (kf : ¬ y < x → it_Ev g l d M kc ks (pc + 3) L st κ S P) : it_Ev g l d M kc ks pc L (.int y :: .int x :: st) κ S P := fun p e R s m args below meth c H locs ls Q C F X hl hq => lv_icmp_gt C.1 C.2.1 hd ht (fun h => kt h p e R s m args below meth c H locs ls Q C F X hl hq) (fun h => kf h p e R s m args below meth c H locs ls Q C F X hl hq)
theorem ev_if_le {x : Int32} {off : Int} {tgt : Nat} (hd : decode M.2.1 pc = .ok (.ifCond .le off, 3)) (ht : (pc : Int) + off = (tgt : Int)) (kt : x ≤ 0 → it_Ev g l d M kc ks tgt L st κ S P) (kf : ¬ x ≤ 0 → it_Ev g l d M kc ks (pc + 3) L st κ S P) : it_Ev g l d M kc ks pc L (.int x :: st) κ S P := fun p e R s m args below meth c H locs ls Q C F X hl hq => lv_if_le C.1 C.2.1 hd ht (fun h => kt h p e R s m args below meth c H locs ls Q C F X hl hq) (fun h => kf h p e R s m args below meth c H locs ls Q C F X hl hq)
theorem ev_icmp_le {x y : Int32} {off : Int} {tgt : Nat} (hd : decode M.2.1 pc = .ok (.if_icmp .le off, 3)) (ht : (pc : Int) + off = (tgt : Int)) (kt : x ≤ y → it_Ev g l d M kc ks tgt L st κ S P) (kf : ¬ x ≤ y → it_Ev g l d M kc ks (pc + 3) L st κ S P) : it_Ev g l d M kc ks pc L (.int y :: .int x :: st) κ S P := fun p e R s m args below meth c H locs ls Q C F X hl hq => lv_icmp_le C.1 C.2.1 hd ht (fun h => kt h p e R s m args below meth c H locs ls Q C F X hl hq) (fun h => kf h p e R s m args below meth c H locs ls Q C F X hl hq)
theorem ev_goto {off : Int} {tgt : Nat} (hd : decode M.2.1 pc = .ok (.goto off, 3)) (ht : (pc : Int) + off = (tgt : Int)) (k : it_Ev g l d M kc ks tgt L st κ S P) : it_Ev g l d M kc ks pc L st κ S P := fun p e R s m args below meth c H locs ls Q C F X hl hq => lv_goto C.1 C.2.1 hd ht (k p e R s m args below meth c H locs ls Q C F X hl hq)
theorem ev_ifnonnull {off : Int} {tgt x : Nat} (hd : decode M.2.1 pc = .ok (.ifnonnull off, 3)) (ht : (pc : Int) + off = (tgt : Int)) (k : it_Ev g l d M kc ks tgt L st κ S P) : it_Ev g l d M kc ks pc L (.ref x :: st) κ S P := fun p e R s m args below meth c H locs ls Q C F X hl hq => lv_ifnonnull C.1 C.2.1 hd ht (k p e R s m args below meth c H locs ls Q C F X hl hq)
theorem ev_tableIn {dflt lo hi : Int} {offs : Array Int} {len : Nat} {x : Int32} {off : Int} {tgt : Nat} (hd : decode M.2.1 pc = .ok (.tableswitch dflt lo hi offs, len)) (h1 : ¬ x.toInt < lo) (h2 : ¬ hi < x.toInt) (ho : offs[(x.toInt - lo).toNat]? = some off) (ht : (pc : Int) + off = (tgt : Int)) (k : it_Ev g l d M kc ks tgt L st κ S P) : it_Ev g l d M kc ks pc L (.int x :: st) κ S P := fun p e R s m args below meth c H locs ls Q C F X hl hq => lv_tableIn C.1 C.2.1 hd h1 h2 ho ht (k p e R s m args below meth c H locs ls Q C F X hl hq)
theorem ev_tableOut {dflt lo hi : Int} {offs : Array Int} {len : Nat} {x : Int32} {tgt : Nat} (hd : decode M.2.1 pc = .ok (.tableswitch dflt lo hi offs, len)) (h : x.toInt < lo ∨ hi < x.toInt) (ht : (pc : Int) + dflt = (tgt : Int)) (k : it_Ev g l d M kc ks tgt L st κ S P) : it_Ev g l d M kc ks pc L (.int x :: st) κ S P := fun p e R s m args below meth c H locs ls Q C F X hl hq => lv_tableOut C.1 C.2.1 hd h ht (k p e R s m args below meth c H locs ls Q C F X hl hq)
theorem ev_lookup {dflt : Int} {ps : Array (Int × Int)} {len : Nat} {x : Int32} {off : Int} {tgt : Nat} (hd : decode M.2.1 pc = .ok (.lookupswitch dflt ps, len)) (hp : (ps.toList.zip (ps.toList.drop 1)).all (fun (a, next) => a.1 < next.1) = true) (ho : Op.lookupswitch.offset ps.toList dflt x.toInt = off) (ht : (pc : Int) + off = (tgt : Int)) (k : it_Ev g l d M kc ks tgt L st κ S P) : it_Ev g l d M kc ks pc L (.int x :: st) κ S P := fun p e R s m args below meth c H locs ls Q C F X hl hq => lv_lookup C.1 C.2.1 hd hp ho ht (k p e R s m args below meth c H locs ls Q C F X hl hq)
theorem ev_ret {v : Option Value} {L1 : it_L} (hr : it_ret M pc v) (hc : kc ≤ M.2.2.2.2.1) (hs : ks ≤ M.2.2.2.2.2) (h : P v κ S) : it_Ev g l d M kc ks pc L1 v.toList κ S P := fun p e R s m args below meth c H locs ls Q C F X hl hq => W.widen hc hs (hq v κ S H locs pc ls h F hr)
theorem ev_mono {P1 : Option Value → it_KK → it_SS → Prop} (h : it_Ev g l d M kc ks pc L st κ S P1) (hP : ∀ v κ' S', P1 v κ' S' → P v κ' S') : it_Ev g l d M kc ks pc L st κ S P := fun p e R s m args below meth c H locs ls Q C F X hl hq => h p e R s m args below meth c H locs ls Q C F X hl (fun v κ' S' H' locs' pc' ls' h1 => hq v κ' S' H' locs' pc' ls' (hP v κ' S' h1))
theorem ev_forget {L1 : it_L} (hL : ∀ (i : Nat) (v : Value), L1[i]? = some (some v) → L[i]? = some (some v)) (h : it_Ev g l d M kc ks pc L1 st κ S P) : it_Ev g l d M kc ks pc L st κ S P := fun p e R s m args below meth c H locs ls Q C F X hl hq => h p e R s m args below meth c H locs ls Q C F X ⟨hl.1, hl.2.1, fun q hq => by
  obtain ⟨v, hv, h2⟩ := it_lv_mem.mp hq
  exact hl.2.2 q (it_lv_mem.mpr ⟨v, hL _ _ hv, h2⟩)⟩ hq
def it_sub : it_L → it_L → Bool
  | [], _ => true
  | none :: r, [] => it_sub r []
  | some _ :: _, [] => false
  | none :: r, _ :: q => it_sub r q
  | some a :: r, some b :: q => decide (a = b) && it_sub r q
  | some _ :: _, none :: _ => false
theorem ev_depth {d1 : Nat} (hd : d1 ≤ d) (h : it_Ev g l d1 M kc ks pc L st κ S P) : it_Ev g l d M kc ks pc L st κ S P := fun p e R s m args below meth c H locs ls Q C F X hl hq => h p e R s m args below meth c H locs ls Q ⟨C.1, C.2.1, C.2.2.1, C.2.2.2.1, C.2.2.2.2.1, C.2.2.2.2.2.1, Nat.le_trans hd C.2.2.2.2.2.2.1, Nat.le_trans (Nat.mul_le_mul_left 60 hd) C.2.2.2.2.2.2.2.1, C.2.2.2.2.2.2.2.2⟩ F X hl hq
/-- field k of class ci, by entry i of a class's own table -/
def it_fl (own : String) (i ci k : Nat) : Prop := ∃ (C : String) (T : u_T) (N : Nat), it_cl[ci]? = some (C, T, N) ∧ k < N ∧ (∀ w ∈ u_ws C T N, w ∈ it_tb) ∧ Cond.fieldLink own i C (T k).2.1 (T k).2.2.1 ∈ it_tb ∧ (T k).1 = C
/-- it may be written, and holds what is of a type -/
def it_fw (ci k : Nat) (fin : Bool) (ty : FieldType) : Prop := ∃ (C : String) (T : u_T) (N : Nat) (t : Nat → FieldType), it_cl[ci]? = some (C, T, N) ∧ (∀ k, k < N → parseFieldDescriptor (T k).2.2.1 = some (t k)) ∧ (∀ a, a < N → ∀ b, b < N → a ≠ b → (T a).2.1 ≠ (T b).2.1) ∧ (T k).2.2.2 = fin ∧ t k = ty ∧ (it_mask ci).length = N
theorem it_fr.D {s : State} {H : Heap} {locs : List Loc} (F : it_fr g κ S s H locs) : ∀ q, s.heap.size ≤ q → it_A g q := fun q h => Nat.le_trans F.2.1 h
theorem ev_get {a ci k i n : Nat} {r : Bool} {v : Value} (hd : decode M.2.1 pc = .ok (.getfield i, 3)) (hf : it_fl M.1.cls i ci k) (ha : a < κ.1) (hk : κ.2.1 a = (ci + 3, n)) (hm : (it_mask ci)[k]? = some r) (hv : it_fld g κ S ci a k r = it_tr g v) (kk : it_Ev g l d M kc ks (pc + 3) L (v :: st) κ S P) : it_Ev g l d M kc ks pc L (.ref a :: st) κ S P := by
  intro p e R s m args below meth c H locs ls Q C F X hl hq
  obtain ⟨cn, T, N, h1, h2, h3, h4, h5⟩ := hf
  refine va_get C.1 C.2.1 (C.2.2.2.2.1) h3 C.2.2.2.1 F.2.2.2.1 F.2.2.1 a (by rw [it_ws_get ha, it_ce_ob hk]) h1 k h2 (C.2.2.2.2.1 _ h4) (fun x hx => by rw [h5] at hx; exact hx) (v := it_tr g v) (by rw [it_fs_get hm, hv]) hd (kk p e R s m args below meth c H locs ls Q C F X hl hq)
theorem ev_getI {a ci k i : Nat} (hd : decode M.2.1 pc = .ok (.getfield i, 3)) (hf : it_fl M.1.cls i ci k) (ho : it_ob κ a ci) (hm : (it_mask ci)[k]? = some false) (kk : it_Ev g l d M kc ks (pc + 3) L (.int (S a k) :: st) κ S P) : it_Ev g l d M kc ks pc L (.ref a :: st) κ S P :=
  ev_get hd hf ho.1 ho.2.1 hm (v := .int (S a k)) rfl kk
theorem ev_getR {a ci k i : Nat} (hd : decode M.2.1 pc = .ok (.getfield i, 3)) (hf : it_fl M.1.cls i ci k) (ho : it_ob κ a ci) (hm : (it_mask ci)[k]? = some true) (kk : it_Ev g l d M kc ks (pc + 3) L (.ref (it_lay ci k a) :: st) κ S P) : it_Ev g l d M kc ks pc L (.ref a :: st) κ S P :=
  ev_get hd hf ho.1 ho.2.1 hm (v := .ref (it_lay ci k a)) (by simp [it_fld, ho.2.2, it_tr]) kk
theorem it_fr.put {s : State} {H H1 : Heap} {locs locs1 : List Loc} {κ1 : it_KK} {S1 : it_SS} (F : it_fr g κ S s H locs) (hc : κ1.1 = κ.1) (X : it_ex g κ kc s) (hM : kc < 1000) (hz : H1.size ≤ s.heap.size + kc) (hP : va_P g.2.1 it_cl (it_ws g κ1 S1) H1) (hS : va_S (it_A g) H H1 locs1) : it_fr g κ1 S1 s H1 locs1 := ⟨by
  have h1 := X hM
  have h2 := F.1
  have h3 := hS.1
  rw [hc]
  omega, F.2.1, hP, F.2.2.2.1, F.2.2.2.2.1, it_S_trans F.2.2.2.2.2 hS⟩
theorem ev_put {a ci k i n : Nat} {x : Int32} {ty : FieldType} (hd : decode M.2.1 pc = .ok (.putfield i, 3)) (hM : kc < 1000) (hf : it_fl M.1.cls i ci k) (hw : it_fw ci k false ty) (ha : a < κ.1) (hk : κ.2.1 a = (ci + 3, n)) (hm : (it_mask ci)[k]? = some false) (hn : narrow ty (.int x) = .int x) (hfi : fits ty (.int x) = true) (kk : it_Ev g l d M kc ks (pc + 3) L st κ (it_up S a k x) P) : it_Ev g l d M kc ks pc L (.int x :: .ref a :: st) κ S P := by
  intro p e R s m args below meth c H locs ls Q C F X hl hq
  obtain ⟨cn, T, N, h1, h2, h3, h4, h5⟩ := hf
  obtain ⟨cn', T', N', t, g1, g2, g3, g4, g5, g6⟩ := hw
  rw [h1] at g1
  cases g1
  refine va_put C.1 C.2.1 (C.2.2.2.2.1) h3 t g2 g3 C.2.2.2.1 F.2.2.2.1 F.2.2.1 (it_ws_D g κ S) (it_S_here F.2.2.2.2.2) a (by rw [it_ws_get ha, it_ce_ob hk]) h1 k h2 (C.2.2.2.2.1 _ h4) (fun y hy => by rw [h5] at hy; exact hy) g4 (ty := ty) (v := .int x) (by rw [g2 k h2, g5]) hn hfi (by rw [it_fs_len, g6]; exact h2) hd (fun H1 locs1 hP1 hD1 hS1 => it_W_sz fun hz => ?_)
  have hws : (it_ws g κ S).set a (g.1 + a, .inr (ci, (it_fs g κ S ci a).set k (.int x))) = it_ws g κ (it_up S a k x) := by
    rw [it_fs_up hm, ← it_ce_ob (g := g) (S := it_up S a k x) hk]
    exact it_ws_set rfl (fun b hb => it_ce_ne hb)
  rw [hws] at hP1
  exact kk p e R s m args below meth c H1 locs1 ls Q C (F.put rfl X hM hz hP1 hS1) X hl hq
theorem ev_putI {a ci k i : Nat} {x : Int32} (hd : decode M.2.1 pc = .ok (.putfield i, 3)) (hM : kc < 1000) (hf : it_fl M.1.cls i ci k) (hw : it_fw ci k false .int) (ho : it_ob κ a ci) (hm : (it_mask ci)[k]? = some false) (kk : it_Ev g l d M kc ks (pc + 3) L st κ (it_up S a k x) P) : it_Ev g l d M kc ks pc L (.int x :: .ref a :: st) κ S P :=
  ev_put hd hM hf hw ho.1 ho.2.1 hm rfl rfl kk
/-- one reference is there now -/
def it_on (κ : it_KK) (a k : Nat) : it_KK := (κ.1, κ.2.1, fun b j => if b = a ∧ j = k then true else κ.2.2 b j)
theorem it_ce_on {a b k : Nat} (h : b ≠ a) : it_ce g (it_on κ a k) S b = it_ce g κ S b := by
  have h1 : ∀ t, it_rf g (it_on κ a k) t b = it_rf g κ t b := fun t => by
    funext j
    simp [it_rf, it_on, h]
  have h2 : ∀ ci, it_fs g (it_on κ a k) S ci b = it_fs g κ S ci b := fun ci => by
    simp [it_fs, it_fld, it_on, h]
  simp only [it_ce, h1, h2]
  rfl
theorem it_fs_on {ci a k : Nat} (h : (it_mask ci)[k]? = some true) : (it_fs g κ S ci a).set k (.ref (g.1 + it_lay ci k a)) = it_fs g (it_on κ a k) S ci a := by
  apply List.ext_getElem?
  intro i
  rw [List.getElem?_set]
  have hl : k < (it_mask ci).length := (List.getElem?_eq_some_iff.mp h).1
  by_cases hi : k = i
  · subst hi
    rw [if_pos rfl, if_pos (by rw [it_fs_len]; exact hl), it_fs_get h]
    simp [it_fld, it_on]
  · rw [if_neg hi]
    simp only [it_fs, List.getElem?_mapIdx]
    cases hm : (it_mask ci)[i]? with
    | none => rfl
    | some r => simp [it_fld, it_on, Ne.symm hi]
theorem ev_putR {a ci k i n r : Nat} {ty : FieldType} (hd : decode M.2.1 pc = .ok (.putfield i, 3)) (hM : kc < 1000) (hin : M.1.name = "<init>") (hf : it_fl M.1.cls i ci k) (hcl : ∃ q, it_cl[ci]? = some q ∧ q.1 = M.1.cls) (hw : it_fw ci k true ty) (ha : a < κ.1) (hk : κ.2.1 a = (ci + 3, n)) (hm : (it_mask ci)[k]? = some true) (hr : r = it_lay ci k a) (hn : narrow ty (.ref (g.1 + r)) = .ref (g.1 + r)) (hfi : fits ty (.ref (g.1 + r)) = true) (kk : it_Ev g l d M kc ks (pc + 3) L st (it_on κ a k) S P) : it_Ev g l d M kc ks pc L (.ref r :: .ref a :: st) κ S P := by
  intro p e R s m args below meth c H locs ls Q C F X hl hq
  subst hr
  obtain ⟨cn, T, N, h1, h2, h3, h4, h5⟩ := hf
  obtain ⟨cn', T', N', t, g1, g2, g3, g4, g5, g6⟩ := hw
  obtain ⟨q, q1, q2⟩ := hcl
  rw [h1] at g1 q1
  cases g1
  cases q1
  refine va_putF C.1 C.2.1 (C.2.2.2.2.1) h3 t g2 g3 C.2.2.2.1 F.2.2.2.1 F.2.2.1 (it_ws_D g κ S) (it_S_here F.2.2.2.2.2) a (by rw [it_ws_get ha, it_ce_ob hk]) h1 k h2 (C.2.2.2.2.1 _ h4) (fun y hy => by rw [h5] at hy; exact hy) g4 (C.2.2.2.2.2.1 hin) (h5.trans q2) (ty := ty) (v := .ref (g.1 + it_lay ci k a)) (by rw [g2 k h2, g5]) hn hfi (by rw [it_fs_len, g6]; exact h2) hd (fun H1 locs1 hP1 hD1 hS1 => it_W_sz fun hz => ?_)
  have hws : (it_ws g κ S).set a (g.1 + a, .inr (ci, (it_fs g κ S ci a).set k (.ref (g.1 + it_lay ci k a)))) = it_ws g (it_on κ a k) S := by
    rw [it_fs_on hm, ← it_ce_ob (g := g) (κ := it_on κ a k) (S := S) (a := a) (n := n) hk]
    exact it_ws_set rfl (fun b hb => it_ce_on hb)
  rw [hws] at hP1
  exact kk p e R s m args below meth c H1 locs1 ls Q C (F.put rfl X hM hz hP1 hS1) X hl hq
theorem ev_iald {a n : Nat} {i : Int32} (hd : decode M.2.1 pc = .ok (.iaload, 1)) (hA : it_ar κ a n) (hi : vp_in i n) (kk : it_Ev g l d M kc ks (pc + 1) L (.int (S a i.toNatClampNeg) :: st) κ S P) : it_Ev g l d M kc ks pc L (.int i :: .ref a :: st) κ S P := by
  intro p e R s m args below meth c H locs ls Q C F X hl hq
  exact va_iald C.1 C.2.1 F.2.2.2.1 F.2.2.1 a 0 (by rw [it_ws_get hA.1, it_ce_ar hA.2]) rfl hi hd (kk p e R s m args below meth c H locs ls Q C F X hl hq)
theorem ev_iast {a n : Nat} {i x : Int32} (hd : decode M.2.1 pc = .ok (.iastore, 1)) (hM : kc < 1000) (hA : it_ar κ a n) (hi : vp_in i n) (kk : it_Ev g l d M kc ks (pc + 1) L st κ (it_up S a i.toNatClampNeg x) P) : it_Ev g l d M kc ks pc L (.int x :: .int i :: .ref a :: st) κ S P := by
  intro p e R s m args below meth c H locs ls Q C F X hl hq
  refine va_iast C.1 C.2.1 F.2.2.2.1 F.2.2.1 (it_ws_D g κ S) (it_S_here F.2.2.2.2.2) a 0 (by rw [it_ws_get hA.1, it_ce_ar hA.2]) rfl hi hd (fun H1 locs1 hP1 hD1 hS1 => it_W_sz fun hz => ?_)
  have hws : (it_ws g κ S).set a (g.1 + a, .inl (g.2.2.1 0, n, .inl (upd (S a) i.toNatClampNeg x))) = it_ws g κ (it_up S a i.toNatClampNeg x) := by
    rw [← it_up_eq, ← it_ce_ar (g := g) (S := it_up S a i.toNatClampNeg x) hA.2]
    exact it_ws_set rfl (fun b hb => it_ce_ne hb)
  rw [hws] at hP1
  exact kk p e R s m args below meth c H1 locs1 ls Q C (F.put rfl X hM hz hP1 hS1) X hl hq
theorem ev_alen {a n : Nat} (hd : decode M.2.1 pc = .ok (.arraylength, 1)) (hA : it_ar κ a n) (kk : it_Ev g l d M kc ks (pc + 1) L (.int (Int32.ofNat n) :: st) κ S P) : it_Ev g l d M kc ks pc L (.ref a :: st) κ S P := by
  intro p e R s m args below meth c H locs ls Q C F X hl hq
  exact va_alen C.1 C.2.1 F.2.2.2.1 F.2.2.1 a 0 (x := (n, .inl (S a))) (by rw [it_ws_get hA.1, it_ce_ar hA.2]) rfl rfl hd (kk p e R s m args below meth c H locs ls Q C F X hl hq)
/-- an array of references, some of which are there -/
def it_rr (κ : it_KK) (a t n : Nat) : Prop := a < κ.1 ∧ κ.2.1 a = (t, n) ∧ (t = 1 ∨ t = 2)
theorem it_ce_rr {a t n : Nat} (h : it_rr κ a t n) : it_ce g κ S a = .inl (g.2.2.1 t, n, .inr (.inr (.inr (.inr (it_rf g κ t a))))) := by
  obtain ⟨-, h1, rfl | rfl⟩ := h <;> simp [it_ce, h1]
theorem ev_aald {a t n : Nat} {i : Int32} (hd : decode M.2.1 pc = .ok (.aaload, 1)) (hA : it_rr κ a t n) (hi : vp_in i n) (ho : κ.2.2 a i.toNatClampNeg = true) (kk : it_Ev g l d M kc ks (pc + 1) L (.ref (it_el t i.toNatClampNeg) :: st) κ S P) : it_Ev g l d M kc ks pc L (.int i :: .ref a :: st) κ S P := by
  intro p e R s m args below meth c H locs ls Q C F X hl hq
  have h1 := kk p e R s m args below meth c H locs ls Q C F X hl hq
  have h2 : va_rf (it_rf g κ t a i.toNatClampNeg) = it_tr g (.ref (it_el t i.toNatClampNeg)) := by simp [it_rf, ho, va_rf, it_tr]
  rw [List.map_cons, ← h2] at h1
  rcases hA.2.2 with h | h <;> subst h
  · exact va_aldq C.1 C.2.1 F.2.2.2.1 F.2.2.1 a 1 (by rw [it_ws_get hA.1, it_ce_rr hA]) rfl hi hd h1
  · exact va_aldq C.1 C.2.1 F.2.2.2.1 F.2.2.1 a 2 (by rw [it_ws_get hA.1, it_ce_rr hA]) rfl hi hd h1
def it_tcl (t : Nat) : Nat := if t = 1 then 4 else 2
theorem ev_aast {a t n r m0 : Nat} {i : Int32} (hd : decode M.2.1 pc = .ok (.aastore, 1)) (hM : kc < 1000) (hA : it_rr κ a t n) (hi : vp_in i n) (hr : r < κ.1) (hk : κ.2.1 r = (it_tcl t + 3, m0)) (he : r = it_el t i.toNatClampNeg) (kk : it_Ev g l d M kc ks (pc + 1) L st (it_on κ a i.toNatClampNeg) S P) : it_Ev g l d M kc ks pc L (.ref r :: .int i :: .ref a :: st) κ S P := by
  intro p e R s m args below meth c H locs ls Q C F X hl hq
  have key : ∀ (H1 : Heap) (locs1 : List Loc), va_P g.2.1 it_cl ((it_ws g κ S).set a (g.1 + a, .inl (g.2.2.1 t, n, .inr (.inr (.inr (.inr (va_up (it_rf g κ t a) i.toNatClampNeg (some (g.1 + r))))))))) H1 → va_D (it_A g) ((it_ws g κ S).set a (g.1 + a, .inl (g.2.2.1 t, n, .inr (.inr (.inr (.inr (va_up (it_rf g κ t a) i.toNatClampNeg (some (g.1 + r))))))))) → va_S (it_A g) H H1 locs1 → W p l e R s m args below meth c H1 locs1 kc ks Q (F0 m (pc + 1) ls (st.map (it_tr g))) := by
    intro H1 locs1 hP1 hD1 hS1
    refine it_W_sz fun hz => ?_
    have hA1 : it_rr (it_on κ a i.toNatClampNeg) a t n := hA
    have hws : (it_ws g κ S).set a (g.1 + a, .inl (g.2.2.1 t, n, .inr (.inr (.inr (.inr (va_up (it_rf g κ t a) i.toNatClampNeg (some (g.1 + r)))))))) = it_ws g (it_on κ a i.toNatClampNeg) S := by
      have h2 : va_up (it_rf g κ t a) i.toNatClampNeg (some (g.1 + r)) = it_rf g (it_on κ a i.toNatClampNeg) t a := by
        funext j
        by_cases hj : j = i.toNatClampNeg
        · subst hj
          simp [va_up, it_rf, it_on, he]
        · simp [va_up, it_rf, it_on, hj]
      rw [h2, ← it_ce_rr (g := g) (S := S) hA1]
      exact it_ws_set rfl (fun b hb => it_ce_on hb)
    rw [hws] at hP1
    exact kk p e R s m args below meth c H1 locs1 ls Q C (F.put rfl X hM hz hP1 hS1) X hl hq
  rcases hA.2.2 with h | h <;> subst h
  · exact va_astq C.1 C.2.1 F.2.2.2.1 F.2.2.1 (it_ws_D g κ S) (it_S_here F.2.2.2.2.2) a 1 r 4 (by rw [it_ws_get hA.1, it_ce_rr hA]) rfl (by rw [it_ws_get hr, it_ce_ob (ci := 4) hk]) rfl hi hd key
  · exact va_astq C.1 C.2.1 F.2.2.2.1 F.2.2.1 (it_ws_D g κ S) (it_S_here F.2.2.2.2.2) a 2 r 2 (by rw [it_ws_get hA.1, it_ce_rr hA]) rfl (by rw [it_ws_get hr, it_ce_ob (ci := 2) hk]) rfl hi hd key
theorem it_ce_congr {κ1 : it_KK} {S1 : it_SS} {b : Nat} (h1 : κ1.2.1 b = κ.2.1 b) (h2 : κ1.2.2 b = κ.2.2 b) (h3 : S1 b = S b) : it_ce g κ1 S1 b = it_ce g κ S b := by
  have h4 : ∀ t, it_rf g κ1 t b = it_rf g κ t b := fun t => by
    funext j
    simp [it_rf, h2]
  have h5 : ∀ ci, it_fs g κ1 S1 ci b = it_fs g κ S ci b := fun ci => by
    simp [it_fs, it_fld, h2, h3]
  simp only [it_ce, h1, h3, h4, h5]
def it_new (κ : it_KK) (t n : Nat) : it_KK := (κ.1 + 1, fun b => if b = κ.1 then (t, n) else κ.2.1 b, fun b j => if b = κ.1 then false else κ.2.2 b j)
def it_zero (S : it_SS) (a : Nat) : it_SS := fun b => if b = a then (fun _ => 0) else S b
def it_dupl (S : it_SS) (a b : Nat) : it_SS := fun q => if q = b then S a else S q
def it_cpy (S : it_SS) (a0 a1 sp dp n : Nat) : it_SS := fun q => if q = a1 then va_cpy (S a0) (S a1) sp dp n else S q
/-- the new cell lies where the next one lies -/
theorem it_fresh {q : Nat} {x : va_E} {H1 : Heap} {s : State} (X : it_ex g κ kc s) (hM : kc < 1000) (hz : H1.size ≤ s.heap.size + (kc + 1)) (hP : va_P g.2.1 it_cl (it_ws g κ S ++ [(q, x)]) H1) (hD : va_D (it_A g) (it_ws g κ S ++ [(q, x)])) : q = g.1 + κ.1 ∧ H1.size = g.1 + κ.1 + 1 := by
  have h1 := X hM
  have hlast : (it_ws g κ S ++ [(q, x)])[κ.1]? = some (q, x) := by
    rw [List.getElem?_append_right (by rw [it_ws_len]; exact Nat.le_refl _), it_ws_len]
    simp
  have h2 : q < H1.size := (hP _ _ hlast).lt
  have h3 : g.1 ≤ q := hD.2 _ _ hlast
  have h4 : ∀ i, i < κ.1 → q ≠ g.1 + i := by
    intro i hi he
    have := hD.1 i κ.1 (g.1 + i, it_ce g κ S i) (q, x) (by rw [List.getElem?_append_left (by rw [it_ws_len]; exact hi), it_ws_get hi]) hlast he.symm
    omega
  have h5 : ¬ q - g.1 < κ.1 := fun h => h4 (q - g.1) h (by omega)
  omega
theorem it_fr.push {κ1 : it_KK} {S1 : it_SS} {q : Nat} {x : va_E} {s : State} {H H1 : Heap} {locs : List Loc} (F : it_fr g κ S s H locs) (X : it_ex g κ kc s) (hM : kc < 1000) (hz : H1.size ≤ s.heap.size + (kc + 1)) (hP : va_P g.2.1 it_cl (it_ws g κ S ++ [(q, x)]) H1) (hD : va_D (it_A g) (it_ws g κ S ++ [(q, x)])) (hS : va_S (it_A g) s.heap H1 locs)
    (hn : κ1.1 = κ.1 + 1) (hc : ∀ b, b < κ.1 → it_ce g κ1 S1 b = it_ce g κ S b) (hx : it_ce g κ1 S1 κ.1 = x) : q = g.1 + κ.1 ∧ it_fr g κ1 S1 s H1 locs ∧ it_ex g κ1 (kc + 1) s := by
  obtain ⟨h1, h2⟩ := it_fresh X hM hz hP hD
  rw [it_ws_push hn hc h1 hx] at hP
  exact ⟨h1, ⟨by rw [hn, h2]; omega, F.2.1, hP, F.2.2.2.1, F.2.2.2.2.1, hS⟩, fun _ => by rw [hn, ← Nat.add_assoc, ← Nat.add_assoc, X hM]⟩
/-- class ci, by entry i of a class's own table, can be made -/
def it_nw (own : String) (i ci : Nat) : Prop := ∃ (C : String) (T : u_T) (N : Nat) (t : Nat → FieldType), it_cl[ci]? = some (C, T, N) ∧ (∀ w ∈ u_ws C T N, w ∈ it_tb) ∧ (∀ k, k < N → parseFieldDescriptor (T k).2.2.1 = some (t k)) ∧ Cond.classLink own i C ∈ it_tb ∧ Cond.instantiable C N ∈ it_tb ∧ Cond.initialized C ∈ it_tb ∧ (∀ k r, (it_mask ci)[k]? = some r → defaultValue (t k) = if r = true then .null else .int 0) ∧ (it_mask ci).length = N
theorem ev_new {ci i N : Nat} (hd : decode M.2.1 pc = .ok (.new i, 3)) (hM : kc < 1000) (hw : it_nw M.1.cls i ci) (hN : (it_mask ci).length = N) (hc : kc + 1 ≤ M.2.2.2.2.1) (hs : ks + N ≤ M.2.2.2.2.2) (kk : it_Ev g l d M (kc + 1) (ks + N) (pc + 3) L (.ref κ.1 :: st) (it_new κ (ci + 3) 0) (it_zero S κ.1) P) : it_Ev g l d M kc ks pc L st κ S P := by
  intro p e R s m args below meth c H locs ls Q C F X hl hq
  obtain ⟨cn, T, N', t, h1, h2, h3, h4, h5, h6, h7, h8⟩ := hw
  have hNN : N' = N := h8.symm.trans hN
  subst hNN
  refine va_new (fs := it_fs g (it_new κ (ci + 3) 0) (it_zero S κ.1) ci κ.1) C.1 C.2.1 (C.2.2.2.2.1) h2 t h3 C.2.2.2.1 (C.2.2.2.2.1 _ h4) (C.2.2.2.2.1 _ h5) (C.2.2.2.2.1 _ h6) F.2.2.2.1 F.2.2.1 (it_ws_D g κ S) F.2.2.2.2.2 F.D h1 ?_ (Nat.le_trans hc C.2.2.2.2.2.2.2.2.1) (Nat.le_trans hs C.2.2.2.2.2.2.2.2.2) hd (fun q H1 hP1 hD1 hS1 => it_W_sz fun hz => ?_)
  · intro j hj
    have hjm : ∃ r, (it_mask ci)[j]? = some r := ⟨_, List.getElem?_eq_getElem (by rw [h8]; exact hj)⟩
    obtain ⟨r, hr⟩ := hjm
    rw [h7 j r hr, vp_V, List.getD_eq_getElem?_getD, it_fs_get hr]
    cases r <;> simp [it_fld, it_new, it_zero]
  · obtain ⟨e1, F1, X1⟩ := F.push (κ1 := it_new κ (ci + 3) 0) (S1 := it_zero S κ.1) X hM hz hP1 hD1 hS1 rfl (fun b hb => it_ce_congr (by simp [it_new, Nat.ne_of_lt hb]) (by funext j; simp [it_new, Nat.ne_of_lt hb]) (by simp [it_zero, Nat.ne_of_lt hb])) (it_ce_ob (n := 0) (by simp [it_new]))
    subst e1
    exact kk p e R s m args below meth c H1 locs ls Q C F1 X1 hl hq
theorem ev_newa {n : Int32} {N : Nat} (hd : decode M.2.1 pc = .ok (.newarray .int, 2)) (hM : kc < 1000) (hw : Cond.arrayClass .int ∈ it_tb) (hn : ¬ n < 0) (hN : n.toNatClampNeg = N) (hb : N * 4 ≤ 536870912) (hc : kc + 1 ≤ M.2.2.2.2.1) (hs : ks + N ≤ M.2.2.2.2.2) (kk : it_Ev g l d M (kc + 1) (ks + N) (pc + 2) L (.ref κ.1 :: st) (it_new κ 0 N) (it_zero S κ.1) P) : it_Ev g l d M kc ks pc L (.int n :: st) κ S P := by
  intro p e R s m args below meth c H locs ls Q C F X hl hq
  refine va_newa (atype := .int) (ty := .int) (N' := N) (a0 := (N, .inl (fun _ => 0))) C.1 C.2.1 (C.2.2.2.2.1 _ hw) rfl F.2.2.2.1 F.2.2.1 (it_ws_D g κ S) F.2.2.2.2.2 F.D (fun cA => rfl) hn hN hb (Nat.le_trans hc C.2.2.2.2.2.2.2.2.1) (Nat.le_trans hs C.2.2.2.2.2.2.2.2.2) hd (fun q cA H1 hK1 hP1 hD1 hS1 => it_W_sz fun hz => ?_)
  have hcA : g.2.2.1 0 = cA := by
    have h1 := (hK1.2 3 (cA, .int) rfl).2
    have h2 := (F.2.2.2.1.2 0 (g.2.2.1 0, .int) rfl).2
    exact Option.some.inj (h2.symm.trans h1)
  subst hcA
  obtain ⟨e1, F1, X1⟩ := F.push (κ1 := it_new κ 0 N) (S1 := it_zero S κ.1) X hM hz hP1 hD1 hS1 rfl (fun b hb => it_ce_congr (by simp [it_new, Nat.ne_of_lt hb]) (by funext j; simp [it_new, Nat.ne_of_lt hb]) (by simp [it_zero, Nat.ne_of_lt hb])) (by rw [it_ce_ar (n := N) (by simp [it_new])]; simp [it_zero])
  subst e1
  exact kk p e R s m args below meth c H1 locs ls Q C F1 X1 hl hq
theorem ev_newq {n : Int32} {N i t : Nat} {cn : String} (hd : decode M.2.1 pc = .ok (.anewarray i, 3)) (hM : kc < 1000) (ht : (t = 1 ∧ cn = it_R4) ∨ (t = 2 ∧ cn = it_R2)) (hw : Cond.classLink M.1.cls i cn ∈ it_tb) (hn : ¬ n < 0) (hN : n.toNatClampNeg = N) (hb : N * 4 ≤ 536870912) (hc : kc + 1 ≤ M.2.2.2.2.1) (hs : ks + N ≤ M.2.2.2.2.2) (kk : it_Ev g l d M (kc + 1) (ks + N) (pc + 3) L (.ref κ.1 :: st) (it_new κ t N) (it_zero S κ.1) P) : it_Ev g l d M kc ks pc L (.int n :: st) κ S P := by
  intro p e R s m args below meth c H locs ls Q C F X hl hq
  have hao : va_AO cn s := by
    rcases ht with ⟨-, h⟩ | ⟨-, h⟩ <;> subst h
    · exact F.2.2.2.2.1.1.1
    · exact F.2.2.2.2.1.1.2.1
  refine va_newq (C := cn) (N' := N) C.1 C.2.1 C.2.2.2.1 (C.2.2.2.2.1 _ hw) hao F.2.2.2.1 F.2.2.1 (it_ws_D g κ S) F.2.2.2.2.2 F.D hn hN hb (Nat.le_trans hc C.2.2.2.2.2.2.2.2.1) (Nat.le_trans hs C.2.2.2.2.2.2.2.2.2) hd (fun q cA H1 hK1 hP1 hD1 hS1 => it_W_sz fun hz => ?_)
  have hcA : g.2.2.1 t = cA := by
    obtain ⟨_, _, -, -, -, h1⟩ := (hK1.2 3 (cA, .object cn) rfl).2
    rcases ht with ⟨rfl, rfl⟩ | ⟨rfl, rfl⟩
    · obtain ⟨_, _, -, -, -, h2⟩ := (F.2.2.2.1.2 1 (g.2.2.1 1, .object it_R4) rfl).2
      exact Option.some.inj (h2.symm.trans h1)
    · obtain ⟨_, _, -, -, -, h2⟩ := (F.2.2.2.1.2 2 (g.2.2.1 2, .object it_R2) rfl).2
      exact Option.some.inj (h2.symm.trans h1)
  subst hcA
  have ht2 : t = 1 ∨ t = 2 := ht.elim (fun h => Or.inl h.1) (fun h => Or.inr h.1)
  have hrr : it_rr (it_new κ t N) κ.1 t N := ⟨Nat.lt_succ_self _, by simp [it_new], ht2⟩
  obtain ⟨e1, F1, X1⟩ := F.push (κ1 := it_new κ t N) (S1 := it_zero S κ.1) X hM hz hP1 hD1 hS1 rfl (fun b hb => it_ce_congr (by simp [it_new, Nat.ne_of_lt hb]) (by funext j; simp [it_new, Nat.ne_of_lt hb]) (by simp [it_zero, Nat.ne_of_lt hb])) (by
    rw [it_ce_rr hrr]
    have : it_rf g (it_new κ t N) t κ.1 = fun _ => none := by
      funext j
      simp [it_rf, it_new]
    rw [this])
  subst e1
  exact kk p e R s m args below meth c H1 locs ls Q C F1 X1 hl hq
theorem ev_copy {a0 a1 n0 n1 i : Nat} {sp dp n : Int32} (hd : decode M.2.1 pc = .ok (.invokestatic i, 3)) (hM : kc < 1000) (hdd : 1 ≤ d) (hst : (st.map fun v => v.category).sum ≤ 8) (hm : Cond.methodLink M.1.cls i arraycopyName ∈ it_tb ∧ Cond.native arraycopyName ∈ it_tb ∧ Cond.static arraycopyName ∈ it_tb ∧ Cond.initialized "java/lang/System" ∈ it_tb) (h0 : it_ar κ a0 n0) (h1 : it_ar κ a1 n1) (g1 : ¬ sp < 0) (g2 : ¬ dp < 0) (g3 : ¬ n < 0) (g4 : sp.toNatClampNeg + n.toNatClampNeg ≤ n0) (g5 : dp.toNatClampNeg + n.toNatClampNeg ≤ n1) (kk : it_Ev g l d M kc ks (pc + 3) L st κ (it_cpy S a0 a1 sp.toNatClampNeg dp.toNatClampNeg n.toNatClampNeg) P) : it_Ev g l d M kc ks pc L (.int n :: .int dp :: .ref a1 :: .int sp :: .ref a0 :: st) κ S P := by
  intro p e R s m args below meth c H locs ls Q C F X hl hq
  refine va_copyi (ty := .int) C.1 C.2.1 (C.2.2.1.trans hl.1.symm) C.2.2.2.1 (C.2.2.2.2.1 _ hm.1) (C.2.2.2.2.1 _ hm.2.1) (C.2.2.2.2.1 _ hm.2.2.1) (C.2.2.2.2.1 _ hm.2.2.2) F.2.2.2.1 F.2.2.1 (it_ws_D g κ S) (it_S_here F.2.2.2.2.2) a0 a1 0 0 (by rw [it_ws_get h0.1, it_ce_ar h0.2]) (by rw [it_ws_get h1.1, it_ce_ar h1.2]) rfl rfl rfl g1 g2 g3 g4 g5 (fun _ _ => rfl) (Nat.le_trans hdd C.2.2.2.2.2.2.1) ?_ hd (fun H1 locs1 hP1 hD1 hS1 => it_W_sz fun hz => ?_)
  · have h2 : ((st.map (it_tr g)).map fun v => v.category).sum = (st.map fun v => v.category).sum := by
      rw [List.map_map]
      congr 1
      exact List.map_congr_left (fun v _ => it_tr_cat g v)
    rw [h2]
    have h3 : nativeFrameWords "java/lang/System" "arraycopy" 5 + 11 ≤ 40 := by decide
    have h4 := C.2.2.2.2.2.2.2.1
    omega
  · have hws : (it_ws g κ S).set a1 (g.1 + a1, .inl (g.2.2.1 0, n1, .inl (va_cpy (S a0) (S a1) sp.toNatClampNeg dp.toNatClampNeg n.toNatClampNeg))) = it_ws g κ (it_cpy S a0 a1 sp.toNatClampNeg dp.toNatClampNeg n.toNatClampNeg) := by
      have h2 : va_cpy (S a0) (S a1) sp.toNatClampNeg dp.toNatClampNeg n.toNatClampNeg = it_cpy S a0 a1 sp.toNatClampNeg dp.toNatClampNeg n.toNatClampNeg a1 := by simp [it_cpy]
      rw [h2, ← it_ce_ar (g := g) (S := it_cpy S a0 a1 sp.toNatClampNeg dp.toNatClampNeg n.toNatClampNeg) h1.2]
      exact it_ws_set rfl (fun b hb => it_ce_congr rfl rfl (by simp [it_cpy, hb]))
    rw [hws] at hP1
    exact kk p e R s m args below meth c H1 locs1 ls Q C (F.put rfl X hM hz hP1 hS1) X hl hq
theorem it_rest (st : List Value) : ((st.map (it_tr g)).map fun v => v.category).sum = (st.map fun v => v.category).sum := by
  rw [List.map_map]
  congr 1
  exact List.map_congr_left (fun v _ => it_tr_cat g v)
theorem ev_clone {a n i : Nat} (hd : decode M.2.1 pc = .ok (.invokevirtual i, 3)) (hM : kc < 1000) (hdd : 1 ≤ d) (hst : (st.map fun v => v.category).sum ≤ 8) (hm : Cond.methodLink M.1.cls i ⟨"[I", "clone", "()Ljava/lang/Object;"⟩ ∈ it_tb ∧ Cond.sameMethod "[I" "java/lang/Object" "clone" "()Ljava/lang/Object;" ∈ it_tb ∧ Cond.native ⟨"java/lang/Object", "clone", "()Ljava/lang/Object;"⟩ ∈ it_tb ∧ Cond.instanceMethod ⟨"java/lang/Object", "clone", "()Ljava/lang/Object;"⟩ ∈ it_tb ∧ Cond.selects "[I" ⟨"[I", "clone", "()Ljava/lang/Object;"⟩ ⟨"java/lang/Object", "clone", "()Ljava/lang/Object;"⟩ ∈ it_tb) (hA : it_ar κ a n) (hc : kc + 1 ≤ M.2.2.2.2.1) (hs : ks + n ≤ M.2.2.2.2.2) (kk : it_Ev g l d M (kc + 1) (ks + n) (pc + 3) L (.ref κ.1 :: st) (it_new κ 0 n) (it_dupl S a κ.1) P) : it_Ev g l d M kc ks pc L (.ref a :: st) κ S P := by
  intro p e R s m args below meth c H locs ls Q C F X hl hq
  refine va_clone (ad := "[I") (ty := .int) (x := (n, .inl (S a))) C.1 C.2.1 (C.2.2.1.trans hl.1.symm) C.2.2.2.1 (C.2.2.2.2.1 _ hm.1) (C.2.2.2.2.1 _ hm.2.1) (C.2.2.2.2.1 _ hm.2.2.1) (C.2.2.2.2.1 _ hm.2.2.2.1) (C.2.2.2.2.1 _ hm.2.2.2.2) F.2.2.2.2.1.1.2.2.1 F.2.2.2.1 F.2.2.1 (it_ws_D g κ S) F.2.2.2.2.2 F.D a 0 (by rw [it_ws_get hA.1, it_ce_ar hA.2]) rfl (F.2.2.2.1.2 0 (g.2.2.1 0, .int) rfl).2 ?_ (Nat.le_trans hdd C.2.2.2.2.2.2.1) ?_ (Nat.le_trans hc C.2.2.2.2.2.2.2.2.1) (Nat.le_trans hs C.2.2.2.2.2.2.2.2.2) hd (fun q H1 hK1 hP1 hD1 hS1 => it_W_sz fun hz => ?_)
  · intro j v hv
    have hv : (arrV (g.2.2.1 0) n (fun j => .int (S a j))).slots[j]? = some v := hv
    have hj : j < n := by
      have := (Array.getElem?_eq_some_iff.mp hv).1
      rwa [arrV_size] at this
    rw [arrV_read _ _ hj] at hv
    cases hv
    rfl
  · rw [it_rest]
    have h4 := C.2.2.2.2.2.2.2.1
    omega
  · obtain ⟨e1, F1, X1⟩ := F.push (κ1 := it_new κ 0 n) (S1 := it_dupl S a κ.1) X hM hz hP1 hD1 hS1 rfl (fun b hb => it_ce_congr (by simp [it_new, Nat.ne_of_lt hb]) (by funext j; simp [it_new, Nat.ne_of_lt hb]) (by simp [it_dupl, Nat.ne_of_lt hb])) (by rw [it_ce_ar (n := n) (by simp [it_new])]; simp [it_dupl])
    subst e1
    exact kk p e R s m args below meth c H1 locs ls Q C F1 X1 hl hq
theorem ev_castA {a n i : Nat} (hd : decode M.2.1 pc = .ok (.checkcast i, 3)) (hm : Cond.classLink M.1.cls i "[I" ∈ it_tb) (hA : it_ar κ a n) (kk : it_Ev g l d M kc ks (pc + 3) L (.ref a :: st) κ S P) : it_Ev g l d M kc ks pc L (.ref a :: st) κ S P := by
  intro p e R s m args below meth c H locs ls Q C F X hl hq
  exact va_castA (nm := "[I") C.1 C.2.1 C.2.2.2.1 (C.2.2.2.2.1 _ hm) F.2.2.1 a (by rw [it_ws_get hA.1, it_ce_ar hA.2]) (F.2.2.2.1.2 0 (g.2.2.1 0, .int) rfl).2 hd (kk p e R s m args below meth c H locs ls Q C F X hl hq)
end ITR
end
section
section ITC
variable {g : it_G} {l : Launch} {d : Nat} {M : it_M} {kc ks pc : Nat} {L : it_L} {st : List Value} {κ : it_KK} {S : it_SS} {P : Option Value → it_KK → it_SS → Prop}
theorem it_good (w : Cond) (h : w ∈ it_tb) : w ∈ it_tb ∧ ((w.onTables && w.keeps) = true ∨ ∃ ty, w = .arrayClass ty) := ⟨h, good_of_word (it_tb_good h)⟩
/-- what the tables say of a call's target -/
def it_mc (M' : it_M) (n : Nat) : Prop := Cond.code M'.1 M'.2.1 M'.2.2.1 M'.2.2.2.1 ∈ it_tb ∧ Cond.initialized M'.1.cls ∈ it_tb ∧ (M'.1.cls ≠ "java/lang/invoke/MethodHandle" ∧ M'.1.cls ≠ "java/lang/invoke/VarHandle" ∧ (parseMethodDescriptor M'.1.desc).map (fun d => d.parameters.length) = some n) ∧ M'.2.2.1 ≤ 41
def it_mv (own : String) (i : Nat) (M' : it_M) (n : Nat) : Prop := it_mc M' n ∧ Cond.methodLink own i M'.1 ∈ it_tb ∧ Cond.instanceMethod M'.1 ∈ it_tb ∧ Cond.selects M'.1.cls M'.1 M'.1 ∈ it_tb
def it_ms (own : String) (i : Nat) (M' : it_M) (n : Nat) : Prop := it_mc M' n ∧ Cond.methodLink own i M'.1 ∈ it_tb ∧ Cond.static M'.1 ∈ it_tb
def it_mi (own : String) (i : Nat) (M' : it_M) (n : Nat) : Prop := it_mc M' n ∧ Cond.methodLink own i M'.1 ∈ it_tb ∧ Cond.instanceMethod M'.1 ∈ it_tb ∧ M'.1.name = "<init>" ∧ M'.2.2.2.1 = none
def it_msN (own : String) (i : Nat) (M' : it_M) (n : Nat) : Prop := it_mc M' n ∧ (own, i, M'.1) ∈ it_nests ∧ Cond.static M'.1 ∈ it_tb
def it_miN (own : String) (i : Nat) (M' : it_M) (n : Nat) : Prop := it_mc M' n ∧ (own, i, M'.1) ∈ it_nests ∧ Cond.instanceMethod M'.1 ∈ it_tb ∧ M'.1.name = "<init>" ∧ M'.2.2.2.1 = none
theorem it_wds_in {M' : it_M} {n : Nat} (h : it_mc M' n) : ∀ w ∈ it_wds M', w ∈ it_tb := fun w hw => by
  rcases List.mem_cons.mp hw with rfl | hw
  · exact h.1
  · exact hw
theorem it_gi {M' : it_M} {n : Nat} (h : it_mc M' n) : GoodIn it_tb (it_wds M') := fun w hw => it_good w (it_wds_in h w hw)
theorem it_blind {av : List Value} : FrameBlind (va_Pc av (it_wd g κ S)) := fun _ _ _ _ q => ⟨q.1, q.2.calling⟩
theorem it_room {R : Room} {d' : Nat} {M' : it_M} {n : Nat} (h : it_mc M' n) (hdd : d' + 1 ≤ d) (h1 : d ≤ R.frames) (h2 : 60 * d ≤ R.locals) : (it_rm d' M').frames + 1 ≤ R.frames ∧ 8 + (M'.2.2.1 + 11) + (it_rm d' M').locals ≤ R.locals := by
  have h3 := h.2.2.2
  simp only [it_rm]
  omega
theorem ev_callV {M' : it_M} {d' i ci b n n0 : Nat} {As st0 : List Value} {P' : Option Value → it_KK → it_SS → Prop} (hd : decode M.2.1 pc = .ok (.invokevirtual i, 3)) (hm : it_mv M.1.cls i M' n) (hb : b < κ.1) (hk : κ.2.1 b = (ci + 3, n0)) (hci : ∃ q, it_cl[ci]? = some q ∧ q.1 = M'.1.cls) (hn : As.length = n) (hs : st0 = As.reverse ++ .ref b :: st) (hst : (st.map fun v => v.category).sum ≤ 8) (hdd : d' + 1 ≤ d) (hc : kc + M'.2.2.2.2.1 ≤ M.2.2.2.2.1) (hcs : ks + M'.2.2.2.2.2 ≤ M.2.2.2.2.2)
    (hC : it_Cn g l d' M' (.ref b :: As) κ S P') (hex : kc + M'.2.2.2.2.1 < 1000 → ∀ v κ' S', P' v κ' S' → κ'.1 = κ.1 + M'.2.2.2.2.1) (kk : ∀ v κ' S', P' v κ' S' → it_Ev g l d M (kc + M'.2.2.2.2.1) (ks + M'.2.2.2.2.2) (pc + 3) L (v.toList ++ st) κ' S' P) : it_Ev g l d M kc ks pc L st0 κ S P := by
  intro p e R s m args below meth c H locs ls Q C F X hl hq
  subst hs
  obtain ⟨q, q1, q2⟩ := hci
  refine it_after (rest := st) (P' := P') (va_runV (As := As.map (it_tr g)) (C := M'.1.cls) (Ts := it_tb) (own := M.1.cls) (b := g.1 + b) ⟨C.1, C.2.1, C.2.2.1, C.2.2.2.1, C.2.2.2.2.1⟩ hC
    (cwV n C.2.2.2.2.1 (fun w hw => ?_) rfl rfl rfl ⟨rfl, hm.1.2.2.1⟩ (it_room hm.1 hdd C.2.2.2.2.2.2.1 C.2.2.2.2.2.2.2.1))
    ⟨it_blind, ?_, fun U hU hW => ⟨rfl, F.wd hU hW⟩⟩ rfl (by rw [List.length_map]; exact hn) hl.1 (by simp [it_tr]) (lv_room (by rw [it_rest]; exact hst)) hd ⟨Nat.le_trans hc C.2.2.2.2.2.2.2.2.1, Nat.le_trans hcs C.2.2.2.2.2.2.2.2.2⟩) F (fun v κ' S' H1 locs1 hp F1 => ?_)
  · rcases List.mem_append.mp hw with h | h
    · rcases List.mem_cons.mp h with rfl | h
      · exact it_good _ hm.2.1
      · rcases List.mem_cons.mp h with rfl | h
        · exact it_good _ hm.2.2.1
        · rcases List.mem_cons.mp h with rfl | h
          · exact it_good _ hm.2.2.2
          · rcases List.mem_cons.mp h with rfl | h
            · exact it_good _ hm.1.2.1
            · exact absurd h List.not_mem_nil
    · exact it_gi hm.1 w h
  · rw [← q2]
    exact va_recv F.2.2.2.1 F.2.2.1 q1 (q0 := b) (by rw [it_ws_get hb, it_ce_ob hk])
  · refine kk v κ' S' hp p e R s m args below meth c H1 locs1 ls Q C F1 (fun hlt => ?_) hl hq
    rw [hex hlt v κ' S' hp, ← Nat.add_assoc, ← Nat.add_assoc, X (by omega)]
theorem ev_callS {M' : it_M} {d' i n : Nat} {As st0 : List Value} {P' : Option Value → it_KK → it_SS → Prop} (hd : decode M.2.1 pc = .ok (.invokestatic i, 3)) (hm : it_ms M.1.cls i M' n) (hn : As.length = n) (hs : st0 = As.reverse ++ st) (hst : (st.map fun v => v.category).sum ≤ 8) (hdd : d' + 1 ≤ d) (hc : kc + M'.2.2.2.2.1 ≤ M.2.2.2.2.1) (hcs : ks + M'.2.2.2.2.2 ≤ M.2.2.2.2.2)
    (hC : it_Cn g l d' M' As κ S P') (hex : kc + M'.2.2.2.2.1 < 1000 → ∀ v κ' S', P' v κ' S' → κ'.1 = κ.1 + M'.2.2.2.2.1) (kk : ∀ v κ' S', P' v κ' S' → it_Ev g l d M (kc + M'.2.2.2.2.1) (ks + M'.2.2.2.2.2) (pc + 3) L (v.toList ++ st) κ' S' P) : it_Ev g l d M kc ks pc L st0 κ S P := by
  intro p e R s m args below meth c H locs ls Q C F X hl hq
  subst hs
  refine it_after (rest := st) (P' := P') (va_runS (As := As.map (it_tr g)) (Ts := it_tb) (own := M.1.cls) ⟨C.1, C.2.1, C.2.2.1, C.2.2.2.1, C.2.2.2.2.1⟩ hC
    (va_cwS n C.2.2.2.2.1 (fun w hw => ?_) rfl rfl rfl hm.1.2.2.1 (it_room hm.1 hdd C.2.2.2.2.2.2.1 C.2.2.2.2.2.2.2.1))
    ⟨it_blind, fun U hU hW => ⟨rfl, F.wd hU hW⟩⟩ rfl (by rw [List.length_map]; exact hn) hl.1 (by simp) (lv_room (by rw [it_rest]; exact hst)) hd ⟨Nat.le_trans hc C.2.2.2.2.2.2.2.2.1, Nat.le_trans hcs C.2.2.2.2.2.2.2.2.2⟩) F (fun v κ' S' H1 locs1 hp F1 => ?_)
  · rcases List.mem_append.mp hw with h | h
    · rcases List.mem_cons.mp h with rfl | h
      · exact it_good _ hm.2.1
      · rcases List.mem_cons.mp h with rfl | h
        · exact it_good _ hm.2.2
        · rcases List.mem_cons.mp h with rfl | h
          · exact it_good _ hm.1.2.1
          · exact absurd h List.not_mem_nil
    · exact it_gi hm.1 w h
  · refine kk v κ' S' hp p e R s m args below meth c H1 locs1 ls Q C F1 (fun hlt => ?_) hl hq
    rw [hex hlt v κ' S' hp, ← Nat.add_assoc, ← Nat.add_assoc, X (by omega)]
theorem ev_callI {M' : it_M} {d' i b n : Nat} {As st0 : List Value} {P' : Option Value → it_KK → it_SS → Prop} (hd : decode M.2.1 pc = .ok (.invokespecial i, 3)) (hm : it_mi M.1.cls i M' n) (hn : As.length = n) (hs : st0 = As.reverse ++ .ref b :: st) (hst : (st.map fun v => v.category).sum ≤ 8) (hdd : d' + 1 ≤ d) (hc : kc + M'.2.2.2.2.1 ≤ M.2.2.2.2.1) (hcs : ks + M'.2.2.2.2.2 ≤ M.2.2.2.2.2)
    (hC : it_Cn g l d' M' (.ref b :: As) κ S P') (hex : kc + M'.2.2.2.2.1 < 1000 → ∀ v κ' S', P' v κ' S' → κ'.1 = κ.1 + M'.2.2.2.2.1) (kk : ∀ v κ' S', P' v κ' S' → it_Ev g l d M (kc + M'.2.2.2.2.1) (ks + M'.2.2.2.2.2) (pc + 3) L (v.toList ++ st) κ' S' P) : it_Ev g l d M kc ks pc L st0 κ S P := by
  intro p e R s m args below meth c H locs ls Q C F X hl hq
  subst hs
  refine it_after (rest := st) (P' := P') (va_runI (As := As.map (it_tr g)) (Ts := it_tb) (own := M.1.cls) (b := g.1 + b) ⟨C.1, C.2.1, C.2.2.1, C.2.2.2.1, C.2.2.2.2.1⟩ hC
    (cwI n C.2.2.2.2.1 (it_gi hm.1) (by rw [it_wds, hm.2.2.2.2]) rfl rfl (C.2.2.2.2.1 _ hm.1.2.1) (C.2.2.2.2.1 _ hm.2.1) (C.2.2.2.2.1 _ hm.2.2.1) hm.2.2.2.1 hm.1.2.2.1 (it_room hm.1 hdd C.2.2.2.2.2.2.1 C.2.2.2.2.2.2.2.1))
    ⟨it_blind, fun U hU hW => ⟨rfl, F.wd hU hW⟩⟩ rfl (by rw [List.length_map]; exact hn) hl.1 (by simp [it_tr]) (lv_room (by rw [it_rest]; exact hst)) hd ⟨Nat.le_trans hc C.2.2.2.2.2.2.2.2.1, Nat.le_trans hcs C.2.2.2.2.2.2.2.2.2⟩) F (fun v κ' S' H1 locs1 hp F1 => ?_)
  refine kk v κ' S' hp p e R s m args below meth c H1 locs1 ls Q C F1 (fun hlt => ?_) hl hq
  rw [hex hlt v κ' S' hp, ← Nat.add_assoc, ← Nat.add_assoc, X (by omega)]
theorem ev_callSN {M' : it_M} {d' i n : Nat} {As st0 : List Value} {P' : Option Value → it_KK → it_SS → Prop} (hd : decode M.2.1 pc = .ok (.invokestatic i, 3)) (hm : it_msN M.1.cls i M' n) (hn : As.length = n) (hs : st0 = As.reverse ++ st) (hst : (st.map fun v => v.category).sum ≤ 8) (hdd : d' + 1 ≤ d) (hc : kc + M'.2.2.2.2.1 ≤ M.2.2.2.2.1) (hcs : ks + M'.2.2.2.2.2 ≤ M.2.2.2.2.2)
    (hC : it_Cn g l d' M' As κ S P') (hex : kc + M'.2.2.2.2.1 < 1000 → ∀ v κ' S', P' v κ' S' → κ'.1 = κ.1 + M'.2.2.2.2.1) (kk : ∀ v κ' S', P' v κ' S' → it_Ev g l d M (kc + M'.2.2.2.2.1) (ks + M'.2.2.2.2.2) (pc + 3) L (v.toList ++ st) κ' S' P) : it_Ev g l d M kc ks pc L st0 κ S P := by
  intro p e R s m args below meth c H locs ls Q C F X hl hq
  subst hs
  refine it_after (rest := st) (P' := P') (va_runSN (host := "IcedTooSoon") (As := As.map (it_tr g)) (Ts := it_tb) (own := M.1.cls) ⟨C.1, C.2.1, C.2.2.1, C.2.2.2.1, C.2.2.2.2.1⟩ hC
    ⟨va_cnB n C.2.2.2.2.1 (it_gi hm.1) rfl rfl rfl (F.2.2.2.2.1.1.2.2.2 _ hm.2.1) (C.2.2.2.2.1 _ hm.1.2.1) hm.1.2.2.1 (it_room hm.1 hdd C.2.2.2.2.2.2.1 C.2.2.2.2.2.2.2.1), C.2.2.2.2.1 _ hm.2.2, trivial⟩
    ⟨it_blind, fun U hU hW => ⟨rfl, F.wd hU hW⟩⟩ rfl (by rw [List.length_map]; exact hn) hl.1 (by simp) (lv_room (by rw [it_rest]; exact hst)) hd ⟨Nat.le_trans hc C.2.2.2.2.2.2.2.2.1, Nat.le_trans hcs C.2.2.2.2.2.2.2.2.2⟩) F (fun v κ' S' H1 locs1 hp F1 => ?_)
  refine kk v κ' S' hp p e R s m args below meth c H1 locs1 ls Q C F1 (fun hlt => ?_) hl hq
  rw [hex hlt v κ' S' hp, ← Nat.add_assoc, ← Nat.add_assoc, X (by omega)]
theorem ev_callIN {M' : it_M} {d' i b n : Nat} {As st0 : List Value} {P' : Option Value → it_KK → it_SS → Prop} (hd : decode M.2.1 pc = .ok (.invokespecial i, 3)) (hm : it_miN M.1.cls i M' n) (hn : As.length = n) (hs : st0 = As.reverse ++ .ref b :: st) (hst : (st.map fun v => v.category).sum ≤ 8) (hdd : d' + 1 ≤ d) (hc : kc + M'.2.2.2.2.1 ≤ M.2.2.2.2.1) (hcs : ks + M'.2.2.2.2.2 ≤ M.2.2.2.2.2)
    (hC : it_Cn g l d' M' (.ref b :: As) κ S P') (hex : kc + M'.2.2.2.2.1 < 1000 → ∀ v κ' S', P' v κ' S' → κ'.1 = κ.1 + M'.2.2.2.2.1) (kk : ∀ v κ' S', P' v κ' S' → it_Ev g l d M (kc + M'.2.2.2.2.1) (ks + M'.2.2.2.2.2) (pc + 3) L (v.toList ++ st) κ' S' P) : it_Ev g l d M kc ks pc L st0 κ S P := by
  intro p e R s m args below meth c H locs ls Q C F X hl hq
  subst hs
  refine it_after (rest := st) (P' := P') (va_runIN (host := "IcedTooSoon") (As := As.map (it_tr g)) (Ts := it_tb) (own := M.1.cls) (b := g.1 + b) ⟨C.1, C.2.1, C.2.2.1, C.2.2.2.1, C.2.2.2.2.1⟩ hC
    ⟨va_cnB n C.2.2.2.2.1 (it_gi hm.1) (by rw [it_wds, hm.2.2.2.2]) rfl rfl (F.2.2.2.2.1.1.2.2.2 _ hm.2.1) (C.2.2.2.2.1 _ hm.1.2.1) hm.1.2.2.1 (it_room hm.1 hdd C.2.2.2.2.2.2.1 C.2.2.2.2.2.2.2.1), hm.2.2.2.1, C.2.2.2.2.1 _ hm.2.2.1⟩
    ⟨it_blind, fun U hU hW => ⟨rfl, F.wd hU hW⟩⟩ rfl (by rw [List.length_map]; exact hn) hl.1 (by simp [it_tr]) (lv_room (by rw [it_rest]; exact hst)) hd ⟨Nat.le_trans hc C.2.2.2.2.2.2.2.2.1, Nat.le_trans hcs C.2.2.2.2.2.2.2.2.2⟩) F (fun v κ' S' H1 locs1 hp F1 => ?_)
  refine kk v κ' S' hp p e R s m args below meth c H1 locs1 ls Q C F1 (fun hlt => ?_) hl hq
  rw [hex hlt v κ' S' hp, ← Nat.add_assoc, ← Nat.add_assoc, X (by omega)]
theorem ev_objInit {i b : Nat} (hd : decode M.2.1 pc = .ok (.invokespecial i, 3)) (hm : Cond.methodLink M.1.cls i Lib.objectInit ∈ it_tb ∧ Cond.instanceMethod Lib.objectInit ∈ it_tb ∧ Cond.code Lib.objectInit ⟨#[0xb1]⟩ 1 none ∈ it_tb) (hst : (st.map fun v => v.category).sum ≤ 8) (hdd : 1 ≤ d) (kk : it_Ev g l d M kc ks (pc + 3) L st κ S P) : it_Ev g l d M kc ks pc L (.ref b :: st) κ S P := by
  intro p e R s m args below meth c H locs ls Q C F X hl hq
  have h4 := C.2.2.2.2.2.2.2.1
  refine W.objInit C.1 C.2.1 C.2.2.2.1 (C.2.2.2.2.1 _ hm.1) (C.2.2.2.2.1 _ hm.2.1) (C.2.2.2.2.1 _ hm.2.2) rfl (by rw [C.2.2.1]; exact hl.1) rfl hd (Nat.le_trans hdd C.2.2.2.2.2.2.1) ?_ (W.eq (g2 := F0 m (pc + 3) ls (st.map (it_tr g))) rfl (kk p e R s m args below meth c H locs ls Q C F X hl hq))
  have h5 := lv_room (m := m) (pc := pc) (ls := ls) (rest := .ref (g.1 + b) :: st.map (it_tr g)) (st := st.map (it_tr g)) (by rw [it_rest]; exact hst)
  show _ + 12 ≤ R.locals
  exact Nat.le_trans (Nat.add_le_add_right h5 12) (by omega)
theorem ev_widen {kc1 ks1 : Nat} (h1 : kc ≤ kc1) (h2 : ks ≤ ks1) (h3 : 1000 ≤ kc1) (kk : it_Ev g l d M kc1 ks1 pc L st κ S P) : it_Ev g l d M kc ks pc L st κ S P := fun p e R s m args below meth c H locs ls Q C F X hl hq => W.widen h1 h2 (kk p e R s m args below meth c H locs ls Q C F (fun h => absurd h (by omega)) hl hq)
/-! what was there before the run -/
theorem ev_sld {i : Int32} (hd : decode M.2.1 pc = .ok (.iaload, 1)) (hi : vp_in i g.2.2.2.2.1) (kk : it_Ev g l d M kc ks (pc + 1) L (.int (g.2.2.2.2.2 i.toNatClampNeg) :: st) κ S P) : it_Ev g l d M kc ks pc L (.int i :: .retAddr 0 :: st) κ S P := by
  intro p e R s m args below meth c H locs ls Q C F X hl hq
  exact va_sld C.1 C.2.1 F.2.2.2.2.1.2.1 F.2.2.2.2.1.2.2.2.1 (Nat.not_le.mpr F.2.2.2.2.1.2.2.1) F.2.2.2.2.2 hi hd (kk p e R s m args below meth c H locs ls Q C F X hl hq)
theorem ev_slen (hd : decode M.2.1 pc = .ok (.arraylength, 1)) (kk : it_Ev g l d M kc ks (pc + 1) L (.int (Int32.ofNat g.2.2.2.2.1) :: st) κ S P) : it_Ev g l d M kc ks pc L (.retAddr 0 :: st) κ S P := by
  intro p e R s m args below meth c H locs ls Q C F X hl hq
  exact va_slen C.1 C.2.1 F.2.2.2.2.1.2.1 F.2.2.2.2.1.2.2.2.1 (Nat.not_le.mpr F.2.2.2.2.1.2.2.1) F.2.2.2.2.2 hd (kk p e R s m args below meth c H locs ls Q C F X hl hq)
theorem it_fr.tx {s : State} {H : Heap} {locs : List Loc} (F : it_fr g κ S s H locs) : vk_S 3 it_lens it_bytes (fun i => g.2.2.2.1 (1 + i)) (fun i => g.2.2.2.1 (4 + i)) (it_A g) s s.heap := F.2.2.2.2.1.2.2.2.2.1
theorem it_fr.rest {s : State} {H : Heap} {locs : List Loc} (F : it_fr g κ S s H locs) :
    vk_R "IcedTooSoon" 49 it_txt0 (g.2.2.2.1 1) s ∧ vk_R "IcedTooSoon$Tape" 104 it_txt1 (g.2.2.2.1 2) s ∧ vk_R "IcedTooSoon$Tape" 90 it_txt2 (g.2.2.2.1 3) s ∧
  va_Z "IcedTooSoon" "KIND_ABOVE" "[I" (.ref (g.2.2.2.1 7)) (it_A g) s s.heap ∧ va_T .int (g.2.2.2.1 7) 6 (fun j => .int (it_above.getD j 0)) (it_A g) s s.heap ∧
  va_Z "IcedTooSoon$Tape" "WORD_AT" "[I" (.ref (g.2.2.2.1 8)) (it_A g) s s.heap ∧ va_T .int (g.2.2.2.1 8) 13 (fun j => .int (it_wordAt.getD j 0)) (it_A g) s s.heap ∧
  va_Z "java/lang/String" "COMPACT_STRINGS" "Z" (.int 1) (it_A g) s s.heap ∧ (va_Z "jdk/internal/util/Preconditions" "SIOOBE_FORMATTER" "Ljava/util/function/BiFunction;" .null (it_A g) s s.heap ∨ va_Z "jdk/internal/util/Preconditions" "SIOOBE_FORMATTER" "Ljava/util/function/BiFunction;" (.ref (g.2.2.2.1 9)) (it_A g) s s.heap) := F.2.2.2.2.1.2.2.2.2.2
theorem ev_ldc0 (hown : M.1.cls = "IcedTooSoon") (hd : decode M.2.1 pc = .ok (.ldc 49, 2)) (kk : it_Ev g l d M kc ks (pc + 2) L (.retAddr 1 :: st) κ S P) : it_Ev g l d M kc ks pc L st κ S P := fun p e R s m args below meth c H locs ls Q C F X hl hq =>
  va_ldcS (own := "IcedTooSoon") C.1 C.2.1 (by rw [← hown]; exact C.2.2.2.1) F.rest.1 hd (kk p e R s m args below meth c H locs ls Q C F X hl hq)
theorem ev_ldc1 (hown : M.1.cls = "IcedTooSoon$Tape") (hd : decode M.2.1 pc = .ok (.ldc 104, 2)) (kk : it_Ev g l d M kc ks (pc + 2) L (.retAddr 2 :: st) κ S P) : it_Ev g l d M kc ks pc L st κ S P := fun p e R s m args below meth c H locs ls Q C F X hl hq =>
  va_ldcS (own := "IcedTooSoon$Tape") C.1 C.2.1 (by rw [← hown]; exact C.2.2.2.1) F.rest.2.1 hd (kk p e R s m args below meth c H locs ls Q C F X hl hq)
theorem ev_ldcs2 (hown : M.1.cls = "IcedTooSoon$Tape") (hd : decode M.2.1 pc = .ok (.ldc 90, 2)) (kk : it_Ev g l d M kc ks (pc + 2) L (.retAddr 3 :: st) κ S P) : it_Ev g l d M kc ks pc L st κ S P := fun p e R s m args below meth c H locs ls Q C F X hl hq =>
  va_ldcS (own := "IcedTooSoon$Tape") C.1 C.2.1 (by rw [← hown]; exact C.2.2.2.1) F.rest.2.2.1 hd (kk p e R s m args below meth c H locs ls Q C F X hl hq)
theorem ev_above {i : Nat} (hd : decode M.2.1 pc = .ok (.getstatic i, 3)) (hm : Cond.fieldLink M.1.cls i "IcedTooSoon" "KIND_ABOVE" "[I" ∈ it_tb) (kk : it_Ev g l d M kc ks (pc + 3) L (.retAddr 7 :: st) κ S P) : it_Ev g l d M kc ks pc L st κ S P := fun p e R s m args below meth c H locs ls Q C F X hl hq =>
  va_gets C.1 C.2.1 F.rest.2.2.2.1 F.2.2.2.2.2 C.2.2.2.1 (C.2.2.2.2.1 _ hm) (fun _ h => h) hd (kk p e R s m args below meth c H locs ls Q C F X hl hq)
theorem ev_wordAt {i : Nat} (hd : decode M.2.1 pc = .ok (.getstatic i, 3)) (hm : Cond.fieldLink M.1.cls i "IcedTooSoon$Tape" "WORD_AT" "[I" ∈ it_tb) (kk : it_Ev g l d M kc ks (pc + 3) L (.retAddr 8 :: st) κ S P) : it_Ev g l d M kc ks pc L st κ S P := fun p e R s m args below meth c H locs ls Q C F X hl hq =>
  va_gets C.1 C.2.1 F.rest.2.2.2.2.2.1 F.2.2.2.2.2 C.2.2.2.1 (C.2.2.2.2.1 _ hm) (fun _ h => h) hd (kk p e R s m args below meth c H locs ls Q C F X hl hq)
theorem ev_compact {i : Nat} (hd : decode M.2.1 pc = .ok (.getstatic i, 3)) (hm : Cond.fieldLink M.1.cls i "java/lang/String" "COMPACT_STRINGS" "Z" ∈ it_tb) (kk : it_Ev g l d M kc ks (pc + 3) L (.int 1 :: st) κ S P) : it_Ev g l d M kc ks pc L st κ S P := fun p e R s m args below meth c H locs ls Q C F X hl hq =>
  va_gets C.1 C.2.1 F.rest.2.2.2.2.2.2.2.1 F.2.2.2.2.2 C.2.2.2.1 (C.2.2.2.2.1 _ hm) (fun _ h => h) hd (kk p e R s m args below meth c H locs ls Q C F X hl hq)
theorem ev_iald7 {i : Int32} (hd : decode M.2.1 pc = .ok (.iaload, 1)) (hi : vp_in i 6) (kk : it_Ev g l d M kc ks (pc + 1) L (.int (it_above.getD i.toNatClampNeg 0) :: st) κ S P) : it_Ev g l d M kc ks pc L (.int i :: .retAddr 7 :: st) κ S P := fun p e R s m args below meth c H locs ls Q C F X hl hq =>
  va_ti C.1 C.2.1 F.rest.2.2.2.2.1 F.2.2.2.2.2 hi rfl hd (kk p e R s m args below meth c H locs ls Q C F X hl hq)
theorem ev_iald8 {i : Int32} (hd : decode M.2.1 pc = .ok (.iaload, 1)) (hi : vp_in i 13) (kk : it_Ev g l d M kc ks (pc + 1) L (.int (it_wordAt.getD i.toNatClampNeg 0) :: st) κ S P) : it_Ev g l d M kc ks pc L (.int i :: .retAddr 8 :: st) κ S P := fun p e R s m args below meth c H locs ls Q C F X hl hq =>
  va_ti C.1 C.2.1 F.rest.2.2.2.2.2.2.1 F.2.2.2.2.2 hi rfl hd (kk p e R s m args below meth c H locs ls Q C F X hl hq)
theorem ev_bald {t : Nat} {i : Int32} (ht : t < 3) (hd : decode M.2.1 pc = .ok (.baload, 1)) (hi : vp_in i (it_lens.getD t 0)) (kk : it_Ev g l d M kc ks (pc + 1) L (.int ((it_bytes.getD t []).getD i.toNatClampNeg 0) :: st) κ S P) : it_Ev g l d M kc ks pc L (.int i :: .retAddr (4 + t) :: st) κ S P := fun p e R s m args below meth c H locs ls Q C F X hl hq =>
  va_tb C.1 C.2.1 (F.tx.1 t ht).2.2.2 F.2.2.2.2.2 hi rfl hd (kk p e R s m args below meth c H locs ls Q C F X hl hq)
theorem ev_blen {t : Nat} (ht : t < 3) (hd : decode M.2.1 pc = .ok (.arraylength, 1)) (kk : it_Ev g l d M kc ks (pc + 1) L (.int (Int32.ofNat (it_lens.getD t 0)) :: st) κ S P) : it_Ev g l d M kc ks pc L (.retAddr (4 + t) :: st) κ S P := fun p e R s m args below meth c H locs ls Q C F X hl hq =>
  va_tlen C.1 C.2.1 (F.tx.1 t ht).2.2.2 F.2.2.2.2.2 rfl hd (kk p e R s m args below meth c H locs ls Q C F X hl hq)
theorem ev_coder {t i : Nat} (ht : t < 3) (hd : decode M.2.1 pc = .ok (.getfield i, 3)) (hm : Cond.fieldLink M.1.cls i "java/lang/String" "coder" "B" ∈ it_tb) (kk : it_Ev g l d M kc ks (pc + 3) L (.int 0 :: st) κ S P) : it_Ev g l d M kc ks pc L (.retAddr (1 + t) :: st) κ S P := fun p e R s m args below meth c H locs ls Q C F X hl hq =>
  vk_getf C.1 C.2.1 (F.tx.1 t ht).2.1 F.2.2.2.2.2 C.2.2.2.1 (C.2.2.2.2.1 _ hm) (fun _ h => h) hd (kk p e R s m args below meth c H locs ls Q C F X hl hq)
theorem ev_value {t i : Nat} (ht : t < 3) (hd : decode M.2.1 pc = .ok (.getfield i, 3)) (hm : Cond.fieldLink M.1.cls i "java/lang/String" "value" "[B" ∈ it_tb) (kk : it_Ev g l d M kc ks (pc + 3) L (.retAddr (4 + t) :: st) κ S P) : it_Ev g l d M kc ks pc L (.retAddr (1 + t) :: st) κ S P := fun p e R s m args below meth c H locs ls Q C F X hl hq =>
  vk_getf C.1 C.2.1 (F.tx.1 t ht).2.2.1 F.2.2.2.2.2 C.2.2.2.1 (C.2.2.2.2.1 _ hm) (fun _ h => h) hd (kk p e R s m args below meth c H locs ls Q C F X hl hq)
theorem ev_callO {M' : it_M} {d' i t n : Nat} {As st0 : List Value} {P' : Option Value → it_KK → it_SS → Prop} (ht : t < 3) (hd : decode M.2.1 pc = .ok (.invokevirtual i, 3)) (hm : it_mv M.1.cls i M' n) (hci : M'.1.cls = "java/lang/String") (hn : As.length = n) (hs : st0 = As.reverse ++ .retAddr (1 + t) :: st) (hst : (st.map fun v => v.category).sum ≤ 8) (hdd : d' + 1 ≤ d) (hc : kc + M'.2.2.2.2.1 ≤ M.2.2.2.2.1) (hcs : ks + M'.2.2.2.2.2 ≤ M.2.2.2.2.2)
    (hC : it_Cn g l d' M' (.retAddr (1 + t) :: As) κ S P') (hex : kc + M'.2.2.2.2.1 < 1000 → ∀ v κ' S', P' v κ' S' → κ'.1 = κ.1 + M'.2.2.2.2.1) (kk : ∀ v κ' S', P' v κ' S' → it_Ev g l d M (kc + M'.2.2.2.2.1) (ks + M'.2.2.2.2.2) (pc + 3) L (v.toList ++ st) κ' S' P) : it_Ev g l d M kc ks pc L st0 κ S P := by
  intro p e R s m args below meth c H locs ls Q C F X hl hq
  subst hs
  refine it_after (rest := st) (P' := P') (va_runV (As := As.map (it_tr g)) (C := M'.1.cls) (Ts := it_tb) (own := M.1.cls) (b := g.2.2.2.1 (1 + t)) ⟨C.1, C.2.1, C.2.2.1, C.2.2.2.1, C.2.2.2.2.1⟩ hC
    (cwV n C.2.2.2.2.1 (fun w hw => ?_) rfl rfl rfl ⟨rfl, hm.1.2.2.1⟩ (it_room hm.1 hdd C.2.2.2.2.2.2.1 C.2.2.2.2.2.2.2.1))
    ⟨it_blind, ?_, fun U hU hW => ⟨rfl, F.wd hU hW⟩⟩ rfl (by rw [List.length_map]; exact hn) hl.1 (by simp [it_tr]) (lv_room (by rw [it_rest]; exact hst)) hd ⟨Nat.le_trans hc C.2.2.2.2.2.2.2.2.1, Nat.le_trans hcs C.2.2.2.2.2.2.2.2.2⟩) F (fun v κ' S' H1 locs1 hp F1 => ?_)
  · rcases List.mem_append.mp hw with h | h
    · rcases List.mem_cons.mp h with rfl | h
      · exact it_good _ hm.2.1
      · rcases List.mem_cons.mp h with rfl | h
        · exact it_good _ hm.2.2.1
        · rcases List.mem_cons.mp h with rfl | h
          · exact it_good _ hm.2.2.2
          · rcases List.mem_cons.mp h with rfl | h
            · exact it_good _ hm.1.2.1
            · exact absurd h List.not_mem_nil
    · exact it_gi hm.1 w h
  · rw [hci]
    exact vk_recv (adK := fun i => g.2.2.2.1 (1 + i)) (i := t) F.tx ht F.2.2.2.2.2
  · refine kk v κ' S' hp p e R s m args below meth c H1 locs1 ls Q C F1 (fun hlt => ?_) hl hq
    rw [hex hlt v κ' S' hp, ← Nat.add_assoc, ← Nat.add_assoc, X (by omega)]
theorem ev_fmt {i : Nat} (hd : decode M.2.1 pc = .ok (.getstatic i, 3)) (hm : Cond.fieldLink M.1.cls i "jdk/internal/util/Preconditions" "SIOOBE_FORMATTER" "Ljava/util/function/BiFunction;" ∈ it_tb) (kk : ∀ v : Value, v = .null ∨ v = .retAddr 9 → it_Ev g l d M kc ks (pc + 3) L (v :: st) κ S P) : it_Ev g l d M kc ks pc L st κ S P := by
  intro p e R s m args below meth c H locs ls Q C F X hl hq
  rcases F.rest.2.2.2.2.2.2.2.2 with h | h
  · exact va_gets C.1 C.2.1 h F.2.2.2.2.2 C.2.2.2.1 (C.2.2.2.2.1 _ hm) (fun _ h => h) hd (kk .null (Or.inl rfl) p e R s m args below meth c H locs ls Q C F X hl hq)
  · exact va_gets C.1 C.2.1 h F.2.2.2.2.2 C.2.2.2.1 (C.2.2.2.2.1 _ hm) (fun _ h => h) hd (kk (.retAddr 9) (Or.inr rfl) p e R s m args below meth c H locs ls Q C F X hl hq)
end ITC
end
section
/-! programs as functions of the numbers alone: none where the machine would not go on -/
def it_FU : Nat := 100000
def it_bd (i : Int32) (n : Nat) : Bool := decide (0 ≤ i) && decide (i.toNatClampNeg < n)
theorem it_bd_in {i : Int32} {n : Nat} (h : it_bd i n = true) : vp_in i n := by
  simp only [it_bd, Bool.and_eq_true, decide_eq_true_eq] at h
  rintro (h1 | h1)
  · exact absurd h.1 (Int32.not_le.mpr h1)
  · omega
def it_bz (i : Int32) : Bool := decide (i = 0 ∨ i = 1)
theorem it_bz_n {i : Int32} (h : it_bz i = true) : narrow .boolean (.int i) = .int i := by
  have h1 : i = 0 ∨ i = 1 := of_decide_eq_true h
  rcases h1 with rfl | rfl <;> rfl
def it_ok {ρ : Type} (o : Option (ρ × it_SS)) (P : ρ → it_SS → Prop) : Prop := ∃ r S, o = some (r, S) ∧ P r S
theorem it_ok_t {ρ : Type} {c : Prop} {i : Decidable c} {A B : Option (ρ × it_SS)} {P : ρ → it_SS → Prop} (h : it_ok (@ite _ c i A B) P) (hc : c) : it_ok A P := by rwa [if_pos hc] at h
theorem it_ok_f {ρ : Type} {c : Prop} {i : Decidable c} {A B : Option (ρ × it_SS)} {P : ρ → it_SS → Prop} (h : it_ok (@ite _ c i A B) P) (hc : ¬ c) : it_ok B P := by rwa [if_neg hc] at h
theorem it_ok_n {ρ : Type} {P : ρ → it_SS → Prop} (h : it_ok (none : Option (ρ × it_SS)) P) : False := by
  obtain ⟨r, S, h, -⟩ := h
  cases h
theorem it_ok_g {ρ : Type} {c : Prop} {i : Decidable c} {A : Option (ρ × it_SS)} {P : ρ → it_SS → Prop} (h : it_ok (@ite _ c i A none) P) : c ∧ it_ok A P := by
  by_cases hc : c
  · exact ⟨hc, it_ok_t h hc⟩
  · exact (it_ok_n (it_ok_f h hc)).elim
theorem it_ok_z {ρ : Type} {c : Prop} {i : Decidable c} {A : Option (ρ × it_SS)} {P : ρ → it_SS → Prop} (h : it_ok (@ite _ c i none A) P) : ¬ c ∧ it_ok A P := by
  by_cases hc : c
  · exact (it_ok_n (it_ok_t h hc)).elim
  · exact ⟨hc, it_ok_f h hc⟩
def it_bi {ρ τ : Type} (o : Option (ρ × it_SS)) (k : ρ → it_SS → Option (τ × it_SS)) : Option (τ × it_SS) := match o with
  | none => none
  | some q => k q.1 q.2
theorem it_bi_some {ρ τ : Type} (r : ρ) (S : it_SS) (k : ρ → it_SS → Option (τ × it_SS)) : it_bi (some (r, S)) k = k r S := rfl
theorem it_ok_b {ρ τ : Type} {o : Option (ρ × it_SS)} {k : ρ → it_SS → Option (τ × it_SS)} {P : τ → it_SS → Prop} (h : it_ok (it_bi o k) P) : it_ok o (fun r S => it_ok (k r S) P) := by
  obtain ⟨r, S, h, hp⟩ := h
  match o, h with
  | some q, h => exact ⟨q.1, q.2, rfl, r, S, h, hp⟩
theorem it_ok_r {ρ : Type} {r : ρ} {S : it_SS} {P : ρ → it_SS → Prop} (h : it_ok (some (r, S)) P) : P r S := by
  obtain ⟨r1, S1, h, hp⟩ := h
  cases h
  exact hp
theorem it_ok_i {ρ : Type} {r : ρ} {S : it_SS} {o : Option (ρ × it_SS)} {P : ρ → it_SS → Prop} (h : o = some (r, S)) (hp : P r S) : it_ok o P := ⟨r, S, h, hp⟩
def it_pi (κ : it_KK) (P : Int32 → it_SS → Prop) : Option Value → it_KK → it_SS → Prop := fun v κ' S' => κ = κ' ∧ ∃ r, v = some (.int r) ∧ P r S'
def it_pl (κ : it_KK) (P : Int64 → it_SS → Prop) : Option Value → it_KK → it_SS → Prop := fun v κ' S' => κ = κ' ∧ ∃ r, v = some (.long r) ∧ P r S'
def it_pv (κ : it_KK) (P : Unit → it_SS → Prop) : Option Value → it_KK → it_SS → Prop := fun v κ' S' => κ = κ' ∧ v = none ∧ P () S'
def it_keep (bs : List Bool) (L : it_L) : it_L := List.zipWith (fun b o => if b = true then o else none) bs L
section ITK
variable {g : it_G} {l : Launch} {d : Nat} {M : it_M} {kc ks pc : Nat} {L : it_L} {st : List Value} {κ : it_KK} {S : it_SS} {P : Option Value → it_KK → it_SS → Prop}
theorem ev_keep (bs : List Bool) (h : it_Ev g l d M kc ks pc (it_keep bs L) st κ S P) : it_Ev g l d M kc ks pc L st κ S P := by
  refine ev_forget (fun i v hv => ?_) h
  simp only [it_keep, List.getElem?_zipWith] at hv
  split at hv
  · rename_i b o h1 h2
    rw [h2]
    cases b <;> simp_all
  · cases hv
theorem ev_getRr {a ci k i r : Nat} (hr : it_lay ci k a = r) (hd : decode M.2.1 pc = .ok (.getfield i, 3)) (hf : it_fl M.1.cls i ci k) (ho : it_ob κ a ci) (hm : (it_mask ci)[k]? = some true) (kk : it_Ev g l d M kc ks (pc + 3) L (.ref r :: st) κ S P) : it_Ev g l d M kc ks pc L (.ref a :: st) κ S P := by
  subst hr
  exact ev_getR hd hf ho hm kk
theorem ev_table {dflt lo hi : Int} {offs : Array Int} {len : Nat} {x c1 : Int32} {off : Int} {tgt : Nat} (hx : x = c1) (hd : decode M.2.1 pc = .ok (.tableswitch dflt lo hi offs, len)) (h1 : ¬ c1.toInt < lo) (h2 : ¬ hi < c1.toInt) (ho : offs[(c1.toInt - lo).toNat]? = some off) (ht : (pc : Int) + off = (tgt : Int)) (kk : it_Ev g l d M kc ks tgt L st κ S P) : it_Ev g l d M kc ks pc L (.int x :: st) κ S P := by
  subst hx
  exact ev_tableIn hd h1 h2 ho ht kk
theorem it_sw {x : Int32} {lo hi : Int} (h : lo ≤ x.toInt → x.toInt ≤ hi → False) : x.toInt < lo ∨ hi < x.toInt := by
  by_cases h1 : x.toInt < lo
  · exact Or.inl h1
  · by_cases h2 : hi < x.toInt
    · exact Or.inr h2
    · exact (h (by omega) (by omega)).elim
end ITK
/-! which cells there are -/
/-- a house -/
def it_hs (κ : it_KK) (h : Nat) : Prop := it_ob κ h 0 ∧ it_ar κ (h + 1) 6 ∧ it_ar κ (h + 2) 6 ∧ it_ar κ (h + 3) 6 ∧ it_ar κ (h + 4) 6 ∧ it_ar κ (h + 5) 10 ∧ it_ar κ (h + 6) 10 ∧ it_ar κ (h + 7) 10
/-- a sheet -/
def it_sh (κ : it_KK) (a : Nat) : Prop := it_ob κ a 2 ∧ it_ar κ (a + 1) 40
/-- a text -/
def it_tx (κ : it_KK) (a : Nat) : Prop := it_ob κ a 4 ∧ it_ar κ (a + 1) (κ.2.1 (a + 1)).2 ∧ it_ar κ (a + 2) 3
/-- the tape -/
def it_wt (κ : it_KK) : Prop := it_ob κ 5 3 ∧ it_ar κ 6 160 ∧ it_ar κ 7 160 ∧ it_ar κ 8 3
/-- the book of texts -/
def it_wb (κ : it_KK) : Prop := it_ob κ 1 1 ∧ it_rr κ 2 1 6 ∧ it_ar κ 3 6 ∧ it_ar κ 4 40 ∧ ∀ t, κ.2.2 2 t = true → it_tx κ (it_el 1 t)
/-- the class's object -/
def it_wx (κ : it_KK) : Prop := it_ob κ 0 5 ∧ it_wb κ ∧ it_wt κ ∧ it_hs κ 9 ∧ it_hs κ 17 ∧ it_hs κ 25 ∧ it_rr κ 33 2 4 ∧ (∀ j, κ.2.2 33 j = true) ∧ ∀ j, j < 4 → it_sh κ (it_el 2 j)
/-- the reference's object -/
def it_wm (κ : it_KK) : Prop := it_ob κ 45 6 ∧ it_ar κ 46 6 ∧ it_ar κ 47 6 ∧ it_ar κ 48 12 ∧ it_ar κ 49 30 ∧ it_ar κ 50 160 ∧ it_ar κ 51 1200 ∧ it_ar κ 52 24 ∧ it_ar κ 53 42 ∧ it_ar κ 54 3 ∧ it_ar κ 55 4 ∧ it_ar κ 56 4 ∧ it_ar κ 57 160 ∧ it_ar κ 58 36 ∧ it_ar κ 59 96 ∧ it_ar κ 60 200 ∧ it_ar κ 61 200 ∧ it_ar κ 62 6 ∧ it_ar κ 63 43 ∧ it_ar κ 64 10
theorem it_bd_lt {i : Int32} {n : Nat} (h : it_bd i n = true) : i.toNatClampNeg < n := by
  simp only [it_bd, Bool.and_eq_true, decide_eq_true_eq] at h
  exact h.2
theorem it_j0 : ∀ w ∈ u_ws it_R0 it_F0 11, w ∈ it_tb := fun w hw => it_in_tb (it_i0 w hw) (List.all_eq_true.mp (by decide +kernel : (u_ws it_R0 it_F0 11).all goodWord = true) w hw)
theorem it_j1 : ∀ w ∈ u_ws it_R1 it_F1 4, w ∈ it_tb := fun w hw => it_in_tb (it_i1 w hw) (List.all_eq_true.mp (by decide +kernel : (u_ws it_R1 it_F1 4).all goodWord = true) w hw)
theorem it_j2 : ∀ w ∈ u_ws it_R2 it_F2 3, w ∈ it_tb := fun w hw => it_in_tb (it_i2 w hw) (List.all_eq_true.mp (by decide +kernel : (u_ws it_R2 it_F2 3).all goodWord = true) w hw)
theorem it_j3 : ∀ w ∈ u_ws it_R3 it_F3 9, w ∈ it_tb := fun w hw => it_in_tb (it_i3 w hw) (List.all_eq_true.mp (by decide +kernel : (u_ws it_R3 it_F3 9).all goodWord = true) w hw)
theorem it_j4 : ∀ w ∈ u_ws it_R4 it_F4 2, w ∈ it_tb := fun w hw => it_in_tb (it_i4 w hw) (List.all_eq_true.mp (by decide +kernel : (u_ws it_R4 it_F4 2).all goodWord = true) w hw)
theorem it_j5 : ∀ w ∈ u_ws it_R5 it_F5 7, w ∈ it_tb := fun w hw => it_in_tb (it_i5 w hw) (List.all_eq_true.mp (by decide +kernel : (u_ws it_R5 it_F5 7).all goodWord = true) w hw)
theorem it_j6 : ∀ w ∈ u_ws it_R6 it_F6 34, w ∈ it_tb := fun w hw => it_in_tb (it_i6 w hw) (List.all_eq_true.mp (by decide +kernel : (u_ws it_R6 it_F6 34).all goodWord = true) w hw)
end
section
abbrev it_m_X0_init : it_M := (⟨"IcedTooSoon$House", "<init>", "(LIcedTooSoon$Lawbook;)V"⟩, prog_2_method_1_code, 2, none, 7, 54)
abbrev it_m_X0_become : it_M := (⟨"IcedTooSoon$House", "become", "(LIcedTooSoon$House;)V"⟩, prog_2_method_2_code, 2, none, 0, 0)
abbrev it_m_X0_hasGuest : it_M := (⟨"IcedTooSoon$House", "hasGuest", "(I)Z"⟩, prog_2_method_3_code, 2, (some .boolean), 0, 0)
abbrev it_m_X0_hasGlass : it_M := (⟨"IcedTooSoon$House", "hasGlass", "(I)Z"⟩, prog_2_method_4_code, 2, (some .boolean), 0, 0)
abbrev it_m_X0_glassesThere : it_M := (⟨"IcedTooSoon$House", "glassesThere", "()I"⟩, prog_2_method_5_code, 3, (some .int), 0, 0)
abbrev it_m_X0_glassesOf : it_M := (⟨"IcedTooSoon$House", "glassesOf", "(I)I"⟩, prog_2_method_6_code, 4, (some .int), 0, 0)
abbrev it_m_X0_guestsBelow : it_M := (⟨"IcedTooSoon$House", "guestsBelow", "(I)I"⟩, prog_2_method_7_code, 4, (some .int), 0, 0)
abbrev it_m_X0_moodOfAll : it_M := (⟨"IcedTooSoon$House", "moodOfAll", "()I"⟩, prog_2_method_8_code, 3, (some .int), 0, 0)
abbrev it_m_X0_weightOfAll : it_M := (⟨"IcedTooSoon$House", "weightOfAll", "()I"⟩, prog_2_method_9_code, 3, (some .int), 0, 0)
abbrev it_m_X0_admit : it_M := (⟨"IcedTooSoon$House", "admit", "(II)I"⟩, prog_2_method_10_code, 3, (some .int), 0, 0)
abbrev it_m_X0_set : it_M := (⟨"IcedTooSoon$House", "set", "(III)V"⟩, prog_2_method_11_code, 4, none, 0, 0)
abbrev it_m_X0_setKind : it_M := (⟨"IcedTooSoon$House", "setKind", "(III)V"⟩, prog_2_method_12_code, 4, none, 0, 0)
abbrev it_m_X0_serve : it_M := (⟨"IcedTooSoon$House", "serve", "(III)I"⟩, prog_2_method_13_code, 5, (some .int), 0, 0)
abbrev it_m_X0_take : it_M := (⟨"IcedTooSoon$House", "take", "(I)V"⟩, prog_2_method_14_code, 2, none, 0, 0)
abbrev it_m_X0_addIce : it_M := (⟨"IcedTooSoon$House", "addIce", "(II)V"⟩, prog_2_method_15_code, 3, none, 0, 0)
abbrev it_m_X0_passDay : it_M := (⟨"IcedTooSoon$House", "passDay", "()I"⟩, prog_2_method_16_code, 4, (some .int), 0, 0)
abbrev it_m_X0_saying : it_M := (⟨"IcedTooSoon$House", "saying", "(II)I"⟩, prog_2_method_17_code, 4, (some .int), 0, 0)
abbrev it_m_X0_melting : it_M := (⟨"IcedTooSoon$House", "melting", "(I)I"⟩, prog_2_method_18_code, 4, (some .int), 0, 0)
abbrev it_m_X0_feeling : it_M := (⟨"IcedTooSoon$House", "feeling", "(I)I"⟩, prog_2_method_19_code, 5, (some .int), 0, 0)
abbrev it_m_X0_chilling : it_M := (⟨"IcedTooSoon$House", "chilling", "(I)I"⟩, prog_2_method_20_code, 4, (some .int), 0, 0)
abbrev it_m_X1_init : it_M := (⟨"IcedTooSoon$Lawbook", "<init>", "()V"⟩, prog_3_method_1_code, 1, none, 3, 52)
abbrev it_m_X1_add : it_M := (⟨"IcedTooSoon$Lawbook", "add", "(LIcedTooSoon$Text;)I"⟩, prog_3_method_2_code, 2, (some .int), 0, 0)
abbrev it_m_X1_name : it_M := (⟨"IcedTooSoon$Lawbook", "name", "(IIIIII)V"⟩, prog_3_method_3_code, 7, none, 0, 0)
abbrev it_m_X1_reckon : it_M := (⟨"IcedTooSoon$Lawbook", "reckon", "(II)I"⟩, prog_3_method_4_code, 9, (some .int), 0, 0)
abbrev it_m_X1_turned : it_M := (⟨"IcedTooSoon$Lawbook", "turned", "(II)I"⟩, prog_3_method_5_code, 2, (some .int), 0, 0)
abbrev it_m_X1_joined : it_M := (⟨"IcedTooSoon$Lawbook", "joined", "(III)I"⟩, prog_3_method_6_code, 3, (some .int), 0, 0)
abbrev it_m_X2_init : it_M := (⟨"IcedTooSoon$Sheet", "<init>", "()V"⟩, prog_4_method_1_code, 1, none, 1, 40)
abbrev it_m_X2_renew : it_M := (⟨"IcedTooSoon$Sheet", "renew", "(II)V"⟩, prog_4_method_2_code, 3, none, 0, 0)
abbrev it_m_X2_has : it_M := (⟨"IcedTooSoon$Sheet", "has", "(I)Z"⟩, prog_4_method_3_code, 2, (some .boolean), 0, 0)
abbrev it_m_X2_write : it_M := (⟨"IcedTooSoon$Sheet", "write", "(II)V"⟩, prog_4_method_4_code, 3, none, 0, 0)
abbrev it_m_X3_init : it_M := (⟨"IcedTooSoon$Tape", "<init>", "()V"⟩, prog_5_method_1_code, 1, none, 3, 323)
abbrev it_m_X3_add : it_M := (⟨"IcedTooSoon$Tape", "add", "(I)V"⟩, prog_5_method_2_code, 2, none, 0, 0)
abbrev it_m_X3_empty : it_M := (⟨"IcedTooSoon$Tape", "empty", "()V"⟩, prog_5_method_3_code, 1, none, 0, 0)
abbrev it_m_X3_isName : it_M := (⟨"IcedTooSoon$Tape", "isName", "(I)Z"⟩, prog_5_method_4_code, 1, (some .boolean), 0, 0)
abbrev it_m_X3_isTurn : it_M := (⟨"IcedTooSoon$Tape", "isTurn", "(I)Z"⟩, prog_5_method_5_code, 1, (some .boolean), 0, 0)
abbrev it_m_X3_written : it_M := (⟨"IcedTooSoon$Tape", "written", "()LIcedTooSoon$Text;"⟩, prog_5_method_6_code, 1, (some (.object "IcedTooSoon$Text")), 3, 165)
abbrev it_m_X3_isRead : it_M := (⟨"IcedTooSoon$Tape", "isRead", "()Z"⟩, prog_5_method_7_code, 2, (some .boolean), 0, 0)
abbrev it_m_X3_readLevel : it_M := (⟨"IcedTooSoon$Tape", "readLevel", "(II)Z"⟩, prog_5_method_8_code, 7, (some .boolean), 0, 0)
abbrev it_m_X3_joins : it_M := (⟨"IcedTooSoon$Tape", "joins", "(I)Z"⟩, prog_5_method_9_code, 2, (some .boolean), 0, 0)
abbrev it_m_X3_readOne : it_M := (⟨"IcedTooSoon$Tape", "readOne", "(I)Z"⟩, prog_5_method_10_code, 2, (some .boolean), 0, 0)
abbrev it_m_X3_readTurned : it_M := (⟨"IcedTooSoon$Tape", "readTurned", "(II)Z"⟩, prog_5_method_11_code, 4, (some .boolean), 0, 0)
abbrev it_m_X3_readInner : it_M := (⟨"IcedTooSoon$Tape", "readInner", "(I)Z"⟩, prog_5_method_12_code, 2, (some .boolean), 0, 0)
abbrev it_m_X3_write : it_M := (⟨"IcedTooSoon$Tape", "write", "(I)V"⟩, prog_5_method_13_code, 2, none, 0, 0)
abbrev it_m_X3_next : it_M := (⟨"IcedTooSoon$Tape", "next", "()V"⟩, prog_5_method_14_code, 1, none, 0, 0)
abbrev it_m_X3_nextWord : it_M := (⟨"IcedTooSoon$Tape", "nextWord", "()V"⟩, prog_5_method_15_code, 2, none, 0, 0)
abbrev it_m_X3_isWord : it_M := (⟨"IcedTooSoon$Tape", "isWord", "(I)Z"⟩, prog_5_method_16_code, 4, (some .boolean), 0, 0)
abbrev it_m_X3_nextNumber : it_M := (⟨"IcedTooSoon$Tape", "nextNumber", "()V"⟩, prog_5_method_17_code, 1, none, 0, 0)
abbrev it_m_X3_isLetter : it_M := (⟨"IcedTooSoon$Tape", "isLetter", "(I)Z"⟩, prog_5_method_18_code, 1, (some .boolean), 0, 0)
abbrev it_m_X3_isDigit : it_M := (⟨"IcedTooSoon$Tape", "isDigit", "(I)Z"⟩, prog_5_method_19_code, 1, (some .boolean), 0, 0)
abbrev it_m_X4_init : it_M := (⟨"IcedTooSoon$Text", "<init>", "([I[I)V"⟩, prog_6_method_1_code, 3, none, 0, 0)
abbrev it_m_X5_init : it_M := (⟨"IcedTooSoon", "<init>", "()V"⟩, prog_1_method_1_code, 2, none, 44, 1500)
abbrev it_m_X5_count : it_M := (⟨"IcedTooSoon", "count", "(I)I"⟩, prog_1_method_2_code, 2, (some .int), 0, 0)
abbrev it_m_X5_dawn : it_M := (⟨"IcedTooSoon", "dawn", "(I)I"⟩, prog_1_method_3_code, 3, (some .int), 0, 0)
abbrev it_m_X5_feed : it_M := (⟨"IcedTooSoon", "feed", "(IIIIII)I"⟩, prog_1_method_4_code, 8, (some .int), 0, 0)
abbrev it_m_X5_text : it_M := (⟨"IcedTooSoon", "text", "()I"⟩, prog_1_method_5_code, 2, (some .int), 3, 165)
abbrev it_m_X5_force : it_M := (⟨"IcedTooSoon", "force", "(I)I"⟩, prog_1_method_6_code, 3, (some .int), 0, 0)
abbrev it_m_X5_asks : it_M := (⟨"IcedTooSoon", "asks", "(II)I"⟩, prog_1_method_7_code, 3, (some .int), 0, 0)
abbrev it_m_X5_guest : it_M := (⟨"IcedTooSoon", "guest", "(II)I"⟩, prog_1_method_8_code, 3, (some .int), 0, 0)
abbrev it_m_X5_order : it_M := (⟨"IcedTooSoon", "order", "(III)I"⟩, prog_1_method_9_code, 4, (some .int), 0, 0)
abbrev it_m_X5_put : it_M := (⟨"IcedTooSoon", "put", "(III)I"⟩, prog_1_method_10_code, 5, (some .int), 0, 0)
abbrev it_m_X5_told : it_M := (⟨"IcedTooSoon", "told", "(II)I"⟩, prog_1_method_11_code, 3, (some .int), 0, 0)
abbrev it_m_X5_glass : it_M := (⟨"IcedTooSoon", "glass", "(II)I"⟩, prog_1_method_12_code, 3, (some .int), 0, 0)
abbrev it_m_X5_day : it_M := (⟨"IcedTooSoon", "day", "()I"⟩, prog_1_method_13_code, 1, (some .int), 0, 0)
abbrev it_m_X5_iced : it_M := (⟨"IcedTooSoon", "iced", "(II)I"⟩, prog_1_method_14_code, 3, (some .int), 0, 0)
abbrev it_m_X5_spill : it_M := (⟨"IcedTooSoon", "spill", "(I)I"⟩, prog_1_method_15_code, 2, (some .int), 0, 0)
abbrev it_m_X5_run : it_M := (⟨"IcedTooSoon", "run", "(II)I"⟩, prog_1_method_16_code, 4, (some .int), 0, 0)
abbrev it_m_X5_goesOff : it_M := (⟨"IcedTooSoon", "goesOff", "(I)I"⟩, prog_1_method_17_code, 3, (some .int), 0, 0)
abbrev it_m_X5_worst : it_M := (⟨"IcedTooSoon", "worst", "(III)I"⟩, prog_1_method_18_code, 9, (some .int), 0, 0)
abbrev it_m_X5_falls : it_M := (⟨"IcedTooSoon", "falls", "(II)I"⟩, prog_1_method_19_code, 5, (some .int), 0, 0)
abbrev it_m_X5_again : it_M := (⟨"IcedTooSoon", "again", "(III)I"⟩, prog_1_method_20_code, 8, (some .int), 0, 0)
abbrev it_m_X5_spilt : it_M := (⟨"IcedTooSoon", "spilt", "(II)I"⟩, prog_1_method_21_code, 7, (some .int), 0, 0)
abbrev it_m_X5_round : it_M := (⟨"IcedTooSoon", "round", "(III)I"⟩, prog_1_method_22_code, 6, (some .int), 0, 0)
abbrev it_m_X5_mean : it_M := (⟨"IcedTooSoon", "mean", "(I)J"⟩, prog_1_method_23_code, 3, (some .long), 0, 0)
abbrev it_m_X5_judge : it_M := (⟨"IcedTooSoon", "judge", "(II)I"⟩, prog_1_method_24_code, 4, (some .int), 0, 0)
abbrev it_m_X5_kinds : it_M := (⟨"IcedTooSoon", "kinds", "(III)I"⟩, prog_1_method_25_code, 7, (some .int), 0, 0)
abbrev it_m_X5_states : it_M := (⟨"IcedTooSoon", "states", "(IIII)I"⟩, prog_1_method_26_code, 9, (some .int), 0, 0)
abbrev it_m_X5_owners : it_M := (⟨"IcedTooSoon", "owners", "(II)I"⟩, prog_1_method_27_code, 6, (some .int), 0, 0)
abbrev it_m_X5_who : it_M := (⟨"IcedTooSoon", "who", "(I)I"⟩, prog_1_method_28_code, 5, (some .int), 0, 0)
abbrev it_m_X5_laws : it_M := (⟨"IcedTooSoon", "laws", "(II)I"⟩, prog_1_method_29_code, 6, (some .int), 0, 0)
abbrev it_m_X5_film : it_M := (⟨"IcedTooSoon", "film", "(III)I"⟩, prog_1_method_30_code, 5, (some .int), 0, 0)
abbrev it_m_X5_drawn : it_M := (⟨"IcedTooSoon", "drawn", "(II)I"⟩, prog_1_method_31_code, 3, (some .int), 0, 0)
abbrev it_m_X5_odds : it_M := (⟨"IcedTooSoon", "odds", "(IIII)J"⟩, prog_1_method_32_code, 7, (some .long), 0, 0)
abbrev it_m_X5_image : it_M := (⟨"IcedTooSoon", "image", "()I"⟩, prog_1_method_33_code, 1, (some .int), 0, 0)
abbrev it_m_X5_back : it_M := (⟨"IcedTooSoon", "back", "()I"⟩, prog_1_method_34_code, 1, (some .int), 0, 0)
abbrev it_m_X5_sheet : it_M := (⟨"IcedTooSoon", "sheet", "(III)I"⟩, prog_1_method_35_code, 4, (some .int), 0, 0)
abbrev it_m_X5_cell : it_M := (⟨"IcedTooSoon", "cell", "(III)I"⟩, prog_1_method_36_code, 4, (some .int), 0, 0)
abbrev it_m_X5_copy : it_M := (⟨"IcedTooSoon", "copy", "(IIIII)I"⟩, prog_1_method_37_code, 8, (some .int), 0, 0)
abbrev it_m_X5_guestsBy : it_M := (⟨"IcedTooSoon", "guestsBy", "(IIII)I"⟩, prog_1_method_38_code, 9, (some .int), 0, 0)
abbrev it_m_X5_taken : it_M := (⟨"IcedTooSoon", "taken", "(II)I"⟩, prog_1_method_39_code, 5, (some .int), 0, 0)
abbrev it_m_X5_isOutside : it_M := (⟨"IcedTooSoon", "isOutside", "(III)Z"⟩, prog_1_method_40_code, 3, (some .boolean), 0, 0)
abbrev it_m_X5_isNoByte : it_M := (⟨"IcedTooSoon", "isNoByte", "(I)Z"⟩, prog_1_method_41_code, 1, (some .boolean), 0, 0)
abbrev it_m_X5_isNoSheet : it_M := (⟨"IcedTooSoon", "isNoSheet", "(I)Z"⟩, prog_1_method_42_code, 1, (some .boolean), 0, 0)
abbrev it_m_X5_bounded : it_M := (⟨"IcedTooSoon", "bounded", "(III)I"⟩, prog_1_method_43_code, 3, (some .int), 0, 0)
abbrev it_m_X5_isOfKind : it_M := (⟨"IcedTooSoon", "isOfKind", "(II)Z"⟩, prog_1_method_44_code, 4, (some .boolean), 0, 0)
abbrev it_m_X5_oneOf : it_M := (⟨"IcedTooSoon", "oneOf", "(I)I"⟩, prog_1_method_45_code, 1, (some .int), 0, 0)
abbrev it_m_X5_isAhead : it_M := (⟨"IcedTooSoon", "isAhead", "(II)Z"⟩, prog_1_method_46_code, 4, (some .boolean), 0, 0)
abbrev it_m_X5_inLowestTerms : it_M := (⟨"IcedTooSoon", "inLowestTerms", "(III)J"⟩, prog_1_method_47_code, 7, (some .long), 0, 0)
abbrev it_m_X5_think : it_M := (⟨"IcedTooSoon", "think", "()V"⟩, prog_1_method_48_code, 1, none, 0, 0)
abbrev it_m_X5_pass : it_M := (⟨"IcedTooSoon", "pass", "(I)V"⟩, prog_1_method_49_code, 3, none, 0, 0)
abbrev it_m_X5_nextOff : it_M := (⟨"IcedTooSoon", "nextOff", "(I)I"⟩, prog_1_method_50_code, 4, (some .int), 0, 0)
abbrev it_m_X5_moodIfIced : it_M := (⟨"IcedTooSoon", "moodIfIced", "(III)I"⟩, prog_1_method_51_code, 5, (some .int), 0, 0)
abbrev it_m_X5_roundOf : it_M := (⟨"IcedTooSoon", "roundOf", "(III)I"⟩, prog_1_method_52_code, 9, (some .int), 0, 0)
abbrev it_m_X5_moodIfSpilt : it_M := (⟨"IcedTooSoon", "moodIfSpilt", "(II)I"⟩, prog_1_method_53_code, 3, (some .int), 0, 0)
abbrev it_m_X5_refusalOfSheet : it_M := (⟨"IcedTooSoon", "refusalOfSheet", "(I)I"⟩, prog_1_method_54_code, 2, (some .int), 0, 0)
abbrev it_m_X5_refusalOfDays : it_M := (⟨"IcedTooSoon", "refusalOfDays", "(II)I"⟩, prog_1_method_55_code, 4, (some .int), 0, 0)
abbrev it_m_X5_firstOtherwise : it_M := (⟨"IcedTooSoon", "firstOtherwise", "(II)I"⟩, prog_1_method_56_code, 5, (some .int), 0, 0)
abbrev it_m_X5_thinkOfLots : it_M := (⟨"IcedTooSoon", "thinkOfLots", "(I)V"⟩, prog_1_method_57_code, 8, none, 0, 0)
abbrev it_m_X5_lotBehind : it_M := (⟨"IcedTooSoon", "lotBehind", "(J)J"⟩, prog_1_method_58_code, 2, (some .long), 0, 0)
abbrev it_m_X6_init : it_M := (⟨"IcedTooSoonModel", "<init>", "()V"⟩, prog_8_method_1_code, 2, none, 19, 3500)
abbrev it_m_X6_in : it_M := (⟨"IcedTooSoonModel", "in", "(III)Z"⟩, prog_8_method_3_code, 3, (some .boolean), 0, 0)
abbrev it_m_X6_within : it_M := (⟨"IcedTooSoonModel", "within", "(III)I"⟩, prog_8_method_4_code, 3, (some .int), 0, 0)
abbrev it_m_X6_isOne : it_M := (⟨"IcedTooSoonModel", "isOne", "(I)Z"⟩, prog_8_method_5_code, 2, (some .boolean), 0, 0)
abbrev it_m_X6_isThere : it_M := (⟨"IcedTooSoonModel", "isThere", "(I)Z"⟩, prog_8_method_6_code, 2, (some .boolean), 0, 0)
abbrev it_m_X6_many : it_M := (⟨"IcedTooSoonModel", "many", "()I"⟩, prog_8_method_7_code, 3, (some .int), 0, 0)
abbrev it_m_X6_moodAll : it_M := (⟨"IcedTooSoonModel", "moodAll", "()I"⟩, prog_8_method_8_code, 3, (some .int), 0, 0)
abbrev it_m_X6_count : it_M := (⟨"IcedTooSoonModel", "count", "(I)I"⟩, prog_8_method_9_code, 2, (some .int), 0, 0)
abbrev it_m_X6_dawn : it_M := (⟨"IcedTooSoonModel", "dawn", "(I)I"⟩, prog_8_method_10_code, 3, (some .int), 0, 0)
abbrev it_m_X6_isByte : it_M := (⟨"IcedTooSoonModel", "isByte", "(I)Z"⟩, prog_8_method_11_code, 1, (some .boolean), 0, 0)
abbrev it_m_X6_feed : it_M := (⟨"IcedTooSoonModel", "feed", "(IIIIII)I"⟩, prog_8_method_12_code, 8, (some .int), 0, 0)
abbrev it_m_X6_wordFrom : it_M := (⟨"IcedTooSoonModel", "wordFrom", "(II)I"⟩, prog_8_method_13_code, 6, (some .int), 0, 0)
abbrev it_m_X6_next : it_M := (⟨"IcedTooSoonModel", "next", "()V"⟩, prog_8_method_14_code, 3, none, 0, 0)
abbrev it_m_X6_rank : it_M := (⟨"IcedTooSoonModel", "rank", "(I)I"⟩, prog_8_method_15_code, 1, (some .int), 0, 0)
abbrev it_m_X6_puts : it_M := (⟨"IcedTooSoonModel", "puts", "(I)V"⟩, prog_8_method_16_code, 2, none, 0, 0)
abbrev it_m_X6_unwinds : it_M := (⟨"IcedTooSoonModel", "unwinds", "(I)V"⟩, prog_8_method_17_code, 3, none, 0, 0)
abbrev it_m_X6_holds : it_M := (⟨"IcedTooSoonModel", "holds", "(I)V"⟩, prog_8_method_18_code, 2, none, 0, 0)
abbrev it_m_X6_opensOne : it_M := (⟨"IcedTooSoonModel", "opensOne", "(I)Z"⟩, prog_8_method_19_code, 2, (some .boolean), 0, 0)
abbrev it_m_X6_between : it_M := (⟨"IcedTooSoonModel", "between", "(I)Z"⟩, prog_8_method_20_code, 2, (some .boolean), 0, 0)
abbrev it_m_X6_signOf : it_M := (⟨"IcedTooSoonModel", "signOf", "()I"⟩, prog_8_method_21_code, 1, (some .int), 0, 0)
abbrev it_m_X6_eRead : it_M := (⟨"IcedTooSoonModel", "eRead", "()Z"⟩, prog_8_method_22_code, 4, (some .boolean), 0, 0)
abbrev it_m_X6_text : it_M := (⟨"IcedTooSoonModel", "text", "()I"⟩, prog_8_method_23_code, 3, (some .int), 0, 0)
abbrev it_m_X6_two : it_M := (⟨"IcedTooSoonModel", "two", "(III)I"⟩, prog_8_method_24_code, 3, (some .int), 0, 0)
abbrev it_m_X6_says : it_M := (⟨"IcedTooSoonModel", "says", "(I)I"⟩, prog_8_method_25_code, 5, (some .int), 0, 0)
abbrev it_m_X6_force : it_M := (⟨"IcedTooSoonModel", "force", "(I)I"⟩, prog_8_method_26_code, 3, (some .int), 0, 0)
abbrev it_m_X6_asksOf : it_M := (⟨"IcedTooSoonModel", "asksOf", "(II)I"⟩, prog_8_method_27_code, 4, (some .int), 0, 0)
abbrev it_m_X6_asks : it_M := (⟨"IcedTooSoonModel", "asks", "(II)I"⟩, prog_8_method_28_code, 3, (some .int), 0, 0)
abbrev it_m_X6_guest : it_M := (⟨"IcedTooSoonModel", "guest", "(II)I"⟩, prog_8_method_29_code, 3, (some .int), 0, 0)
abbrev it_m_X6_meltsOf : it_M := (⟨"IcedTooSoonModel", "meltsOf", "(I)I"⟩, prog_8_method_30_code, 5, (some .int), 0, 0)
abbrev it_m_X6_feelsOf : it_M := (⟨"IcedTooSoonModel", "feelsOf", "(I)I"⟩, prog_8_method_31_code, 5, (some .int), 0, 0)
abbrev it_m_X6_chillsOf : it_M := (⟨"IcedTooSoonModel", "chillsOf", "(I)I"⟩, prog_8_method_32_code, 4, (some .int), 0, 0)
abbrev it_m_X6_ordered : it_M := (⟨"IcedTooSoonModel", "ordered", "(III)I"⟩, prog_8_method_33_code, 5, (some .int), 0, 0)
abbrev it_m_X6_order : it_M := (⟨"IcedTooSoonModel", "order", "(III)I"⟩, prog_8_method_34_code, 5, (some .int), 0, 0)
abbrev it_m_X6_put : it_M := (⟨"IcedTooSoonModel", "put", "(III)I"⟩, prog_8_method_35_code, 5, (some .int), 0, 0)
abbrev it_m_X6_glassesOf : it_M := (⟨"IcedTooSoonModel", "glassesOf", "(I)I"⟩, prog_8_method_36_code, 4, (some .int), 0, 0)
abbrev it_m_X6_told : it_M := (⟨"IcedTooSoonModel", "told", "(II)I"⟩, prog_8_method_37_code, 3, (some .int), 0, 0)
abbrev it_m_X6_glass : it_M := (⟨"IcedTooSoonModel", "glass", "(II)I"⟩, prog_8_method_38_code, 3, (some .int), 0, 0)
abbrev it_m_X6_dayOf : it_M := (⟨"IcedTooSoonModel", "dayOf", "()I"⟩, prog_8_method_39_code, 5, (some .int), 0, 0)
abbrev it_m_X6_day : it_M := (⟨"IcedTooSoonModel", "day", "()I"⟩, prog_8_method_40_code, 1, (some .int), 0, 0)
abbrev it_m_X6_iced : it_M := (⟨"IcedTooSoonModel", "iced", "(II)I"⟩, prog_8_method_41_code, 3, (some .int), 0, 0)
abbrev it_m_X6_spill : it_M := (⟨"IcedTooSoonModel", "spill", "(I)I"⟩, prog_8_method_42_code, 2, (some .int), 0, 0)
abbrev it_m_X6_keeps : it_M := (⟨"IcedTooSoonModel", "keeps", "()V"⟩, prog_8_method_43_code, 2, none, 0, 0)
abbrev it_m_X6_lays : it_M := (⟨"IcedTooSoonModel", "lays", "()V"⟩, prog_8_method_44_code, 2, none, 0, 0)
abbrev it_m_X6_goes : it_M := (⟨"IcedTooSoonModel", "goes", "(I)V"⟩, prog_8_method_45_code, 3, none, 0, 0)
abbrev it_m_X6_firstOff : it_M := (⟨"IcedTooSoonModel", "firstOff", "(I)I"⟩, prog_8_method_46_code, 6, (some .int), 0, 0)
abbrev it_m_X6_toldBehind : it_M := (⟨"IcedTooSoonModel", "toldBehind", "(I)I"⟩, prog_8_method_47_code, 2, (some .int), 0, 0)
abbrev it_m_X6_run : it_M := (⟨"IcedTooSoonModel", "run", "(II)I"⟩, prog_8_method_48_code, 5, (some .int), 0, 0)
abbrev it_m_X6_goesOff : it_M := (⟨"IcedTooSoonModel", "goesOff", "(I)I"⟩, prog_8_method_49_code, 4, (some .int), 0, 0)
abbrev it_m_X6_worst : it_M := (⟨"IcedTooSoonModel", "worst", "(III)I"⟩, prog_8_method_50_code, 9, (some .int), 0, 0)
abbrev it_m_X6_belowSet : it_M := (⟨"IcedTooSoonModel", "belowSet", "(I)I"⟩, prog_8_method_51_code, 4, (some .int), 0, 0)
abbrev it_m_X6_falls : it_M := (⟨"IcedTooSoonModel", "falls", "(II)I"⟩, prog_8_method_52_code, 5, (some .int), 0, 0)
abbrev it_m_X6_moodBehind : it_M := (⟨"IcedTooSoonModel", "moodBehind", "(I)I"⟩, prog_8_method_53_code, 3, (some .int), 0, 0)
abbrev it_m_X6_again : it_M := (⟨"IcedTooSoonModel", "again", "(III)I"⟩, prog_8_method_54_code, 9, (some .int), 0, 0)
abbrev it_m_X6_spilt : it_M := (⟨"IcedTooSoonModel", "spilt", "(II)I"⟩, prog_8_method_55_code, 8, (some .int), 0, 0)
abbrev it_m_X6_ices : it_M := (⟨"IcedTooSoonModel", "ices", "(II)I"⟩, prog_8_method_56_code, 5, (some .int), 0, 0)
abbrev it_m_X6_laysIce : it_M := (⟨"IcedTooSoonModel", "laysIce", "()V"⟩, prog_8_method_57_code, 2, none, 0, 0)
abbrev it_m_X6_round : it_M := (⟨"IcedTooSoonModel", "round", "(III)I"⟩, prog_8_method_58_code, 11, (some .int), 0, 0)
abbrev it_m_X6_lowest : it_M := (⟨"IcedTooSoonModel", "lowest", "(JJI)J"⟩, prog_8_method_59_code, 11, (some .long), 0, 0)
abbrev it_m_X6_mean : it_M := (⟨"IcedTooSoonModel", "mean", "(I)J"⟩, prog_8_method_60_code, 5, (some .long), 0, 0)
abbrev it_m_X6_sheetWrong : it_M := (⟨"IcedTooSoonModel", "sheetWrong", "(I)I"⟩, prog_8_method_61_code, 2, (some .int), 0, 0)
abbrev it_m_X6_toldWrong : it_M := (⟨"IcedTooSoonModel", "toldWrong", "(II)I"⟩, prog_8_method_62_code, 4, (some .int), 0, 0)
abbrev it_m_X6_unlike : it_M := (⟨"IcedTooSoonModel", "unlike", "(II)I"⟩, prog_8_method_63_code, 5, (some .int), 0, 0)
abbrev it_m_X6_judge : it_M := (⟨"IcedTooSoonModel", "judge", "(II)I"⟩, prog_8_method_64_code, 4, (some .int), 0, 0)
abbrev it_m_X6_kinds : it_M := (⟨"IcedTooSoonModel", "kinds", "(III)I"⟩, prog_8_method_65_code, 9, (some .int), 0, 0)
abbrev it_m_X6_states : it_M := (⟨"IcedTooSoonModel", "states", "(IIII)I"⟩, prog_8_method_66_code, 11, (some .int), 0, 0)
abbrev it_m_X6_owners : it_M := (⟨"IcedTooSoonModel", "owners", "(II)I"⟩, prog_8_method_67_code, 7, (some .int), 0, 0)
abbrev it_m_X6_who : it_M := (⟨"IcedTooSoonModel", "who", "(I)I"⟩, prog_8_method_68_code, 5, (some .int), 0, 0)
abbrev it_m_X6_laws : it_M := (⟨"IcedTooSoonModel", "laws", "(II)I"⟩, prog_8_method_69_code, 7, (some .int), 0, 0)
abbrev it_m_X6_film : it_M := (⟨"IcedTooSoonModel", "film", "(III)I"⟩, prog_8_method_70_code, 5, (some .int), 0, 0)
abbrev it_m_X6_lotOrders : it_M := (⟨"IcedTooSoonModel", "lotOrders", "(I)I"⟩, prog_8_method_71_code, 7, (some .int), 0, 0)
abbrev it_m_X6_drawn : it_M := (⟨"IcedTooSoonModel", "drawn", "(II)I"⟩, prog_8_method_72_code, 4, (some .int), 0, 0)
abbrev it_m_X6_odds : it_M := (⟨"IcedTooSoonModel", "odds", "(IIII)J"⟩, prog_8_method_73_code, 8, (some .long), 0, 0)
abbrev it_m_X6_image : it_M := (⟨"IcedTooSoonModel", "image", "()I"⟩, prog_8_method_74_code, 2, (some .int), 0, 0)
abbrev it_m_X6_back : it_M := (⟨"IcedTooSoonModel", "back", "()I"⟩, prog_8_method_75_code, 2, (some .int), 0, 0)
abbrev it_m_X6_sheet : it_M := (⟨"IcedTooSoonModel", "sheet", "(III)I"⟩, prog_8_method_76_code, 5, (some .int), 0, 0)
abbrev it_m_X6_cell : it_M := (⟨"IcedTooSoonModel", "cell", "(III)I"⟩, prog_8_method_77_code, 4, (some .int), 0, 0)
abbrev it_m_X6_copy : it_M := (⟨"IcedTooSoonModel", "copy", "(IIIII)I"⟩, prog_8_method_78_code, 10, (some .int), 0, 0)
abbrev it_m_X6_guestsBy : it_M := (⟨"IcedTooSoonModel", "guestsBy", "(IIII)I"⟩, prog_8_method_79_code, 9, (some .int), 0, 0)
abbrev it_m_X6_isUnder : it_M := (⟨"IcedTooSoonModel", "isUnder", "(II)Z"⟩, prog_8_method_80_code, 2, (some .boolean), 0, 0)
abbrev it_m_X6_taken : it_M := (⟨"IcedTooSoonModel", "taken", "(II)I"⟩, prog_8_method_81_code, 4, (some .int), 0, 0)
abbrev it_m_J6_numberOfTrailingZeros_0f7a4 : it_M := (⟨"java/lang/Integer", "numberOfTrailingZeros", "(I)I"⟩, prog_11_method_48_code, 2, (some .int), 0, 0)
abbrev it_m_J6_bitCount_0f7a4 : it_M := (⟨"java/lang/Integer", "bitCount", "(I)I"⟩, prog_11_method_49_code, 1, (some .int), 0, 0)
abbrev it_m_J9_abs_0f7a4 : it_M := (⟨"java/lang/Math", "abs", "(I)I"⟩, prog_12_method_59_code, 1, (some .int), 0, 0)
abbrev it_m_J9_max_7cf53 : it_M := (⟨"java/lang/Math", "max", "(II)I"⟩, prog_12_method_65_code, 2, (some .int), 0, 0)
abbrev it_m_J9_min_7cf53 : it_M := (⟨"java/lang/Math", "min", "(II)I"⟩, prog_12_method_69_code, 2, (some .int), 0, 0)
abbrev it_m_J0_length_8abf5 : it_M := (⟨"java/lang/String", "length", "()I"⟩, prog_13_method_54_code, 1, (some .int), 0, 0)
abbrev it_m_J0_charAt_5068e : it_M := (⟨"java/lang/String", "charAt", "(I)C"⟩, prog_13_method_56_code, 2, (some .char), 0, 0)
abbrev it_m_J0_indexOf_0f7a4 : it_M := (⟨"java/lang/String", "indexOf", "(I)I"⟩, prog_13_method_79_code, 2, (some .int), 0, 0)
abbrev it_m_J0_indexOf_7cf53 : it_M := (⟨"java/lang/String", "indexOf", "(II)I"⟩, prog_13_method_80_code, 3, (some .int), 0, 0)
abbrev it_m_J0_coder_7d493 : it_M := (⟨"java/lang/String", "coder", "()B"⟩, prog_13_method_152_code, 1, (some .byte), 0, 0)
abbrev it_m_J0_isLatin1_aae02 : it_M := (⟨"java/lang/String", "isLatin1", "()Z"⟩, prog_13_method_154_code, 1, (some .boolean), 0, 0)
abbrev it_m_J0_checkIndex_df160 : it_M := (⟨"java/lang/String", "checkIndex", "(II)V"⟩, prog_13_method_155_code, 2, none, 0, 0)
abbrev it_m_J1_charAt_3b067 : it_M := (⟨"java/lang/StringLatin1", "charAt", "([BI)C"⟩, prog_14_method_2_code, 2, (some .char), 0, 0)
abbrev it_m_J1_canEncode_9a6ad : it_M := (⟨"java/lang/StringLatin1", "canEncode", "(I)Z"⟩, prog_14_method_4_code, 1, (some .boolean), 0, 0)
abbrev it_m_J1_indexOf_4cfef : it_M := (⟨"java/lang/StringLatin1", "indexOf", "([BIII)I"⟩, prog_14_method_22_code, 4, (some .int), 0, 0)
abbrev it_m_J1_indexOfChar_4cfef : it_M := (⟨"java/lang/StringLatin1", "indexOfChar", "([BIII)I"⟩, prog_14_method_23_code, 6, (some .int), 0, 0)
abbrev it_m_J7_fill_53178 : it_M := (⟨"java/util/Arrays", "fill", "([II)V"⟩, prog_17_method_103_code, 4, none, 0, 0)
abbrev it_m_J7_copyOf_59c91 : it_M := (⟨"java/util/Arrays", "copyOf", "([II)[I"⟩, prog_17_method_123_code, 3, (some (.array .int)), 1, 160)
abbrev it_m_J3_checkIndex_8e157 : it_M := (⟨"jdk/internal/util/Preconditions", "checkIndex", "(IILjava/util/function/BiFunction;)I"⟩, prog_18_method_11_code, 3, (some .int), 0, 0)
theorem in_IcedTooSoon : Cond.initialized "IcedTooSoon" ∈ it_tb := it_in_tb (List.mem_of_getElem? (i := 55) (by decide +kernel)) rfl
theorem in_IcedTooSoon_House : Cond.initialized "IcedTooSoon$House" ∈ it_tb := it_in_tb (List.mem_of_getElem? (i := 58) (by decide +kernel)) rfl
theorem in_IcedTooSoon_Lawbook : Cond.initialized "IcedTooSoon$Lawbook" ∈ it_tb := it_in_tb (List.mem_of_getElem? (i := 56) (by decide +kernel)) rfl
theorem in_IcedTooSoon_Sheet : Cond.initialized "IcedTooSoon$Sheet" ∈ it_tb := it_in_tb (List.mem_of_getElem? (i := 60) (by decide +kernel)) rfl
theorem in_IcedTooSoon_Tape : Cond.initialized "IcedTooSoon$Tape" ∈ it_tb := it_in_tb (List.mem_of_getElem? (i := 57) (by decide +kernel)) rfl
theorem in_IcedTooSoon_Text : Cond.initialized "IcedTooSoon$Text" ∈ it_tb := it_in_tb (List.mem_of_getElem? (i := 67) (by decide +kernel)) rfl
theorem in_IcedTooSoonModel : Cond.initialized "IcedTooSoonModel" ∈ it_tb := it_in_tb (List.mem_of_getElem? (i := 69) (by decide +kernel)) rfl
theorem in_java_lang_Integer : Cond.initialized "java/lang/Integer" ∈ it_tb := it_in_tb (List.mem_of_getElem? (i := 70) (by decide +kernel)) rfl
theorem in_java_lang_Math : Cond.initialized "java/lang/Math" ∈ it_tb := it_in_tb (List.mem_of_getElem? (i := 65) (by decide +kernel)) rfl
theorem in_java_lang_String : Cond.initialized "java/lang/String" ∈ it_tb := it_in_tb (List.mem_of_getElem? (i := 61) (by decide +kernel)) rfl
theorem in_java_lang_StringLatin1 : Cond.initialized "java/lang/StringLatin1" ∈ it_tb := it_in_tb (List.mem_of_getElem? (i := 62) (by decide +kernel)) rfl
theorem in_java_util_Arrays : Cond.initialized "java/util/Arrays" ∈ it_tb := it_in_tb (List.mem_of_getElem? (i := 59) (by decide +kernel)) rfl
theorem in_jdk_internal_util_Preconditions : Cond.initialized "jdk/internal/util/Preconditions" ∈ it_tb := it_in_tb (List.mem_of_getElem? (i := 63) (by decide +kernel)) rfl
theorem ar_int : Cond.arrayClass .int ∈ it_tb := it_in_tb (List.mem_of_getElem? (i := 101) (by decide +kernel)) rfl
set_option maxRecDepth 50000 in
theorem mc_X0_init : it_mc it_m_X0_init 1 := ⟨it_in_tb (List.mem_of_getElem? (i := 142) (by decide +kernel)) rfl, in_IcedTooSoon_House, ⟨by decide +kernel, by decide +kernel, by decide +kernel⟩, by decide⟩
set_option maxRecDepth 50000 in
theorem mc_X0_become : it_mc it_m_X0_become 1 := ⟨it_in_tb (List.mem_of_getElem? (i := 567) (by decide +kernel)) rfl, in_IcedTooSoon_House, ⟨by decide +kernel, by decide +kernel, by decide +kernel⟩, by decide⟩
set_option maxRecDepth 50000 in
theorem mc_X0_hasGuest : it_mc it_m_X0_hasGuest 1 := ⟨it_in_tb (List.mem_of_getElem? (i := 460) (by decide +kernel)) rfl, in_IcedTooSoon_House, ⟨by decide +kernel, by decide +kernel, by decide +kernel⟩, by decide⟩
set_option maxRecDepth 50000 in
theorem mc_X0_hasGlass : it_mc it_m_X0_hasGlass 1 := ⟨it_in_tb (List.mem_of_getElem? (i := 456) (by decide +kernel)) rfl, in_IcedTooSoon_House, ⟨by decide +kernel, by decide +kernel, by decide +kernel⟩, by decide⟩
set_option maxRecDepth 50000 in
theorem mc_X0_glassesThere : it_mc it_m_X0_glassesThere 0 := ⟨it_in_tb (List.mem_of_getElem? (i := 452) (by decide +kernel)) rfl, in_IcedTooSoon_House, ⟨by decide +kernel, by decide +kernel, by decide +kernel⟩, by decide⟩
set_option maxRecDepth 50000 in
theorem mc_X0_glassesOf : it_mc it_m_X0_glassesOf 1 := ⟨it_in_tb (List.mem_of_getElem? (i := 555) (by decide +kernel)) rfl, in_IcedTooSoon_House, ⟨by decide +kernel, by decide +kernel, by decide +kernel⟩, by decide⟩
set_option maxRecDepth 50000 in
theorem mc_X0_guestsBelow : it_mc it_m_X0_guestsBelow 1 := ⟨it_in_tb (List.mem_of_getElem? (i := 645) (by decide +kernel)) rfl, in_IcedTooSoon_House, ⟨by decide +kernel, by decide +kernel, by decide +kernel⟩, by decide⟩
set_option maxRecDepth 50000 in
theorem mc_X0_moodOfAll : it_mc it_m_X0_moodOfAll 0 := ⟨it_in_tb (List.mem_of_getElem? (i := 629) (by decide +kernel)) rfl, in_IcedTooSoon_House, ⟨by decide +kernel, by decide +kernel, by decide +kernel⟩, by decide⟩
set_option maxRecDepth 50000 in
theorem mc_X0_weightOfAll : it_mc it_m_X0_weightOfAll 0 := ⟨it_in_tb (List.mem_of_getElem? (i := 687) (by decide +kernel)) rfl, in_IcedTooSoon_House, ⟨by decide +kernel, by decide +kernel, by decide +kernel⟩, by decide⟩
set_option maxRecDepth 50000 in
theorem mc_X0_admit : it_mc it_m_X0_admit 2 := ⟨it_in_tb (List.mem_of_getElem? (i := 523) (by decide +kernel)) rfl, in_IcedTooSoon_House, ⟨by decide +kernel, by decide +kernel, by decide +kernel⟩, by decide⟩
set_option maxRecDepth 50000 in
theorem mc_X0_set : it_mc it_m_X0_set 3 := ⟨it_in_tb (List.mem_of_getElem? (i := 547) (by decide +kernel)) rfl, in_IcedTooSoon_House, ⟨by decide +kernel, by decide +kernel, by decide +kernel⟩, by decide⟩
set_option maxRecDepth 50000 in
theorem mc_X0_setKind : it_mc it_m_X0_setKind 3 := ⟨it_in_tb (List.mem_of_getElem? (i := 720) (by decide +kernel)) rfl, in_IcedTooSoon_House, ⟨by decide +kernel, by decide +kernel, by decide +kernel⟩, by decide⟩
set_option maxRecDepth 50000 in
theorem mc_X0_serve : it_mc it_m_X0_serve 3 := ⟨it_in_tb (List.mem_of_getElem? (i := 533) (by decide +kernel)) rfl, in_IcedTooSoon_House, ⟨by decide +kernel, by decide +kernel, by decide +kernel⟩, by decide⟩
set_option maxRecDepth 50000 in
theorem mc_X0_take : it_mc it_m_X0_take 1 := ⟨it_in_tb (List.mem_of_getElem? (i := 585) (by decide +kernel)) rfl, in_IcedTooSoon_House, ⟨by decide +kernel, by decide +kernel, by decide +kernel⟩, by decide⟩
set_option maxRecDepth 50000 in
theorem mc_X0_addIce : it_mc it_m_X0_addIce 2 := ⟨it_in_tb (List.mem_of_getElem? (i := 608) (by decide +kernel)) rfl, in_IcedTooSoon_House, ⟨by decide +kernel, by decide +kernel, by decide +kernel⟩, by decide⟩
set_option maxRecDepth 50000 in
theorem mc_X0_passDay : it_mc it_m_X0_passDay 0 := ⟨it_in_tb (List.mem_of_getElem? (i := 572) (by decide +kernel)) rfl, in_IcedTooSoon_House, ⟨by decide +kernel, by decide +kernel, by decide +kernel⟩, by decide⟩
set_option maxRecDepth 50000 in
theorem mc_X0_saying : it_mc it_m_X0_saying 2 := ⟨it_in_tb (List.mem_of_getElem? (i := 491) (by decide +kernel)) rfl, in_IcedTooSoon_House, ⟨by decide +kernel, by decide +kernel, by decide +kernel⟩, by decide⟩
set_option maxRecDepth 50000 in
theorem mc_X0_melting : it_mc it_m_X0_melting 1 := ⟨it_in_tb (List.mem_of_getElem? (i := 576) (by decide +kernel)) rfl, in_IcedTooSoon_House, ⟨by decide +kernel, by decide +kernel, by decide +kernel⟩, by decide⟩
set_option maxRecDepth 50000 in
theorem mc_X0_feeling : it_mc it_m_X0_feeling 1 := ⟨it_in_tb (List.mem_of_getElem? (i := 581) (by decide +kernel)) rfl, in_IcedTooSoon_House, ⟨by decide +kernel, by decide +kernel, by decide +kernel⟩, by decide⟩
set_option maxRecDepth 50000 in
theorem mc_X0_chilling : it_mc it_m_X0_chilling 1 := ⟨it_in_tb (List.mem_of_getElem? (i := 537) (by decide +kernel)) rfl, in_IcedTooSoon_House, ⟨by decide +kernel, by decide +kernel, by decide +kernel⟩, by decide⟩
set_option maxRecDepth 50000 in
theorem mc_X1_init : it_mc it_m_X1_init 0 := ⟨it_in_tb (List.mem_of_getElem? (i := 83) (by decide +kernel)) rfl, in_IcedTooSoon_Lawbook, ⟨by decide +kernel, by decide +kernel, by decide +kernel⟩, by decide⟩
set_option maxRecDepth 50000 in
theorem mc_X1_add : it_mc it_m_X1_add 1 := ⟨it_in_tb (List.mem_of_getElem? (i := 418) (by decide +kernel)) rfl, in_IcedTooSoon_Lawbook, ⟨by decide +kernel, by decide +kernel, by decide +kernel⟩, by decide⟩
set_option maxRecDepth 50000 in
theorem mc_X1_name : it_mc it_m_X1_name 6 := ⟨it_in_tb (List.mem_of_getElem? (i := 495) (by decide +kernel)) rfl, in_IcedTooSoon_Lawbook, ⟨by decide +kernel, by decide +kernel, by decide +kernel⟩, by decide⟩
set_option maxRecDepth 50000 in
theorem mc_X1_reckon : it_mc it_m_X1_reckon 2 := ⟨it_in_tb (List.mem_of_getElem? (i := 499) (by decide +kernel)) rfl, in_IcedTooSoon_Lawbook, ⟨by decide +kernel, by decide +kernel, by decide +kernel⟩, by decide⟩
set_option maxRecDepth 50000 in
theorem mc_X1_turned : it_mc it_m_X1_turned 2 := ⟨it_in_tb (List.mem_of_getElem? (i := 507) (by decide +kernel)) rfl, in_IcedTooSoon_Lawbook, ⟨by decide +kernel, by decide +kernel, by decide +kernel⟩, by decide⟩
set_option maxRecDepth 50000 in
theorem mc_X1_joined : it_mc it_m_X1_joined 3 := ⟨it_in_tb (List.mem_of_getElem? (i := 510) (by decide +kernel)) rfl, in_IcedTooSoon_Lawbook, ⟨by decide +kernel, by decide +kernel, by decide +kernel⟩, by decide⟩
set_option maxRecDepth 50000 in
theorem mc_X2_init : it_mc it_m_X2_init 0 := ⟨it_in_tb (List.mem_of_getElem? (i := 196) (by decide +kernel)) rfl, in_IcedTooSoon_Sheet, ⟨by decide +kernel, by decide +kernel, by decide +kernel⟩, by decide⟩
set_option maxRecDepth 50000 in
theorem mc_X2_renew : it_mc it_m_X2_renew 2 := ⟨it_in_tb (List.mem_of_getElem? (i := 744) (by decide +kernel)) rfl, in_IcedTooSoon_Sheet, ⟨by decide +kernel, by decide +kernel, by decide +kernel⟩, by decide⟩
set_option maxRecDepth 50000 in
theorem mc_X2_has : it_mc it_m_X2_has 1 := ⟨it_in_tb (List.mem_of_getElem? (i := 790) (by decide +kernel)) rfl, in_IcedTooSoon_Sheet, ⟨by decide +kernel, by decide +kernel, by decide +kernel⟩, by decide⟩
set_option maxRecDepth 50000 in
theorem mc_X2_write : it_mc it_m_X2_write 2 := ⟨it_in_tb (List.mem_of_getElem? (i := 749) (by decide +kernel)) rfl, in_IcedTooSoon_Sheet, ⟨by decide +kernel, by decide +kernel, by decide +kernel⟩, by decide⟩
set_option maxRecDepth 50000 in
theorem mc_X3_init : it_mc it_m_X3_init 0 := ⟨it_in_tb (List.mem_of_getElem? (i := 106) (by decide +kernel)) rfl, in_IcedTooSoon_Tape, ⟨by decide +kernel, by decide +kernel, by decide +kernel⟩, by decide⟩
set_option maxRecDepth 50000 in
theorem mc_X3_add : it_mc it_m_X3_add 1 := ⟨it_in_tb (List.mem_of_getElem? (i := 263) (by decide +kernel)) rfl, in_IcedTooSoon_Tape, ⟨by decide +kernel, by decide +kernel, by decide +kernel⟩, by decide⟩
set_option maxRecDepth 50000 in
theorem mc_X3_empty : it_mc it_m_X3_empty 0 := ⟨it_in_tb (List.mem_of_getElem? (i := 422) (by decide +kernel)) rfl, in_IcedTooSoon_Tape, ⟨by decide +kernel, by decide +kernel, by decide +kernel⟩, by decide⟩
set_option maxRecDepth 50000 in
theorem mc_X3_isName : it_mc it_m_X3_isName 1 := ⟨it_in_tb (List.mem_of_getElem? (i := 376) (by decide +kernel)) rfl, in_IcedTooSoon_Tape, ⟨by decide +kernel, by decide +kernel, by decide +kernel⟩, by decide⟩
set_option maxRecDepth 50000 in
theorem mc_X3_isTurn : it_mc it_m_X3_isTurn 1 := ⟨it_in_tb (List.mem_of_getElem? (i := 504) (by decide +kernel)) rfl, in_IcedTooSoon_Tape, ⟨by decide +kernel, by decide +kernel, by decide +kernel⟩, by decide⟩
set_option maxRecDepth 50000 in
theorem mc_X3_written : it_mc it_m_X3_written 0 := ⟨it_in_tb (List.mem_of_getElem? (i := 384) (by decide +kernel)) rfl, in_IcedTooSoon_Tape, ⟨by decide +kernel, by decide +kernel, by decide +kernel⟩, by decide⟩
set_option maxRecDepth 50000 in
theorem mc_X3_isRead : it_mc it_m_X3_isRead 0 := ⟨it_in_tb (List.mem_of_getElem? (i := 267) (by decide +kernel)) rfl, in_IcedTooSoon_Tape, ⟨by decide +kernel, by decide +kernel, by decide +kernel⟩, by decide⟩
set_option maxRecDepth 50000 in
theorem mc_X3_readLevel : it_mc it_m_X3_readLevel 2 := ⟨it_in_tb (List.mem_of_getElem? (i := 357) (by decide +kernel)) rfl, in_IcedTooSoon_Tape, ⟨by decide +kernel, by decide +kernel, by decide +kernel⟩, by decide⟩
set_option maxRecDepth 50000 in
theorem mc_X3_joins : it_mc it_m_X3_joins 1 := ⟨it_in_tb (List.mem_of_getElem? (i := 380) (by decide +kernel)) rfl, in_IcedTooSoon_Tape, ⟨by decide +kernel, by decide +kernel, by decide +kernel⟩, by decide⟩
set_option maxRecDepth 50000 in
theorem mc_X3_readOne : it_mc it_m_X3_readOne 1 := ⟨it_in_tb (List.mem_of_getElem? (i := 361) (by decide +kernel)) rfl, in_IcedTooSoon_Tape, ⟨by decide +kernel, by decide +kernel, by decide +kernel⟩, by decide⟩
set_option maxRecDepth 50000 in
theorem mc_X3_readTurned : it_mc it_m_X3_readTurned 2 := ⟨it_in_tb (List.mem_of_getElem? (i := 365) (by decide +kernel)) rfl, in_IcedTooSoon_Tape, ⟨by decide +kernel, by decide +kernel, by decide +kernel⟩, by decide⟩
set_option maxRecDepth 50000 in
theorem mc_X3_readInner : it_mc it_m_X3_readInner 1 := ⟨it_in_tb (List.mem_of_getElem? (i := 373) (by decide +kernel)) rfl, in_IcedTooSoon_Tape, ⟨by decide +kernel, by decide +kernel, by decide +kernel⟩, by decide⟩
set_option maxRecDepth 50000 in
theorem mc_X3_write : it_mc it_m_X3_write 1 := ⟨it_in_tb (List.mem_of_getElem? (i := 369) (by decide +kernel)) rfl, in_IcedTooSoon_Tape, ⟨by decide +kernel, by decide +kernel, by decide +kernel⟩, by decide⟩
set_option maxRecDepth 50000 in
theorem mc_X3_next : it_mc it_m_X3_next 0 := ⟨it_in_tb (List.mem_of_getElem? (i := 271) (by decide +kernel)) rfl, in_IcedTooSoon_Tape, ⟨by decide +kernel, by decide +kernel, by decide +kernel⟩, by decide⟩
set_option maxRecDepth 50000 in
theorem mc_X3_nextWord : it_mc it_m_X3_nextWord 0 := ⟨it_in_tb (List.mem_of_getElem? (i := 278) (by decide +kernel)) rfl, in_IcedTooSoon_Tape, ⟨by decide +kernel, by decide +kernel, by decide +kernel⟩, by decide⟩
set_option maxRecDepth 50000 in
theorem mc_X3_isWord : it_mc it_m_X3_isWord 1 := ⟨it_in_tb (List.mem_of_getElem? (i := 282) (by decide +kernel)) rfl, in_IcedTooSoon_Tape, ⟨by decide +kernel, by decide +kernel, by decide +kernel⟩, by decide⟩
set_option maxRecDepth 50000 in
theorem mc_X3_nextNumber : it_mc it_m_X3_nextNumber 0 := ⟨it_in_tb (List.mem_of_getElem? (i := 293) (by decide +kernel)) rfl, in_IcedTooSoon_Tape, ⟨by decide +kernel, by decide +kernel, by decide +kernel⟩, by decide⟩
set_option maxRecDepth 50000 in
theorem mc_X3_isLetter : it_mc it_m_X3_isLetter 1 := ⟨it_in_tb (List.mem_of_getElem? (i := 274) (by decide +kernel)) rfl, in_IcedTooSoon_Tape, ⟨by decide +kernel, by decide +kernel, by decide +kernel⟩, by decide⟩
set_option maxRecDepth 50000 in
theorem mc_X3_isDigit : it_mc it_m_X3_isDigit 1 := ⟨it_in_tb (List.mem_of_getElem? (i := 289) (by decide +kernel)) rfl, in_IcedTooSoon_Tape, ⟨by decide +kernel, by decide +kernel, by decide +kernel⟩, by decide⟩
set_option maxRecDepth 50000 in
theorem mc_X4_init : it_mc it_m_X4_init 2 := ⟨it_in_tb (List.mem_of_getElem? (i := 403) (by decide +kernel)) rfl, in_IcedTooSoon_Text, ⟨by decide +kernel, by decide +kernel, by decide +kernel⟩, by decide⟩
set_option maxRecDepth 50000 in
theorem mc_X5_init : it_mc it_m_X5_init 0 := ⟨it_in_tb (List.mem_of_getElem? (i := 75) (by decide +kernel)) rfl, in_IcedTooSoon, ⟨by decide +kernel, by decide +kernel, by decide +kernel⟩, by decide⟩
set_option maxRecDepth 50000 in
theorem mc_X5_count : it_mc it_m_X5_count 1 := ⟨it_in_tb (List.mem_of_getElem? (i := 448) (by decide +kernel)) rfl, in_IcedTooSoon, ⟨by decide +kernel, by decide +kernel, by decide +kernel⟩, by decide⟩
set_option maxRecDepth 50000 in
theorem mc_X5_dawn : it_mc it_m_X5_dawn 1 := ⟨it_in_tb (List.mem_of_getElem? (i := 464) (by decide +kernel)) rfl, in_IcedTooSoon, ⟨by decide +kernel, by decide +kernel, by decide +kernel⟩, by decide⟩
set_option maxRecDepth 50000 in
theorem mc_X5_feed : it_mc it_m_X5_feed 6 := ⟨it_in_tb (List.mem_of_getElem? (i := 471) (by decide +kernel)) rfl, in_IcedTooSoon, ⟨by decide +kernel, by decide +kernel, by decide +kernel⟩, by decide⟩
set_option maxRecDepth 50000 in
theorem mc_X5_text : it_mc it_m_X5_text 0 := ⟨it_in_tb (List.mem_of_getElem? (i := 478) (by decide +kernel)) rfl, in_IcedTooSoon, ⟨by decide +kernel, by decide +kernel, by decide +kernel⟩, by decide⟩
set_option maxRecDepth 50000 in
theorem mc_X5_force : it_mc it_m_X5_force 1 := ⟨it_in_tb (List.mem_of_getElem? (i := 482) (by decide +kernel)) rfl, in_IcedTooSoon, ⟨by decide +kernel, by decide +kernel, by decide +kernel⟩, by decide⟩
set_option maxRecDepth 50000 in
theorem mc_X5_asks : it_mc it_m_X5_asks 2 := ⟨it_in_tb (List.mem_of_getElem? (i := 486) (by decide +kernel)) rfl, in_IcedTooSoon, ⟨by decide +kernel, by decide +kernel, by decide +kernel⟩, by decide⟩
set_option maxRecDepth 50000 in
theorem mc_X5_guest : it_mc it_m_X5_guest 2 := ⟨it_in_tb (List.mem_of_getElem? (i := 519) (by decide +kernel)) rfl, in_IcedTooSoon, ⟨by decide +kernel, by decide +kernel, by decide +kernel⟩, by decide⟩
set_option maxRecDepth 50000 in
theorem mc_X5_order : it_mc it_m_X5_order 3 := ⟨it_in_tb (List.mem_of_getElem? (i := 528) (by decide +kernel)) rfl, in_IcedTooSoon, ⟨by decide +kernel, by decide +kernel, by decide +kernel⟩, by decide⟩
set_option maxRecDepth 50000 in
theorem mc_X5_put : it_mc it_m_X5_put 3 := ⟨it_in_tb (List.mem_of_getElem? (i := 543) (by decide +kernel)) rfl, in_IcedTooSoon, ⟨by decide +kernel, by decide +kernel, by decide +kernel⟩, by decide⟩
set_option maxRecDepth 50000 in
theorem mc_X5_told : it_mc it_m_X5_told 2 := ⟨it_in_tb (List.mem_of_getElem? (i := 551) (by decide +kernel)) rfl, in_IcedTooSoon, ⟨by decide +kernel, by decide +kernel, by decide +kernel⟩, by decide⟩
set_option maxRecDepth 50000 in
theorem mc_X5_glass : it_mc it_m_X5_glass 2 := ⟨it_in_tb (List.mem_of_getElem? (i := 593) (by decide +kernel)) rfl, in_IcedTooSoon, ⟨by decide +kernel, by decide +kernel, by decide +kernel⟩, by decide⟩
set_option maxRecDepth 50000 in
theorem mc_X5_day : it_mc it_m_X5_day 0 := ⟨it_in_tb (List.mem_of_getElem? (i := 600) (by decide +kernel)) rfl, in_IcedTooSoon, ⟨by decide +kernel, by decide +kernel, by decide +kernel⟩, by decide⟩
set_option maxRecDepth 50000 in
theorem mc_X5_iced : it_mc it_m_X5_iced 2 := ⟨it_in_tb (List.mem_of_getElem? (i := 604) (by decide +kernel)) rfl, in_IcedTooSoon, ⟨by decide +kernel, by decide +kernel, by decide +kernel⟩, by decide⟩
set_option maxRecDepth 50000 in
theorem mc_X5_spill : it_mc it_m_X5_spill 1 := ⟨it_in_tb (List.mem_of_getElem? (i := 612) (by decide +kernel)) rfl, in_IcedTooSoon, ⟨by decide +kernel, by decide +kernel, by decide +kernel⟩, by decide⟩
set_option maxRecDepth 50000 in
theorem mc_X5_run : it_mc it_m_X5_run 2 := ⟨it_in_tb (List.mem_of_getElem? (i := 617) (by decide +kernel)) rfl, in_IcedTooSoon, ⟨by decide +kernel, by decide +kernel, by decide +kernel⟩, by decide⟩
set_option maxRecDepth 50000 in
theorem mc_X5_goesOff : it_mc it_m_X5_goesOff 1 := ⟨it_in_tb (List.mem_of_getElem? (i := 633) (by decide +kernel)) rfl, in_IcedTooSoon, ⟨by decide +kernel, by decide +kernel, by decide +kernel⟩, by decide⟩
set_option maxRecDepth 50000 in
theorem mc_X5_worst : it_mc it_m_X5_worst 3 := ⟨it_in_tb (List.mem_of_getElem? (i := 637) (by decide +kernel)) rfl, in_IcedTooSoon, ⟨by decide +kernel, by decide +kernel, by decide +kernel⟩, by decide⟩
set_option maxRecDepth 50000 in
theorem mc_X5_falls : it_mc it_m_X5_falls 2 := ⟨it_in_tb (List.mem_of_getElem? (i := 641) (by decide +kernel)) rfl, in_IcedTooSoon, ⟨by decide +kernel, by decide +kernel, by decide +kernel⟩, by decide⟩
set_option maxRecDepth 50000 in
theorem mc_X5_again : it_mc it_m_X5_again 3 := ⟨it_in_tb (List.mem_of_getElem? (i := 649) (by decide +kernel)) rfl, in_IcedTooSoon, ⟨by decide +kernel, by decide +kernel, by decide +kernel⟩, by decide⟩
set_option maxRecDepth 50000 in
theorem mc_X5_spilt : it_mc it_m_X5_spilt 2 := ⟨it_in_tb (List.mem_of_getElem? (i := 657) (by decide +kernel)) rfl, in_IcedTooSoon, ⟨by decide +kernel, by decide +kernel, by decide +kernel⟩, by decide⟩
set_option maxRecDepth 50000 in
theorem mc_X5_round : it_mc it_m_X5_round 3 := ⟨it_in_tb (List.mem_of_getElem? (i := 665) (by decide +kernel)) rfl, in_IcedTooSoon, ⟨by decide +kernel, by decide +kernel, by decide +kernel⟩, by decide⟩
set_option maxRecDepth 50000 in
theorem mc_X5_mean : it_mc it_m_X5_mean 1 := ⟨it_in_tb (List.mem_of_getElem? (i := 682) (by decide +kernel)) rfl, in_IcedTooSoon, ⟨by decide +kernel, by decide +kernel, by decide +kernel⟩, by decide⟩
set_option maxRecDepth 50000 in
theorem mc_X5_judge : it_mc it_m_X5_judge 2 := ⟨it_in_tb (List.mem_of_getElem? (i := 697) (by decide +kernel)) rfl, in_IcedTooSoon, ⟨by decide +kernel, by decide +kernel, by decide +kernel⟩, by decide⟩
set_option maxRecDepth 50000 in
theorem mc_X5_kinds : it_mc it_m_X5_kinds 3 := ⟨it_in_tb (List.mem_of_getElem? (i := 716) (by decide +kernel)) rfl, in_IcedTooSoon, ⟨by decide +kernel, by decide +kernel, by decide +kernel⟩, by decide⟩
set_option maxRecDepth 50000 in
theorem mc_X5_states : it_mc it_m_X5_states 4 := ⟨it_in_tb (List.mem_of_getElem? (i := 724) (by decide +kernel)) rfl, in_IcedTooSoon, ⟨by decide +kernel, by decide +kernel, by decide +kernel⟩, by decide⟩
set_option maxRecDepth 50000 in
theorem mc_X5_owners : it_mc it_m_X5_owners 2 := ⟨it_in_tb (List.mem_of_getElem? (i := 728) (by decide +kernel)) rfl, in_IcedTooSoon, ⟨by decide +kernel, by decide +kernel, by decide +kernel⟩, by decide⟩
set_option maxRecDepth 50000 in
theorem mc_X5_who : it_mc it_m_X5_who 1 := ⟨it_in_tb (List.mem_of_getElem? (i := 732) (by decide +kernel)) rfl, in_IcedTooSoon, ⟨by decide +kernel, by decide +kernel, by decide +kernel⟩, by decide⟩
set_option maxRecDepth 50000 in
theorem mc_X5_laws : it_mc it_m_X5_laws 2 := ⟨it_in_tb (List.mem_of_getElem? (i := 736) (by decide +kernel)) rfl, in_IcedTooSoon, ⟨by decide +kernel, by decide +kernel, by decide +kernel⟩, by decide⟩
set_option maxRecDepth 50000 in
theorem mc_X5_film : it_mc it_m_X5_film 3 := ⟨it_in_tb (List.mem_of_getElem? (i := 740) (by decide +kernel)) rfl, in_IcedTooSoon, ⟨by decide +kernel, by decide +kernel, by decide +kernel⟩, by decide⟩
set_option maxRecDepth 50000 in
theorem mc_X5_drawn : it_mc it_m_X5_drawn 2 := ⟨it_in_tb (List.mem_of_getElem? (i := 753) (by decide +kernel)) rfl, in_IcedTooSoon, ⟨by decide +kernel, by decide +kernel, by decide +kernel⟩, by decide⟩
set_option maxRecDepth 50000 in
theorem mc_X5_odds : it_mc it_m_X5_odds 4 := ⟨it_in_tb (List.mem_of_getElem? (i := 770) (by decide +kernel)) rfl, in_IcedTooSoon, ⟨by decide +kernel, by decide +kernel, by decide +kernel⟩, by decide⟩
set_option maxRecDepth 50000 in
theorem mc_X5_image : it_mc it_m_X5_image 0 := ⟨it_in_tb (List.mem_of_getElem? (i := 774) (by decide +kernel)) rfl, in_IcedTooSoon, ⟨by decide +kernel, by decide +kernel, by decide +kernel⟩, by decide⟩
set_option maxRecDepth 50000 in
theorem mc_X5_back : it_mc it_m_X5_back 0 := ⟨it_in_tb (List.mem_of_getElem? (i := 778) (by decide +kernel)) rfl, in_IcedTooSoon, ⟨by decide +kernel, by decide +kernel, by decide +kernel⟩, by decide⟩
set_option maxRecDepth 50000 in
theorem mc_X5_sheet : it_mc it_m_X5_sheet 3 := ⟨it_in_tb (List.mem_of_getElem? (i := 782) (by decide +kernel)) rfl, in_IcedTooSoon, ⟨by decide +kernel, by decide +kernel, by decide +kernel⟩, by decide⟩
set_option maxRecDepth 50000 in
theorem mc_X5_cell : it_mc it_m_X5_cell 3 := ⟨it_in_tb (List.mem_of_getElem? (i := 786) (by decide +kernel)) rfl, in_IcedTooSoon, ⟨by decide +kernel, by decide +kernel, by decide +kernel⟩, by decide⟩
set_option maxRecDepth 50000 in
theorem mc_X5_copy : it_mc it_m_X5_copy 5 := ⟨it_in_tb (List.mem_of_getElem? (i := 794) (by decide +kernel)) rfl, in_IcedTooSoon, ⟨by decide +kernel, by decide +kernel, by decide +kernel⟩, by decide⟩
set_option maxRecDepth 50000 in
theorem mc_X5_guestsBy : it_mc it_m_X5_guestsBy 4 := ⟨it_in_tb (List.mem_of_getElem? (i := 799) (by decide +kernel)) rfl, in_IcedTooSoon, ⟨by decide +kernel, by decide +kernel, by decide +kernel⟩, by decide⟩
set_option maxRecDepth 50000 in
theorem mc_X5_taken : it_mc it_m_X5_taken 2 := ⟨it_in_tb (List.mem_of_getElem? (i := 803) (by decide +kernel)) rfl, in_IcedTooSoon, ⟨by decide +kernel, by decide +kernel, by decide +kernel⟩, by decide⟩
set_option maxRecDepth 50000 in
theorem mc_X5_isOutside : it_mc it_m_X5_isOutside 3 := ⟨it_in_tb (List.mem_of_getElem? (i := 467) (by decide +kernel)) rfl, in_IcedTooSoon, ⟨by decide +kernel, by decide +kernel, by decide +kernel⟩, by decide⟩
set_option maxRecDepth 50000 in
theorem mc_X5_isNoByte : it_mc it_m_X5_isNoByte 1 := ⟨it_in_tb (List.mem_of_getElem? (i := 474) (by decide +kernel)) rfl, in_IcedTooSoon, ⟨by decide +kernel, by decide +kernel, by decide +kernel⟩, by decide⟩
set_option maxRecDepth 50000 in
theorem mc_X5_isNoSheet : it_mc it_m_X5_isNoSheet 1 := ⟨it_in_tb (List.mem_of_getElem? (i := 708) (by decide +kernel)) rfl, in_IcedTooSoon, ⟨by decide +kernel, by decide +kernel, by decide +kernel⟩, by decide⟩
set_option maxRecDepth 50000 in
theorem mc_X5_bounded : it_mc it_m_X5_bounded 3 := ⟨it_in_tb (List.mem_of_getElem? (i := 513) (by decide +kernel)) rfl, in_IcedTooSoon, ⟨by decide +kernel, by decide +kernel, by decide +kernel⟩, by decide⟩
set_option maxRecDepth 50000 in
theorem mc_X5_isOfKind : it_mc it_m_X5_isOfKind 2 := ⟨it_in_tb (List.mem_of_getElem? (i := 806) (by decide +kernel)) rfl, in_IcedTooSoon, ⟨by decide +kernel, by decide +kernel, by decide +kernel⟩, by decide⟩
set_option maxRecDepth 50000 in
theorem mc_X5_oneOf : it_mc it_m_X5_oneOf 1 := ⟨it_in_tb (List.mem_of_getElem? (i := 620) (by decide +kernel)) rfl, in_IcedTooSoon, ⟨by decide +kernel, by decide +kernel, by decide +kernel⟩, by decide⟩
set_option maxRecDepth 50000 in
theorem mc_X5_isAhead : it_mc it_m_X5_isAhead 2 := ⟨it_in_tb (List.mem_of_getElem? (i := 672) (by decide +kernel)) rfl, in_IcedTooSoon, ⟨by decide +kernel, by decide +kernel, by decide +kernel⟩, by decide⟩
set_option maxRecDepth 50000 in
theorem mc_X5_inLowestTerms : it_mc it_m_X5_inLowestTerms 3 := ⟨it_in_tb (List.mem_of_getElem? (i := 690) (by decide +kernel)) rfl, in_IcedTooSoon, ⟨by decide +kernel, by decide +kernel, by decide +kernel⟩, by decide⟩
set_option maxRecDepth 50000 in
theorem mc_X5_think : it_mc it_m_X5_think 0 := ⟨it_in_tb (List.mem_of_getElem? (i := 563) (by decide +kernel)) rfl, in_IcedTooSoon, ⟨by decide +kernel, by decide +kernel, by decide +kernel⟩, by decide⟩
set_option maxRecDepth 50000 in
theorem mc_X5_pass : it_mc it_m_X5_pass 1 := ⟨it_in_tb (List.mem_of_getElem? (i := 625) (by decide +kernel)) rfl, in_IcedTooSoon, ⟨by decide +kernel, by decide +kernel, by decide +kernel⟩, by decide⟩
set_option maxRecDepth 50000 in
theorem mc_X5_nextOff : it_mc it_m_X5_nextOff 1 := ⟨it_in_tb (List.mem_of_getElem? (i := 559) (by decide +kernel)) rfl, in_IcedTooSoon, ⟨by decide +kernel, by decide +kernel, by decide +kernel⟩, by decide⟩
set_option maxRecDepth 50000 in
theorem mc_X5_moodIfIced : it_mc it_m_X5_moodIfIced 3 := ⟨it_in_tb (List.mem_of_getElem? (i := 653) (by decide +kernel)) rfl, in_IcedTooSoon, ⟨by decide +kernel, by decide +kernel, by decide +kernel⟩, by decide⟩
set_option maxRecDepth 50000 in
theorem mc_X5_roundOf : it_mc it_m_X5_roundOf 3 := ⟨it_in_tb (List.mem_of_getElem? (i := 669) (by decide +kernel)) rfl, in_IcedTooSoon, ⟨by decide +kernel, by decide +kernel, by decide +kernel⟩, by decide⟩
set_option maxRecDepth 50000 in
theorem mc_X5_moodIfSpilt : it_mc it_m_X5_moodIfSpilt 2 := ⟨it_in_tb (List.mem_of_getElem? (i := 661) (by decide +kernel)) rfl, in_IcedTooSoon, ⟨by decide +kernel, by decide +kernel, by decide +kernel⟩, by decide⟩
set_option maxRecDepth 50000 in
theorem mc_X5_refusalOfSheet : it_mc it_m_X5_refusalOfSheet 1 := ⟨it_in_tb (List.mem_of_getElem? (i := 705) (by decide +kernel)) rfl, in_IcedTooSoon, ⟨by decide +kernel, by decide +kernel, by decide +kernel⟩, by decide⟩
set_option maxRecDepth 50000 in
theorem mc_X5_refusalOfDays : it_mc it_m_X5_refusalOfDays 2 := ⟨it_in_tb (List.mem_of_getElem? (i := 701) (by decide +kernel)) rfl, in_IcedTooSoon, ⟨by decide +kernel, by decide +kernel, by decide +kernel⟩, by decide⟩
set_option maxRecDepth 50000 in
theorem mc_X5_firstOtherwise : it_mc it_m_X5_firstOtherwise 2 := ⟨it_in_tb (List.mem_of_getElem? (i := 712) (by decide +kernel)) rfl, in_IcedTooSoon, ⟨by decide +kernel, by decide +kernel, by decide +kernel⟩, by decide⟩
set_option maxRecDepth 50000 in
theorem mc_X5_thinkOfLots : it_mc it_m_X5_thinkOfLots 1 := ⟨it_in_tb (List.mem_of_getElem? (i := 758) (by decide +kernel)) rfl, in_IcedTooSoon, ⟨by decide +kernel, by decide +kernel, by decide +kernel⟩, by decide⟩
set_option maxRecDepth 50000 in
theorem mc_X5_lotBehind : it_mc it_m_X5_lotBehind 1 := ⟨it_in_tb (List.mem_of_getElem? (i := 761) (by decide +kernel)) rfl, in_IcedTooSoon, ⟨by decide +kernel, by decide +kernel, by decide +kernel⟩, by decide⟩
set_option maxRecDepth 50000 in
theorem mc_X6_init : it_mc it_m_X6_init 0 := ⟨it_in_tb (List.mem_of_getElem? (i := 813) (by decide +kernel)) rfl, in_IcedTooSoonModel, ⟨by decide +kernel, by decide +kernel, by decide +kernel⟩, by decide⟩
set_option maxRecDepth 50000 in
theorem mc_X6_in : it_mc it_m_X6_in 3 := ⟨it_in_tb (List.mem_of_getElem? (i := 825) (by decide +kernel)) rfl, in_IcedTooSoonModel, ⟨by decide +kernel, by decide +kernel, by decide +kernel⟩, by decide⟩
set_option maxRecDepth 50000 in
theorem mc_X6_within : it_mc it_m_X6_within 3 := ⟨it_in_tb (List.mem_of_getElem? (i := 979) (by decide +kernel)) rfl, in_IcedTooSoonModel, ⟨by decide +kernel, by decide +kernel, by decide +kernel⟩, by decide⟩
set_option maxRecDepth 50000 in
theorem mc_X6_isOne : it_mc it_m_X6_isOne 1 := ⟨it_in_tb (List.mem_of_getElem? (i := 1022) (by decide +kernel)) rfl, in_IcedTooSoonModel, ⟨by decide +kernel, by decide +kernel, by decide +kernel⟩, by decide⟩
set_option maxRecDepth 50000 in
theorem mc_X6_isThere : it_mc it_m_X6_isThere 1 := ⟨it_in_tb (List.mem_of_getElem? (i := 976) (by decide +kernel)) rfl, in_IcedTooSoonModel, ⟨by decide +kernel, by decide +kernel, by decide +kernel⟩, by decide⟩
set_option maxRecDepth 50000 in
theorem mc_X6_many : it_mc it_m_X6_many 0 := ⟨it_in_tb (List.mem_of_getElem? (i := 972) (by decide +kernel)) rfl, in_IcedTooSoonModel, ⟨by decide +kernel, by decide +kernel, by decide +kernel⟩, by decide⟩
set_option maxRecDepth 50000 in
theorem mc_X6_moodAll : it_mc it_m_X6_moodAll 0 := ⟨it_in_tb (List.mem_of_getElem? (i := 1099) (by decide +kernel)) rfl, in_IcedTooSoonModel, ⟨by decide +kernel, by decide +kernel, by decide +kernel⟩, by decide⟩
set_option maxRecDepth 50000 in
theorem mc_X6_count : it_mc it_m_X6_count 1 := ⟨it_in_tb (List.mem_of_getElem? (i := 968) (by decide +kernel)) rfl, in_IcedTooSoonModel, ⟨by decide +kernel, by decide +kernel, by decide +kernel⟩, by decide⟩
set_option maxRecDepth 50000 in
theorem mc_X6_dawn : it_mc it_m_X6_dawn 1 := ⟨it_in_tb (List.mem_of_getElem? (i := 983) (by decide +kernel)) rfl, in_IcedTooSoonModel, ⟨by decide +kernel, by decide +kernel, by decide +kernel⟩, by decide⟩
set_option maxRecDepth 50000 in
theorem mc_X6_isByte : it_mc it_m_X6_isByte 1 := ⟨it_in_tb (List.mem_of_getElem? (i := 990) (by decide +kernel)) rfl, in_IcedTooSoonModel, ⟨by decide +kernel, by decide +kernel, by decide +kernel⟩, by decide⟩
set_option maxRecDepth 50000 in
theorem mc_X6_feed : it_mc it_m_X6_feed 6 := ⟨it_in_tb (List.mem_of_getElem? (i := 987) (by decide +kernel)) rfl, in_IcedTooSoonModel, ⟨by decide +kernel, by decide +kernel, by decide +kernel⟩, by decide⟩
set_option maxRecDepth 50000 in
theorem mc_X6_wordFrom : it_mc it_m_X6_wordFrom 2 := ⟨it_in_tb (List.mem_of_getElem? (i := 829) (by decide +kernel)) rfl, in_IcedTooSoonModel, ⟨by decide +kernel, by decide +kernel, by decide +kernel⟩, by decide⟩
set_option maxRecDepth 50000 in
theorem mc_X6_next : it_mc it_m_X6_next 0 := ⟨it_in_tb (List.mem_of_getElem? (i := 822) (by decide +kernel)) rfl, in_IcedTooSoonModel, ⟨by decide +kernel, by decide +kernel, by decide +kernel⟩, by decide⟩
set_option maxRecDepth 50000 in
theorem mc_X6_rank : it_mc it_m_X6_rank 1 := ⟨it_in_tb (List.mem_of_getElem? (i := 845) (by decide +kernel)) rfl, in_IcedTooSoonModel, ⟨by decide +kernel, by decide +kernel, by decide +kernel⟩, by decide⟩
set_option maxRecDepth 50000 in
theorem mc_X6_puts : it_mc it_m_X6_puts 1 := ⟨it_in_tb (List.mem_of_getElem? (i := 838) (by decide +kernel)) rfl, in_IcedTooSoonModel, ⟨by decide +kernel, by decide +kernel, by decide +kernel⟩, by decide⟩
set_option maxRecDepth 50000 in
theorem mc_X6_unwinds : it_mc it_m_X6_unwinds 1 := ⟨it_in_tb (List.mem_of_getElem? (i := 842) (by decide +kernel)) rfl, in_IcedTooSoonModel, ⟨by decide +kernel, by decide +kernel, by decide +kernel⟩, by decide⟩
set_option maxRecDepth 50000 in
theorem mc_X6_holds : it_mc it_m_X6_holds 1 := ⟨it_in_tb (List.mem_of_getElem? (i := 853) (by decide +kernel)) rfl, in_IcedTooSoonModel, ⟨by decide +kernel, by decide +kernel, by decide +kernel⟩, by decide⟩
set_option maxRecDepth 50000 in
theorem mc_X6_opensOne : it_mc it_m_X6_opensOne 1 := ⟨it_in_tb (List.mem_of_getElem? (i := 849) (by decide +kernel)) rfl, in_IcedTooSoonModel, ⟨by decide +kernel, by decide +kernel, by decide +kernel⟩, by decide⟩
set_option maxRecDepth 50000 in
theorem mc_X6_between : it_mc it_m_X6_between 1 := ⟨it_in_tb (List.mem_of_getElem? (i := 861) (by decide +kernel)) rfl, in_IcedTooSoonModel, ⟨by decide +kernel, by decide +kernel, by decide +kernel⟩, by decide⟩
set_option maxRecDepth 50000 in
theorem mc_X6_signOf : it_mc it_m_X6_signOf 0 := ⟨it_in_tb (List.mem_of_getElem? (i := 857) (by decide +kernel)) rfl, in_IcedTooSoonModel, ⟨by decide +kernel, by decide +kernel, by decide +kernel⟩, by decide⟩
set_option maxRecDepth 50000 in
theorem mc_X6_eRead : it_mc it_m_X6_eRead 0 := ⟨it_in_tb (List.mem_of_getElem? (i := 833) (by decide +kernel)) rfl, in_IcedTooSoonModel, ⟨by decide +kernel, by decide +kernel, by decide +kernel⟩, by decide⟩
set_option maxRecDepth 50000 in
theorem mc_X6_text : it_mc it_m_X6_text 0 := ⟨it_in_tb (List.mem_of_getElem? (i := 818) (by decide +kernel)) rfl, in_IcedTooSoonModel, ⟨by decide +kernel, by decide +kernel, by decide +kernel⟩, by decide⟩
set_option maxRecDepth 50000 in
theorem mc_X6_two : it_mc it_m_X6_two 3 := ⟨it_in_tb (List.mem_of_getElem? (i := 1010) (by decide +kernel)) rfl, in_IcedTooSoonModel, ⟨by decide +kernel, by decide +kernel, by decide +kernel⟩, by decide⟩
set_option maxRecDepth 50000 in
theorem mc_X6_says : it_mc it_m_X6_says 1 := ⟨it_in_tb (List.mem_of_getElem? (i := 1007) (by decide +kernel)) rfl, in_IcedTooSoonModel, ⟨by decide +kernel, by decide +kernel, by decide +kernel⟩, by decide⟩
set_option maxRecDepth 50000 in
theorem mc_X6_force : it_mc it_m_X6_force 1 := ⟨it_in_tb (List.mem_of_getElem? (i := 995) (by decide +kernel)) rfl, in_IcedTooSoonModel, ⟨by decide +kernel, by decide +kernel, by decide +kernel⟩, by decide⟩
set_option maxRecDepth 50000 in
theorem mc_X6_asksOf : it_mc it_m_X6_asksOf 2 := ⟨it_in_tb (List.mem_of_getElem? (i := 1003) (by decide +kernel)) rfl, in_IcedTooSoonModel, ⟨by decide +kernel, by decide +kernel, by decide +kernel⟩, by decide⟩
set_option maxRecDepth 50000 in
theorem mc_X6_asks : it_mc it_m_X6_asks 2 := ⟨it_in_tb (List.mem_of_getElem? (i := 999) (by decide +kernel)) rfl, in_IcedTooSoonModel, ⟨by decide +kernel, by decide +kernel, by decide +kernel⟩, by decide⟩
set_option maxRecDepth 50000 in
theorem mc_X6_guest : it_mc it_m_X6_guest 2 := ⟨it_in_tb (List.mem_of_getElem? (i := 1014) (by decide +kernel)) rfl, in_IcedTooSoonModel, ⟨by decide +kernel, by decide +kernel, by decide +kernel⟩, by decide⟩
set_option maxRecDepth 50000 in
theorem mc_X6_meltsOf : it_mc it_m_X6_meltsOf 1 := ⟨it_in_tb (List.mem_of_getElem? (i := 1058) (by decide +kernel)) rfl, in_IcedTooSoonModel, ⟨by decide +kernel, by decide +kernel, by decide +kernel⟩, by decide⟩
set_option maxRecDepth 50000 in
theorem mc_X6_feelsOf : it_mc it_m_X6_feelsOf 1 := ⟨it_in_tb (List.mem_of_getElem? (i := 1062) (by decide +kernel)) rfl, in_IcedTooSoonModel, ⟨by decide +kernel, by decide +kernel, by decide +kernel⟩, by decide⟩
set_option maxRecDepth 50000 in
theorem mc_X6_chillsOf : it_mc it_m_X6_chillsOf 1 := ⟨it_in_tb (List.mem_of_getElem? (i := 1030) (by decide +kernel)) rfl, in_IcedTooSoonModel, ⟨by decide +kernel, by decide +kernel, by decide +kernel⟩, by decide⟩
set_option maxRecDepth 50000 in
theorem mc_X6_ordered : it_mc it_m_X6_ordered 3 := ⟨it_in_tb (List.mem_of_getElem? (i := 1026) (by decide +kernel)) rfl, in_IcedTooSoonModel, ⟨by decide +kernel, by decide +kernel, by decide +kernel⟩, by decide⟩
set_option maxRecDepth 50000 in
theorem mc_X6_order : it_mc it_m_X6_order 3 := ⟨it_in_tb (List.mem_of_getElem? (i := 1018) (by decide +kernel)) rfl, in_IcedTooSoonModel, ⟨by decide +kernel, by decide +kernel, by decide +kernel⟩, by decide⟩
set_option maxRecDepth 50000 in
theorem mc_X6_put : it_mc it_m_X6_put 3 := ⟨it_in_tb (List.mem_of_getElem? (i := 1034) (by decide +kernel)) rfl, in_IcedTooSoonModel, ⟨by decide +kernel, by decide +kernel, by decide +kernel⟩, by decide⟩
set_option maxRecDepth 50000 in
theorem mc_X6_glassesOf : it_mc it_m_X6_glassesOf 1 := ⟨it_in_tb (List.mem_of_getElem? (i := 1042) (by decide +kernel)) rfl, in_IcedTooSoonModel, ⟨by decide +kernel, by decide +kernel, by decide +kernel⟩, by decide⟩
set_option maxRecDepth 50000 in
theorem mc_X6_told : it_mc it_m_X6_told 2 := ⟨it_in_tb (List.mem_of_getElem? (i := 1038) (by decide +kernel)) rfl, in_IcedTooSoonModel, ⟨by decide +kernel, by decide +kernel, by decide +kernel⟩, by decide⟩
set_option maxRecDepth 50000 in
theorem mc_X6_glass : it_mc it_m_X6_glass 2 := ⟨it_in_tb (List.mem_of_getElem? (i := 1070) (by decide +kernel)) rfl, in_IcedTooSoonModel, ⟨by decide +kernel, by decide +kernel, by decide +kernel⟩, by decide⟩
set_option maxRecDepth 50000 in
theorem mc_X6_dayOf : it_mc it_m_X6_dayOf 0 := ⟨it_in_tb (List.mem_of_getElem? (i := 1054) (by decide +kernel)) rfl, in_IcedTooSoonModel, ⟨by decide +kernel, by decide +kernel, by decide +kernel⟩, by decide⟩
set_option maxRecDepth 50000 in
theorem mc_X6_day : it_mc it_m_X6_day 0 := ⟨it_in_tb (List.mem_of_getElem? (i := 1074) (by decide +kernel)) rfl, in_IcedTooSoonModel, ⟨by decide +kernel, by decide +kernel, by decide +kernel⟩, by decide⟩
set_option maxRecDepth 50000 in
theorem mc_X6_iced : it_mc it_m_X6_iced 2 := ⟨it_in_tb (List.mem_of_getElem? (i := 1078) (by decide +kernel)) rfl, in_IcedTooSoonModel, ⟨by decide +kernel, by decide +kernel, by decide +kernel⟩, by decide⟩
set_option maxRecDepth 50000 in
theorem mc_X6_spill : it_mc it_m_X6_spill 1 := ⟨it_in_tb (List.mem_of_getElem? (i := 1082) (by decide +kernel)) rfl, in_IcedTooSoonModel, ⟨by decide +kernel, by decide +kernel, by decide +kernel⟩, by decide⟩
set_option maxRecDepth 50000 in
theorem mc_X6_keeps : it_mc it_m_X6_keeps 0 := ⟨it_in_tb (List.mem_of_getElem? (i := 1050) (by decide +kernel)) rfl, in_IcedTooSoonModel, ⟨by decide +kernel, by decide +kernel, by decide +kernel⟩, by decide⟩
set_option maxRecDepth 50000 in
theorem mc_X6_lays : it_mc it_m_X6_lays 0 := ⟨it_in_tb (List.mem_of_getElem? (i := 1066) (by decide +kernel)) rfl, in_IcedTooSoonModel, ⟨by decide +kernel, by decide +kernel, by decide +kernel⟩, by decide⟩
set_option maxRecDepth 50000 in
theorem mc_X6_goes : it_mc it_m_X6_goes 1 := ⟨it_in_tb (List.mem_of_getElem? (i := 1091) (by decide +kernel)) rfl, in_IcedTooSoonModel, ⟨by decide +kernel, by decide +kernel, by decide +kernel⟩, by decide⟩
set_option maxRecDepth 50000 in
theorem mc_X6_firstOff : it_mc it_m_X6_firstOff 1 := ⟨it_in_tb (List.mem_of_getElem? (i := 1046) (by decide +kernel)) rfl, in_IcedTooSoonModel, ⟨by decide +kernel, by decide +kernel, by decide +kernel⟩, by decide⟩
set_option maxRecDepth 50000 in
theorem mc_X6_toldBehind : it_mc it_m_X6_toldBehind 1 := ⟨it_in_tb (List.mem_of_getElem? (i := 1095) (by decide +kernel)) rfl, in_IcedTooSoonModel, ⟨by decide +kernel, by decide +kernel, by decide +kernel⟩, by decide⟩
set_option maxRecDepth 50000 in
theorem mc_X6_run : it_mc it_m_X6_run 2 := ⟨it_in_tb (List.mem_of_getElem? (i := 1086) (by decide +kernel)) rfl, in_IcedTooSoonModel, ⟨by decide +kernel, by decide +kernel, by decide +kernel⟩, by decide⟩
set_option maxRecDepth 50000 in
theorem mc_X6_goesOff : it_mc it_m_X6_goesOff 1 := ⟨it_in_tb (List.mem_of_getElem? (i := 1103) (by decide +kernel)) rfl, in_IcedTooSoonModel, ⟨by decide +kernel, by decide +kernel, by decide +kernel⟩, by decide⟩
set_option maxRecDepth 50000 in
theorem mc_X6_worst : it_mc it_m_X6_worst 3 := ⟨it_in_tb (List.mem_of_getElem? (i := 1107) (by decide +kernel)) rfl, in_IcedTooSoonModel, ⟨by decide +kernel, by decide +kernel, by decide +kernel⟩, by decide⟩
set_option maxRecDepth 50000 in
theorem mc_X6_belowSet : it_mc it_m_X6_belowSet 1 := ⟨it_in_tb (List.mem_of_getElem? (i := 1115) (by decide +kernel)) rfl, in_IcedTooSoonModel, ⟨by decide +kernel, by decide +kernel, by decide +kernel⟩, by decide⟩
set_option maxRecDepth 50000 in
theorem mc_X6_falls : it_mc it_m_X6_falls 2 := ⟨it_in_tb (List.mem_of_getElem? (i := 1111) (by decide +kernel)) rfl, in_IcedTooSoonModel, ⟨by decide +kernel, by decide +kernel, by decide +kernel⟩, by decide⟩
set_option maxRecDepth 50000 in
theorem mc_X6_moodBehind : it_mc it_m_X6_moodBehind 1 := ⟨it_in_tb (List.mem_of_getElem? (i := 1123) (by decide +kernel)) rfl, in_IcedTooSoonModel, ⟨by decide +kernel, by decide +kernel, by decide +kernel⟩, by decide⟩
set_option maxRecDepth 50000 in
theorem mc_X6_again : it_mc it_m_X6_again 3 := ⟨it_in_tb (List.mem_of_getElem? (i := 1119) (by decide +kernel)) rfl, in_IcedTooSoonModel, ⟨by decide +kernel, by decide +kernel, by decide +kernel⟩, by decide⟩
set_option maxRecDepth 50000 in
theorem mc_X6_spilt : it_mc it_m_X6_spilt 2 := ⟨it_in_tb (List.mem_of_getElem? (i := 1127) (by decide +kernel)) rfl, in_IcedTooSoonModel, ⟨by decide +kernel, by decide +kernel, by decide +kernel⟩, by decide⟩
set_option maxRecDepth 50000 in
theorem mc_X6_ices : it_mc it_m_X6_ices 2 := ⟨it_in_tb (List.mem_of_getElem? (i := 1135) (by decide +kernel)) rfl, in_IcedTooSoonModel, ⟨by decide +kernel, by decide +kernel, by decide +kernel⟩, by decide⟩
set_option maxRecDepth 50000 in
theorem mc_X6_laysIce : it_mc it_m_X6_laysIce 0 := ⟨it_in_tb (List.mem_of_getElem? (i := 1139) (by decide +kernel)) rfl, in_IcedTooSoonModel, ⟨by decide +kernel, by decide +kernel, by decide +kernel⟩, by decide⟩
set_option maxRecDepth 50000 in
theorem mc_X6_round : it_mc it_m_X6_round 3 := ⟨it_in_tb (List.mem_of_getElem? (i := 1131) (by decide +kernel)) rfl, in_IcedTooSoonModel, ⟨by decide +kernel, by decide +kernel, by decide +kernel⟩, by decide⟩
set_option maxRecDepth 50000 in
theorem mc_X6_lowest : it_mc it_m_X6_lowest 3 := ⟨it_in_tb (List.mem_of_getElem? (i := 1147) (by decide +kernel)) rfl, in_IcedTooSoonModel, ⟨by decide +kernel, by decide +kernel, by decide +kernel⟩, by decide⟩
set_option maxRecDepth 50000 in
theorem mc_X6_mean : it_mc it_m_X6_mean 1 := ⟨it_in_tb (List.mem_of_getElem? (i := 1143) (by decide +kernel)) rfl, in_IcedTooSoonModel, ⟨by decide +kernel, by decide +kernel, by decide +kernel⟩, by decide⟩
set_option maxRecDepth 50000 in
theorem mc_X6_sheetWrong : it_mc it_m_X6_sheetWrong 1 := ⟨it_in_tb (List.mem_of_getElem? (i := 1159) (by decide +kernel)) rfl, in_IcedTooSoonModel, ⟨by decide +kernel, by decide +kernel, by decide +kernel⟩, by decide⟩
set_option maxRecDepth 50000 in
theorem mc_X6_toldWrong : it_mc it_m_X6_toldWrong 2 := ⟨it_in_tb (List.mem_of_getElem? (i := 1155) (by decide +kernel)) rfl, in_IcedTooSoonModel, ⟨by decide +kernel, by decide +kernel, by decide +kernel⟩, by decide⟩
set_option maxRecDepth 50000 in
theorem mc_X6_unlike : it_mc it_m_X6_unlike 2 := ⟨it_in_tb (List.mem_of_getElem? (i := 1163) (by decide +kernel)) rfl, in_IcedTooSoonModel, ⟨by decide +kernel, by decide +kernel, by decide +kernel⟩, by decide⟩
set_option maxRecDepth 50000 in
theorem mc_X6_judge : it_mc it_m_X6_judge 2 := ⟨it_in_tb (List.mem_of_getElem? (i := 1151) (by decide +kernel)) rfl, in_IcedTooSoonModel, ⟨by decide +kernel, by decide +kernel, by decide +kernel⟩, by decide⟩
set_option maxRecDepth 50000 in
theorem mc_X6_kinds : it_mc it_m_X6_kinds 3 := ⟨it_in_tb (List.mem_of_getElem? (i := 1167) (by decide +kernel)) rfl, in_IcedTooSoonModel, ⟨by decide +kernel, by decide +kernel, by decide +kernel⟩, by decide⟩
set_option maxRecDepth 50000 in
theorem mc_X6_states : it_mc it_m_X6_states 4 := ⟨it_in_tb (List.mem_of_getElem? (i := 1171) (by decide +kernel)) rfl, in_IcedTooSoonModel, ⟨by decide +kernel, by decide +kernel, by decide +kernel⟩, by decide⟩
set_option maxRecDepth 50000 in
theorem mc_X6_owners : it_mc it_m_X6_owners 2 := ⟨it_in_tb (List.mem_of_getElem? (i := 1175) (by decide +kernel)) rfl, in_IcedTooSoonModel, ⟨by decide +kernel, by decide +kernel, by decide +kernel⟩, by decide⟩
set_option maxRecDepth 50000 in
theorem mc_X6_who : it_mc it_m_X6_who 1 := ⟨it_in_tb (List.mem_of_getElem? (i := 1179) (by decide +kernel)) rfl, in_IcedTooSoonModel, ⟨by decide +kernel, by decide +kernel, by decide +kernel⟩, by decide⟩
set_option maxRecDepth 50000 in
theorem mc_X6_laws : it_mc it_m_X6_laws 2 := ⟨it_in_tb (List.mem_of_getElem? (i := 1183) (by decide +kernel)) rfl, in_IcedTooSoonModel, ⟨by decide +kernel, by decide +kernel, by decide +kernel⟩, by decide⟩
set_option maxRecDepth 50000 in
theorem mc_X6_film : it_mc it_m_X6_film 3 := ⟨it_in_tb (List.mem_of_getElem? (i := 1187) (by decide +kernel)) rfl, in_IcedTooSoonModel, ⟨by decide +kernel, by decide +kernel, by decide +kernel⟩, by decide⟩
set_option maxRecDepth 50000 in
theorem mc_X6_lotOrders : it_mc it_m_X6_lotOrders 1 := ⟨it_in_tb (List.mem_of_getElem? (i := 1196) (by decide +kernel)) rfl, in_IcedTooSoonModel, ⟨by decide +kernel, by decide +kernel, by decide +kernel⟩, by decide⟩
set_option maxRecDepth 50000 in
theorem mc_X6_drawn : it_mc it_m_X6_drawn 2 := ⟨it_in_tb (List.mem_of_getElem? (i := 1191) (by decide +kernel)) rfl, in_IcedTooSoonModel, ⟨by decide +kernel, by decide +kernel, by decide +kernel⟩, by decide⟩
set_option maxRecDepth 50000 in
theorem mc_X6_odds : it_mc it_m_X6_odds 4 := ⟨it_in_tb (List.mem_of_getElem? (i := 1205) (by decide +kernel)) rfl, in_IcedTooSoonModel, ⟨by decide +kernel, by decide +kernel, by decide +kernel⟩, by decide⟩
set_option maxRecDepth 50000 in
theorem mc_X6_image : it_mc it_m_X6_image 0 := ⟨it_in_tb (List.mem_of_getElem? (i := 1209) (by decide +kernel)) rfl, in_IcedTooSoonModel, ⟨by decide +kernel, by decide +kernel, by decide +kernel⟩, by decide⟩
set_option maxRecDepth 50000 in
theorem mc_X6_back : it_mc it_m_X6_back 0 := ⟨it_in_tb (List.mem_of_getElem? (i := 1213) (by decide +kernel)) rfl, in_IcedTooSoonModel, ⟨by decide +kernel, by decide +kernel, by decide +kernel⟩, by decide⟩
set_option maxRecDepth 50000 in
theorem mc_X6_sheet : it_mc it_m_X6_sheet 3 := ⟨it_in_tb (List.mem_of_getElem? (i := 1217) (by decide +kernel)) rfl, in_IcedTooSoonModel, ⟨by decide +kernel, by decide +kernel, by decide +kernel⟩, by decide⟩
set_option maxRecDepth 50000 in
theorem mc_X6_cell : it_mc it_m_X6_cell 3 := ⟨it_in_tb (List.mem_of_getElem? (i := 1221) (by decide +kernel)) rfl, in_IcedTooSoonModel, ⟨by decide +kernel, by decide +kernel, by decide +kernel⟩, by decide⟩
set_option maxRecDepth 50000 in
theorem mc_X6_copy : it_mc it_m_X6_copy 5 := ⟨it_in_tb (List.mem_of_getElem? (i := 1225) (by decide +kernel)) rfl, in_IcedTooSoonModel, ⟨by decide +kernel, by decide +kernel, by decide +kernel⟩, by decide⟩
set_option maxRecDepth 50000 in
theorem mc_X6_guestsBy : it_mc it_m_X6_guestsBy 4 := ⟨it_in_tb (List.mem_of_getElem? (i := 1229) (by decide +kernel)) rfl, in_IcedTooSoonModel, ⟨by decide +kernel, by decide +kernel, by decide +kernel⟩, by decide⟩
set_option maxRecDepth 50000 in
theorem mc_X6_isUnder : it_mc it_m_X6_isUnder 2 := ⟨it_in_tb (List.mem_of_getElem? (i := 1237) (by decide +kernel)) rfl, in_IcedTooSoonModel, ⟨by decide +kernel, by decide +kernel, by decide +kernel⟩, by decide⟩
set_option maxRecDepth 50000 in
theorem mc_X6_taken : it_mc it_m_X6_taken 2 := ⟨it_in_tb (List.mem_of_getElem? (i := 1234) (by decide +kernel)) rfl, in_IcedTooSoonModel, ⟨by decide +kernel, by decide +kernel, by decide +kernel⟩, by decide⟩
set_option maxRecDepth 50000 in
theorem mc_J6_numberOfTrailingZeros_0f7a4 : it_mc it_m_J6_numberOfTrailingZeros_0f7a4 1 := ⟨it_in_tb (List.mem_of_getElem? (i := 588) (by decide +kernel)) rfl, in_java_lang_Integer, ⟨by decide +kernel, by decide +kernel, by decide +kernel⟩, by decide⟩
set_option maxRecDepth 50000 in
theorem mc_J6_bitCount_0f7a4 : it_mc it_m_J6_bitCount_0f7a4 1 := ⟨it_in_tb (List.mem_of_getElem? (i := 675) (by decide +kernel)) rfl, in_java_lang_Integer, ⟨by decide +kernel, by decide +kernel, by decide +kernel⟩, by decide⟩
set_option maxRecDepth 50000 in
theorem mc_J9_abs_0f7a4 : it_mc it_m_J9_abs_0f7a4 1 := ⟨it_in_tb (List.mem_of_getElem? (i := 693) (by decide +kernel)) rfl, in_java_lang_Math, ⟨by decide +kernel, by decide +kernel, by decide +kernel⟩, by decide⟩
set_option maxRecDepth 50000 in
theorem mc_J9_max_7cf53 : it_mc it_m_J9_max_7cf53 2 := ⟨it_in_tb (List.mem_of_getElem? (i := 312) (by decide +kernel)) rfl, in_java_lang_Math, ⟨by decide +kernel, by decide +kernel, by decide +kernel⟩, by decide⟩
set_option maxRecDepth 50000 in
theorem mc_J9_min_7cf53 : it_mc it_m_J9_min_7cf53 2 := ⟨it_in_tb (List.mem_of_getElem? (i := 315) (by decide +kernel)) rfl, in_java_lang_Math, ⟨by decide +kernel, by decide +kernel, by decide +kernel⟩, by decide⟩
set_option maxRecDepth 50000 in
theorem mc_J0_length_8abf5 : it_mc it_m_J0_length_8abf5 0 := ⟨it_in_tb (List.mem_of_getElem? (i := 215) (by decide +kernel)) rfl, in_java_lang_String, ⟨by decide +kernel, by decide +kernel, by decide +kernel⟩, by decide⟩
set_option maxRecDepth 50000 in
theorem mc_J0_charAt_5068e : it_mc it_m_J0_charAt_5068e 1 := ⟨it_in_tb (List.mem_of_getElem? (i := 225) (by decide +kernel)) rfl, in_java_lang_String, ⟨by decide +kernel, by decide +kernel, by decide +kernel⟩, by decide⟩
set_option maxRecDepth 50000 in
theorem mc_J0_indexOf_0f7a4 : it_mc it_m_J0_indexOf_0f7a4 1 := ⟨it_in_tb (List.mem_of_getElem? (i := 298) (by decide +kernel)) rfl, in_java_lang_String, ⟨by decide +kernel, by decide +kernel, by decide +kernel⟩, by decide⟩
set_option maxRecDepth 50000 in
theorem mc_J0_indexOf_7cf53 : it_mc it_m_J0_indexOf_7cf53 2 := ⟨it_in_tb (List.mem_of_getElem? (i := 302) (by decide +kernel)) rfl, in_java_lang_String, ⟨by decide +kernel, by decide +kernel, by decide +kernel⟩, by decide⟩
set_option maxRecDepth 50000 in
theorem mc_J0_coder_7d493 : it_mc it_m_J0_coder_7d493 0 := ⟨it_in_tb (List.mem_of_getElem? (i := 219) (by decide +kernel)) rfl, in_java_lang_String, ⟨by decide +kernel, by decide +kernel, by decide +kernel⟩, by decide⟩
set_option maxRecDepth 50000 in
theorem mc_J0_isLatin1_aae02 : it_mc it_m_J0_isLatin1_aae02 0 := ⟨it_in_tb (List.mem_of_getElem? (i := 229) (by decide +kernel)) rfl, in_java_lang_String, ⟨by decide +kernel, by decide +kernel, by decide +kernel⟩, by decide⟩
set_option maxRecDepth 50000 in
theorem mc_J0_checkIndex_df160 : it_mc it_m_J0_checkIndex_df160 2 := ⟨it_in_tb (List.mem_of_getElem? (i := 235) (by decide +kernel)) rfl, in_java_lang_String, ⟨by decide +kernel, by decide +kernel, by decide +kernel⟩, by decide⟩
set_option maxRecDepth 50000 in
theorem mc_J1_charAt_3b067 : it_mc it_m_J1_charAt_3b067 2 := ⟨it_in_tb (List.mem_of_getElem? (i := 232) (by decide +kernel)) rfl, in_java_lang_StringLatin1, ⟨by decide +kernel, by decide +kernel, by decide +kernel⟩, by decide⟩
set_option maxRecDepth 50000 in
theorem mc_J1_canEncode_9a6ad : it_mc it_m_J1_canEncode_9a6ad 1 := ⟨it_in_tb (List.mem_of_getElem? (i := 309) (by decide +kernel)) rfl, in_java_lang_StringLatin1, ⟨by decide +kernel, by decide +kernel, by decide +kernel⟩, by decide⟩
set_option maxRecDepth 50000 in
theorem mc_J1_indexOf_4cfef : it_mc it_m_J1_indexOf_4cfef 4 := ⟨it_in_tb (List.mem_of_getElem? (i := 306) (by decide +kernel)) rfl, in_java_lang_StringLatin1, ⟨by decide +kernel, by decide +kernel, by decide +kernel⟩, by decide⟩
set_option maxRecDepth 50000 in
theorem mc_J1_indexOfChar_4cfef : it_mc it_m_J1_indexOfChar_4cfef 4 := ⟨it_in_tb (List.mem_of_getElem? (i := 318) (by decide +kernel)) rfl, in_java_lang_StringLatin1, ⟨by decide +kernel, by decide +kernel, by decide +kernel⟩, by decide⟩
set_option maxRecDepth 50000 in
theorem mc_J7_fill_53178 : it_mc it_m_J7_fill_53178 2 := ⟨it_in_tb (List.mem_of_getElem? (i := 146) (by decide +kernel)) rfl, in_java_util_Arrays, ⟨by decide +kernel, by decide +kernel, by decide +kernel⟩, by decide⟩
set_option maxRecDepth 50000 in
theorem mc_J7_copyOf_59c91 : it_mc it_m_J7_copyOf_59c91 2 := ⟨it_in_tb (List.mem_of_getElem? (i := 389) (by decide +kernel)) rfl, in_java_util_Arrays, ⟨by decide +kernel, by decide +kernel, by decide +kernel⟩, by decide⟩
set_option maxRecDepth 50000 in
theorem mc_J3_checkIndex_8e157 : it_mc it_m_J3_checkIndex_8e157 3 := ⟨it_in_tb (List.mem_of_getElem? (i := 240) (by decide +kernel)) rfl, in_jdk_internal_util_Preconditions, ⟨by decide +kernel, by decide +kernel, by decide +kernel⟩, by decide⟩
theorem fl_IcedTooSoon_10 : it_fl "IcedTooSoon" 10 5 0 := ⟨it_R5, it_F5, 7, rfl, by decide, it_j5, it_in_tb (List.mem_of_getElem? (i := 423) (by decide +kernel)) rfl, rfl⟩
theorem fl_IcedTooSoon_19 : it_fl "IcedTooSoon" 19 5 1 := ⟨it_R5, it_F5, 7, rfl, by decide, it_j5, it_in_tb (List.mem_of_getElem? (i := 424) (by decide +kernel)) rfl, rfl⟩
theorem fl_IcedTooSoon_28 : it_fl "IcedTooSoon" 28 5 2 := ⟨it_R5, it_F5, 7, rfl, by decide, it_j5, it_in_tb (List.mem_of_getElem? (i := 425) (by decide +kernel)) rfl, rfl⟩
theorem fl_IcedTooSoon_32 : it_fl "IcedTooSoon" 32 5 3 := ⟨it_R5, it_F5, 7, rfl, by decide, it_j5, it_in_tb (List.mem_of_getElem? (i := 426) (by decide +kernel)) rfl, rfl⟩
theorem fl_IcedTooSoon_35 : it_fl "IcedTooSoon" 35 5 4 := ⟨it_R5, it_F5, 7, rfl, by decide, it_j5, it_in_tb (List.mem_of_getElem? (i := 427) (by decide +kernel)) rfl, rfl⟩
theorem fl_IcedTooSoon_38 : it_fl "IcedTooSoon" 38 5 5 := ⟨it_R5, it_F5, 7, rfl, by decide, it_j5, it_in_tb (List.mem_of_getElem? (i := 428) (by decide +kernel)) rfl, rfl⟩
theorem fl_IcedTooSoon_44 : it_fl "IcedTooSoon" 44 5 6 := ⟨it_R5, it_F5, 7, rfl, by decide, it_j5, it_in_tb (List.mem_of_getElem? (i := 429) (by decide +kernel)) rfl, rfl⟩
theorem fl_IcedTooSoon_79 : it_fl "IcedTooSoon" 79 0 1 := ⟨it_R0, it_F0, 11, rfl, by decide, it_j0, it_in_tb (List.mem_of_getElem? (i := 149) (by decide +kernel)) rfl, rfl⟩
theorem fl_IcedTooSoon_86 : it_fl "IcedTooSoon" 86 0 9 := ⟨it_R0, it_F0, 11, rfl, by decide, it_j0, it_in_tb (List.mem_of_getElem? (i := 164) (by decide +kernel)) rfl, rfl⟩
theorem fl_IcedTooSoon_89 : it_fl "IcedTooSoon" 89 1 3 := ⟨it_R1, it_F1, 4, rfl, by decide, it_j1, it_in_tb (List.mem_of_getElem? (i := 91) (by decide +kernel)) rfl, rfl⟩
theorem fl_IcedTooSoon_92 : it_fl "IcedTooSoon" 92 0 10 := ⟨it_R0, it_F0, 11, rfl, by decide, it_j0, it_in_tb (List.mem_of_getElem? (i := 166) (by decide +kernel)) rfl, rfl⟩
theorem fl_IcedTooSoon_95 : it_fl "IcedTooSoon" 95 3 1 := ⟨it_R3, it_F3, 9, rfl, by decide, it_j3, it_in_tb (List.mem_of_getElem? (i := 110) (by decide +kernel)) rfl, rfl⟩
theorem fl_IcedTooSoon_104 : it_fl "IcedTooSoon" 104 3 5 := ⟨it_R3, it_F3, 9, rfl, by decide, it_j3, it_in_tb (List.mem_of_getElem? (i := 114) (by decide +kernel)) rfl, rfl⟩
theorem fl_IcedTooSoon_124 : it_fl "IcedTooSoon" 124 0 4 := ⟨it_R0, it_F0, 11, rfl, by decide, it_j0, it_in_tb (List.mem_of_getElem? (i := 155) (by decide +kernel)) rfl, rfl⟩
theorem fl_IcedTooSoon_128 : it_fl "IcedTooSoon" 128 0 5 := ⟨it_R0, it_F0, 11, rfl, by decide, it_j0, it_in_tb (List.mem_of_getElem? (i := 157) (by decide +kernel)) rfl, rfl⟩
theorem fl_IcedTooSoon_135 : it_fl "IcedTooSoon" 135 0 2 := ⟨it_R0, it_F0, 11, rfl, by decide, it_j0, it_in_tb (List.mem_of_getElem? (i := 151) (by decide +kernel)) rfl, rfl⟩
theorem fl_IcedTooSoon_138 : it_fl "IcedTooSoon" 138 0 3 := ⟨it_R0, it_F0, 11, rfl, by decide, it_j0, it_in_tb (List.mem_of_getElem? (i := 153) (by decide +kernel)) rfl, rfl⟩
theorem fl_IcedTooSoon_148 : it_fl "IcedTooSoon" 148 0 6 := ⟨it_R0, it_F0, 11, rfl, by decide, it_j0, it_in_tb (List.mem_of_getElem? (i := 159) (by decide +kernel)) rfl, rfl⟩
theorem fl_IcedTooSoon_151 : it_fl "IcedTooSoon" 151 0 7 := ⟨it_R0, it_F0, 11, rfl, by decide, it_j0, it_in_tb (List.mem_of_getElem? (i := 161) (by decide +kernel)) rfl, rfl⟩
theorem fl_IcedTooSoon_154 : it_fl "IcedTooSoon" 154 0 8 := ⟨it_R0, it_F0, 11, rfl, by decide, it_j0, it_in_tb (List.mem_of_getElem? (i := 163) (by decide +kernel)) rfl, rfl⟩
theorem fl_IcedTooSoon_239 : it_fl "IcedTooSoon" 239 2 0 := ⟨it_R2, it_F2, 3, rfl, by decide, it_j2, it_in_tb (List.mem_of_getElem? (i := 199) (by decide +kernel)) rfl, rfl⟩
theorem fl_IcedTooSoon_245 : it_fl "IcedTooSoon" 245 2 1 := ⟨it_R2, it_F2, 3, rfl, by decide, it_j2, it_in_tb (List.mem_of_getElem? (i := 201) (by decide +kernel)) rfl, rfl⟩
theorem fl_IcedTooSoon_246 : it_fl "IcedTooSoon" 246 2 2 := ⟨it_R2, it_F2, 3, rfl, by decide, it_j2, it_in_tb (List.mem_of_getElem? (i := 203) (by decide +kernel)) rfl, rfl⟩
theorem fl_IcedTooSoon_House_9 : it_fl "IcedTooSoon$House" 9 0 2 := ⟨it_R0, it_F0, 11, rfl, by decide, it_j0, it_in_tb (List.mem_of_getElem? (i := 150) (by decide +kernel)) rfl, rfl⟩
theorem fl_IcedTooSoon_House_15 : it_fl "IcedTooSoon$House" 15 0 3 := ⟨it_R0, it_F0, 11, rfl, by decide, it_j0, it_in_tb (List.mem_of_getElem? (i := 152) (by decide +kernel)) rfl, rfl⟩
theorem fl_IcedTooSoon_House_18 : it_fl "IcedTooSoon$House" 18 0 4 := ⟨it_R0, it_F0, 11, rfl, by decide, it_j0, it_in_tb (List.mem_of_getElem? (i := 154) (by decide +kernel)) rfl, rfl⟩
theorem fl_IcedTooSoon_House_21 : it_fl "IcedTooSoon$House" 21 0 5 := ⟨it_R0, it_F0, 11, rfl, by decide, it_j0, it_in_tb (List.mem_of_getElem? (i := 156) (by decide +kernel)) rfl, rfl⟩
theorem fl_IcedTooSoon_House_24 : it_fl "IcedTooSoon$House" 24 0 6 := ⟨it_R0, it_F0, 11, rfl, by decide, it_j0, it_in_tb (List.mem_of_getElem? (i := 158) (by decide +kernel)) rfl, rfl⟩
theorem fl_IcedTooSoon_House_27 : it_fl "IcedTooSoon$House" 27 0 7 := ⟨it_R0, it_F0, 11, rfl, by decide, it_j0, it_in_tb (List.mem_of_getElem? (i := 160) (by decide +kernel)) rfl, rfl⟩
theorem fl_IcedTooSoon_House_30 : it_fl "IcedTooSoon$House" 30 0 8 := ⟨it_R0, it_F0, 11, rfl, by decide, it_j0, it_in_tb (List.mem_of_getElem? (i := 162) (by decide +kernel)) rfl, rfl⟩
theorem fl_IcedTooSoon_House_33 : it_fl "IcedTooSoon$House" 33 0 0 := ⟨it_R0, it_F0, 11, rfl, by decide, it_j0, it_in_tb (List.mem_of_getElem? (i := 147) (by decide +kernel)) rfl, rfl⟩
theorem fl_IcedTooSoon_House_43 : it_fl "IcedTooSoon$House" 43 0 1 := ⟨it_R0, it_F0, 11, rfl, by decide, it_j0, it_in_tb (List.mem_of_getElem? (i := 148) (by decide +kernel)) rfl, rfl⟩
theorem fl_IcedTooSoon_House_53 : it_fl "IcedTooSoon$House" 53 0 9 := ⟨it_R0, it_F0, 11, rfl, by decide, it_j0, it_in_tb (List.mem_of_getElem? (i := 165) (by decide +kernel)) rfl, rfl⟩
theorem fl_IcedTooSoon_House_56 : it_fl "IcedTooSoon$House" 56 0 10 := ⟨it_R0, it_F0, 11, rfl, by decide, it_j0, it_in_tb (List.mem_of_getElem? (i := 167) (by decide +kernel)) rfl, rfl⟩
theorem fl_IcedTooSoon_Lawbook_11 : it_fl "IcedTooSoon$Lawbook" 11 1 0 := ⟨it_R1, it_F1, 4, rfl, by decide, it_j1, it_in_tb (List.mem_of_getElem? (i := 87) (by decide +kernel)) rfl, rfl⟩
theorem fl_IcedTooSoon_Lawbook_19 : it_fl "IcedTooSoon$Lawbook" 19 1 1 := ⟨it_R1, it_F1, 4, rfl, by decide, it_j1, it_in_tb (List.mem_of_getElem? (i := 88) (by decide +kernel)) rfl, rfl⟩
theorem fl_IcedTooSoon_Lawbook_23 : it_fl "IcedTooSoon$Lawbook" 23 1 2 := ⟨it_R1, it_F1, 4, rfl, by decide, it_j1, it_in_tb (List.mem_of_getElem? (i := 89) (by decide +kernel)) rfl, rfl⟩
theorem fl_IcedTooSoon_Lawbook_26 : it_fl "IcedTooSoon$Lawbook" 26 1 3 := ⟨it_R1, it_F1, 4, rfl, by decide, it_j1, it_in_tb (List.mem_of_getElem? (i := 90) (by decide +kernel)) rfl, rfl⟩
theorem fl_IcedTooSoon_Lawbook_34 : it_fl "IcedTooSoon$Lawbook" 34 4 0 := ⟨it_R4, it_F4, 2, rfl, by decide, it_j4, it_in_tb (List.mem_of_getElem? (i := 406) (by decide +kernel)) rfl, rfl⟩
theorem fl_IcedTooSoon_Lawbook_37 : it_fl "IcedTooSoon$Lawbook" 37 4 1 := ⟨it_R4, it_F4, 2, rfl, by decide, it_j4, it_in_tb (List.mem_of_getElem? (i := 408) (by decide +kernel)) rfl, rfl⟩
theorem fl_IcedTooSoon_Sheet_9 : it_fl "IcedTooSoon$Sheet" 9 2 0 := ⟨it_R2, it_F2, 3, rfl, by decide, it_j2, it_in_tb (List.mem_of_getElem? (i := 198) (by decide +kernel)) rfl, rfl⟩
theorem fl_IcedTooSoon_Sheet_15 : it_fl "IcedTooSoon$Sheet" 15 2 2 := ⟨it_R2, it_F2, 3, rfl, by decide, it_j2, it_in_tb (List.mem_of_getElem? (i := 202) (by decide +kernel)) rfl, rfl⟩
theorem fl_IcedTooSoon_Sheet_19 : it_fl "IcedTooSoon$Sheet" 19 2 1 := ⟨it_R2, it_F2, 3, rfl, by decide, it_j2, it_in_tb (List.mem_of_getElem? (i := 200) (by decide +kernel)) rfl, rfl⟩
theorem fl_IcedTooSoon_Tape_9 : it_fl "IcedTooSoon$Tape" 9 3 0 := ⟨it_R3, it_F3, 9, rfl, by decide, it_j3, it_in_tb (List.mem_of_getElem? (i := 108) (by decide +kernel)) rfl, rfl⟩
theorem fl_IcedTooSoon_Tape_15 : it_fl "IcedTooSoon$Tape" 15 3 6 := ⟨it_R3, it_F3, 9, rfl, by decide, it_j3, it_in_tb (List.mem_of_getElem? (i := 116) (by decide +kernel)) rfl, rfl⟩
theorem fl_IcedTooSoon_Tape_18 : it_fl "IcedTooSoon$Tape" 18 3 8 := ⟨it_R3, it_F3, 9, rfl, by decide, it_j3, it_in_tb (List.mem_of_getElem? (i := 118) (by decide +kernel)) rfl, rfl⟩
theorem fl_IcedTooSoon_Tape_21 : it_fl "IcedTooSoon$Tape" 21 3 1 := ⟨it_R3, it_F3, 9, rfl, by decide, it_j3, it_in_tb (List.mem_of_getElem? (i := 109) (by decide +kernel)) rfl, rfl⟩
theorem fl_IcedTooSoon_Tape_27 : it_fl "IcedTooSoon$Tape" 27 3 7 := ⟨it_R3, it_F3, 9, rfl, by decide, it_j3, it_in_tb (List.mem_of_getElem? (i := 117) (by decide +kernel)) rfl, rfl⟩
theorem fl_IcedTooSoon_Tape_39 : it_fl "IcedTooSoon$Tape" 39 3 2 := ⟨it_R3, it_F3, 9, rfl, by decide, it_j3, it_in_tb (List.mem_of_getElem? (i := 111) (by decide +kernel)) rfl, rfl⟩
theorem fl_IcedTooSoon_Tape_45 : it_fl "IcedTooSoon$Tape" 45 3 3 := ⟨it_R3, it_F3, 9, rfl, by decide, it_j3, it_in_tb (List.mem_of_getElem? (i := 112) (by decide +kernel)) rfl, rfl⟩
theorem fl_IcedTooSoon_Tape_72 : it_fl "IcedTooSoon$Tape" 72 3 4 := ⟨it_R3, it_F3, 9, rfl, by decide, it_j3, it_in_tb (List.mem_of_getElem? (i := 113) (by decide +kernel)) rfl, rfl⟩
theorem fl_IcedTooSoon_Tape_75 : it_fl "IcedTooSoon$Tape" 75 3 5 := ⟨it_R3, it_F3, 9, rfl, by decide, it_j3, it_in_tb (List.mem_of_getElem? (i := 115) (by decide +kernel)) rfl, rfl⟩
theorem fl_IcedTooSoon_Text_7 : it_fl "IcedTooSoon$Text" 7 4 0 := ⟨it_R4, it_F4, 2, rfl, by decide, it_j4, it_in_tb (List.mem_of_getElem? (i := 405) (by decide +kernel)) rfl, rfl⟩
theorem fl_IcedTooSoon_Text_13 : it_fl "IcedTooSoon$Text" 13 4 1 := ⟨it_R4, it_F4, 2, rfl, by decide, it_j4, it_in_tb (List.mem_of_getElem? (i := 407) (by decide +kernel)) rfl, rfl⟩
theorem fl_IcedTooSoonModel_7 : it_fl "IcedTooSoonModel" 7 6 1 := ⟨it_R6, it_F6, 34, rfl, by decide, it_j6, it_in_tb (List.mem_of_getElem? (i := 863) (by decide +kernel)) rfl, rfl⟩
theorem fl_IcedTooSoonModel_13 : it_fl "IcedTooSoonModel" 13 6 2 := ⟨it_R6, it_F6, 34, rfl, by decide, it_j6, it_in_tb (List.mem_of_getElem? (i := 864) (by decide +kernel)) rfl, rfl⟩
theorem fl_IcedTooSoonModel_16 : it_fl "IcedTooSoonModel" 16 6 3 := ⟨it_R6, it_F6, 34, rfl, by decide, it_j6, it_in_tb (List.mem_of_getElem? (i := 865) (by decide +kernel)) rfl, rfl⟩
theorem fl_IcedTooSoonModel_19 : it_fl "IcedTooSoonModel" 19 6 4 := ⟨it_R6, it_F6, 34, rfl, by decide, it_j6, it_in_tb (List.mem_of_getElem? (i := 866) (by decide +kernel)) rfl, rfl⟩
theorem fl_IcedTooSoonModel_22 : it_fl "IcedTooSoonModel" 22 6 6 := ⟨it_R6, it_F6, 34, rfl, by decide, it_j6, it_in_tb (List.mem_of_getElem? (i := 868) (by decide +kernel)) rfl, rfl⟩
theorem fl_IcedTooSoonModel_25 : it_fl "IcedTooSoonModel" 25 6 8 := ⟨it_R6, it_F6, 34, rfl, by decide, it_j6, it_in_tb (List.mem_of_getElem? (i := 870) (by decide +kernel)) rfl, rfl⟩
theorem fl_IcedTooSoonModel_28 : it_fl "IcedTooSoonModel" 28 6 9 := ⟨it_R6, it_F6, 34, rfl, by decide, it_j6, it_in_tb (List.mem_of_getElem? (i := 871) (by decide +kernel)) rfl, rfl⟩
theorem fl_IcedTooSoonModel_31 : it_fl "IcedTooSoonModel" 31 6 13 := ⟨it_R6, it_F6, 34, rfl, by decide, it_j6, it_in_tb (List.mem_of_getElem? (i := 875) (by decide +kernel)) rfl, rfl⟩
theorem fl_IcedTooSoonModel_34 : it_fl "IcedTooSoonModel" 34 6 14 := ⟨it_R6, it_F6, 34, rfl, by decide, it_j6, it_in_tb (List.mem_of_getElem? (i := 876) (by decide +kernel)) rfl, rfl⟩
theorem fl_IcedTooSoonModel_37 : it_fl "IcedTooSoonModel" 37 6 15 := ⟨it_R6, it_F6, 34, rfl, by decide, it_j6, it_in_tb (List.mem_of_getElem? (i := 877) (by decide +kernel)) rfl, rfl⟩
theorem fl_IcedTooSoonModel_40 : it_fl "IcedTooSoonModel" 40 6 16 := ⟨it_R6, it_F6, 34, rfl, by decide, it_j6, it_in_tb (List.mem_of_getElem? (i := 878) (by decide +kernel)) rfl, rfl⟩
theorem fl_IcedTooSoonModel_43 : it_fl "IcedTooSoonModel" 43 6 17 := ⟨it_R6, it_F6, 34, rfl, by decide, it_j6, it_in_tb (List.mem_of_getElem? (i := 879) (by decide +kernel)) rfl, rfl⟩
theorem fl_IcedTooSoonModel_46 : it_fl "IcedTooSoonModel" 46 6 18 := ⟨it_R6, it_F6, 34, rfl, by decide, it_j6, it_in_tb (List.mem_of_getElem? (i := 880) (by decide +kernel)) rfl, rfl⟩
theorem fl_IcedTooSoonModel_49 : it_fl "IcedTooSoonModel" 49 6 23 := ⟨it_R6, it_F6, 34, rfl, by decide, it_j6, it_in_tb (List.mem_of_getElem? (i := 885) (by decide +kernel)) rfl, rfl⟩
theorem fl_IcedTooSoonModel_52 : it_fl "IcedTooSoonModel" 52 6 24 := ⟨it_R6, it_F6, 34, rfl, by decide, it_j6, it_in_tb (List.mem_of_getElem? (i := 886) (by decide +kernel)) rfl, rfl⟩
theorem fl_IcedTooSoonModel_55 : it_fl "IcedTooSoonModel" 55 6 28 := ⟨it_R6, it_F6, 34, rfl, by decide, it_j6, it_in_tb (List.mem_of_getElem? (i := 890) (by decide +kernel)) rfl, rfl⟩
theorem fl_IcedTooSoonModel_58 : it_fl "IcedTooSoonModel" 58 6 29 := ⟨it_R6, it_F6, 34, rfl, by decide, it_j6, it_in_tb (List.mem_of_getElem? (i := 891) (by decide +kernel)) rfl, rfl⟩
theorem fl_IcedTooSoonModel_61 : it_fl "IcedTooSoonModel" 61 6 30 := ⟨it_R6, it_F6, 34, rfl, by decide, it_j6, it_in_tb (List.mem_of_getElem? (i := 892) (by decide +kernel)) rfl, rfl⟩
theorem fl_IcedTooSoonModel_64 : it_fl "IcedTooSoonModel" 64 6 32 := ⟨it_R6, it_F6, 34, rfl, by decide, it_j6, it_in_tb (List.mem_of_getElem? (i := 894) (by decide +kernel)) rfl, rfl⟩
theorem fl_IcedTooSoonModel_67 : it_fl "IcedTooSoonModel" 67 6 7 := ⟨it_R6, it_F6, 34, rfl, by decide, it_j6, it_in_tb (List.mem_of_getElem? (i := 869) (by decide +kernel)) rfl, rfl⟩
theorem fl_IcedTooSoonModel_75 : it_fl "IcedTooSoonModel" 75 6 0 := ⟨it_R6, it_F6, 34, rfl, by decide, it_j6, it_in_tb (List.mem_of_getElem? (i := 862) (by decide +kernel)) rfl, rfl⟩
theorem fl_IcedTooSoonModel_93 : it_fl "IcedTooSoonModel" 93 6 5 := ⟨it_R6, it_F6, 34, rfl, by decide, it_j6, it_in_tb (List.mem_of_getElem? (i := 867) (by decide +kernel)) rfl, rfl⟩
theorem fl_IcedTooSoonModel_96 : it_fl "IcedTooSoonModel" 96 6 10 := ⟨it_R6, it_F6, 34, rfl, by decide, it_j6, it_in_tb (List.mem_of_getElem? (i := 872) (by decide +kernel)) rfl, rfl⟩
theorem fl_IcedTooSoonModel_99 : it_fl "IcedTooSoonModel" 99 6 11 := ⟨it_R6, it_F6, 34, rfl, by decide, it_j6, it_in_tb (List.mem_of_getElem? (i := 873) (by decide +kernel)) rfl, rfl⟩
theorem fl_IcedTooSoonModel_105 : it_fl "IcedTooSoonModel" 105 6 19 := ⟨it_R6, it_F6, 34, rfl, by decide, it_j6, it_in_tb (List.mem_of_getElem? (i := 881) (by decide +kernel)) rfl, rfl⟩
theorem fl_IcedTooSoonModel_108 : it_fl "IcedTooSoonModel" 108 6 20 := ⟨it_R6, it_F6, 34, rfl, by decide, it_j6, it_in_tb (List.mem_of_getElem? (i := 882) (by decide +kernel)) rfl, rfl⟩
theorem fl_IcedTooSoonModel_111 : it_fl "IcedTooSoonModel" 111 6 21 := ⟨it_R6, it_F6, 34, rfl, by decide, it_j6, it_in_tb (List.mem_of_getElem? (i := 883) (by decide +kernel)) rfl, rfl⟩
theorem fl_IcedTooSoonModel_114 : it_fl "IcedTooSoonModel" 114 6 22 := ⟨it_R6, it_F6, 34, rfl, by decide, it_j6, it_in_tb (List.mem_of_getElem? (i := 884) (by decide +kernel)) rfl, rfl⟩
theorem fl_IcedTooSoonModel_121 : it_fl "IcedTooSoonModel" 121 6 27 := ⟨it_R6, it_F6, 34, rfl, by decide, it_j6, it_in_tb (List.mem_of_getElem? (i := 889) (by decide +kernel)) rfl, rfl⟩
theorem fl_IcedTooSoonModel_124 : it_fl "IcedTooSoonModel" 124 6 25 := ⟨it_R6, it_F6, 34, rfl, by decide, it_j6, it_in_tb (List.mem_of_getElem? (i := 887) (by decide +kernel)) rfl, rfl⟩
theorem fl_IcedTooSoonModel_131 : it_fl "IcedTooSoonModel" 131 6 26 := ⟨it_R6, it_F6, 34, rfl, by decide, it_j6, it_in_tb (List.mem_of_getElem? (i := 888) (by decide +kernel)) rfl, rfl⟩
theorem fl_IcedTooSoonModel_216 : it_fl "IcedTooSoonModel" 216 6 31 := ⟨it_R6, it_F6, 34, rfl, by decide, it_j6, it_in_tb (List.mem_of_getElem? (i := 893) (by decide +kernel)) rfl, rfl⟩
theorem fl_IcedTooSoonModel_250 : it_fl "IcedTooSoonModel" 250 6 33 := ⟨it_R6, it_F6, 34, rfl, by decide, it_j6, it_in_tb (List.mem_of_getElem? (i := 895) (by decide +kernel)) rfl, rfl⟩
theorem fl_IcedTooSoonModel_257 : it_fl "IcedTooSoonModel" 257 6 12 := ⟨it_R6, it_F6, 34, rfl, by decide, it_j6, it_in_tb (List.mem_of_getElem? (i := 874) (by decide +kernel)) rfl, rfl⟩
theorem fw_0_0 : it_fw 0 0 true (.object "IcedTooSoon$Lawbook") := ⟨_, _, _, it_t0, rfl, it_y0, it_n0, rfl, rfl, rfl⟩
theorem fw_0_1 : it_fw 0 1 false .int := ⟨_, _, _, it_t0, rfl, it_y0, it_n0, rfl, rfl, rfl⟩
theorem fw_0_2 : it_fw 0 2 true (.array .int) := ⟨_, _, _, it_t0, rfl, it_y0, it_n0, rfl, rfl, rfl⟩
theorem fw_0_3 : it_fw 0 3 true (.array .int) := ⟨_, _, _, it_t0, rfl, it_y0, it_n0, rfl, rfl, rfl⟩
theorem fw_0_4 : it_fw 0 4 true (.array .int) := ⟨_, _, _, it_t0, rfl, it_y0, it_n0, rfl, rfl, rfl⟩
theorem fw_0_5 : it_fw 0 5 true (.array .int) := ⟨_, _, _, it_t0, rfl, it_y0, it_n0, rfl, rfl, rfl⟩
theorem fw_0_6 : it_fw 0 6 true (.array .int) := ⟨_, _, _, it_t0, rfl, it_y0, it_n0, rfl, rfl, rfl⟩
theorem fw_0_7 : it_fw 0 7 true (.array .int) := ⟨_, _, _, it_t0, rfl, it_y0, it_n0, rfl, rfl, rfl⟩
theorem fw_0_8 : it_fw 0 8 true (.array .int) := ⟨_, _, _, it_t0, rfl, it_y0, it_n0, rfl, rfl, rfl⟩
theorem fw_0_9 : it_fw 0 9 false .int := ⟨_, _, _, it_t0, rfl, it_y0, it_n0, rfl, rfl, rfl⟩
theorem fw_0_10 : it_fw 0 10 false .int := ⟨_, _, _, it_t0, rfl, it_y0, it_n0, rfl, rfl, rfl⟩
theorem fw_1_0 : it_fw 1 0 true (.array (.object "IcedTooSoon$Text")) := ⟨_, _, _, it_t1, rfl, it_y1, it_n1, rfl, rfl, rfl⟩
theorem fw_1_1 : it_fw 1 1 true (.array .int) := ⟨_, _, _, it_t1, rfl, it_y1, it_n1, rfl, rfl, rfl⟩
theorem fw_1_2 : it_fw 1 2 true (.array .int) := ⟨_, _, _, it_t1, rfl, it_y1, it_n1, rfl, rfl, rfl⟩
theorem fw_1_3 : it_fw 1 3 false .int := ⟨_, _, _, it_t1, rfl, it_y1, it_n1, rfl, rfl, rfl⟩
theorem fw_2_0 : it_fw 2 0 false .int := ⟨_, _, _, it_t2, rfl, it_y2, it_n2, rfl, rfl, rfl⟩
theorem fw_2_1 : it_fw 2 1 false .int := ⟨_, _, _, it_t2, rfl, it_y2, it_n2, rfl, rfl, rfl⟩
theorem fw_2_2 : it_fw 2 2 true (.array .int) := ⟨_, _, _, it_t2, rfl, it_y2, it_n2, rfl, rfl, rfl⟩
theorem fw_3_0 : it_fw 3 0 true (.array .int) := ⟨_, _, _, it_t3, rfl, it_y3, it_n3, rfl, rfl, rfl⟩
theorem fw_3_1 : it_fw 3 1 false .int := ⟨_, _, _, it_t3, rfl, it_y3, it_n3, rfl, rfl, rfl⟩
theorem fw_3_2 : it_fw 3 2 false .int := ⟨_, _, _, it_t3, rfl, it_y3, it_n3, rfl, rfl, rfl⟩
theorem fw_3_3 : it_fw 3 3 false .int := ⟨_, _, _, it_t3, rfl, it_y3, it_n3, rfl, rfl, rfl⟩
theorem fw_3_4 : it_fw 3 4 false .int := ⟨_, _, _, it_t3, rfl, it_y3, it_n3, rfl, rfl, rfl⟩
theorem fw_3_5 : it_fw 3 5 false .int := ⟨_, _, _, it_t3, rfl, it_y3, it_n3, rfl, rfl, rfl⟩
theorem fw_3_6 : it_fw 3 6 true (.array .int) := ⟨_, _, _, it_t3, rfl, it_y3, it_n3, rfl, rfl, rfl⟩
theorem fw_3_7 : it_fw 3 7 false .int := ⟨_, _, _, it_t3, rfl, it_y3, it_n3, rfl, rfl, rfl⟩
theorem fw_3_8 : it_fw 3 8 true (.array .int) := ⟨_, _, _, it_t3, rfl, it_y3, it_n3, rfl, rfl, rfl⟩
theorem fw_4_0 : it_fw 4 0 true (.array .int) := ⟨_, _, _, it_t4, rfl, it_y4, it_n4, rfl, rfl, rfl⟩
theorem fw_4_1 : it_fw 4 1 true (.array .int) := ⟨_, _, _, it_t4, rfl, it_y4, it_n4, rfl, rfl, rfl⟩
theorem fw_5_0 : it_fw 5 0 true (.object "IcedTooSoon$Lawbook") := ⟨_, _, _, it_t5, rfl, it_y5, it_n5, rfl, rfl, rfl⟩
theorem fw_5_1 : it_fw 5 1 true (.object "IcedTooSoon$Tape") := ⟨_, _, _, it_t5, rfl, it_y5, it_n5, rfl, rfl, rfl⟩
theorem fw_5_2 : it_fw 5 2 true (.object "IcedTooSoon$House") := ⟨_, _, _, it_t5, rfl, it_y5, it_n5, rfl, rfl, rfl⟩
theorem fw_5_3 : it_fw 5 3 true (.object "IcedTooSoon$House") := ⟨_, _, _, it_t5, rfl, it_y5, it_n5, rfl, rfl, rfl⟩
theorem fw_5_4 : it_fw 5 4 true (.object "IcedTooSoon$House") := ⟨_, _, _, it_t5, rfl, it_y5, it_n5, rfl, rfl, rfl⟩
theorem fw_5_5 : it_fw 5 5 false .boolean := ⟨_, _, _, it_t5, rfl, it_y5, it_n5, rfl, rfl, rfl⟩
theorem fw_5_6 : it_fw 5 6 true (.array (.object "IcedTooSoon$Sheet")) := ⟨_, _, _, it_t5, rfl, it_y5, it_n5, rfl, rfl, rfl⟩
theorem fw_6_0 : it_fw 6 0 false .int := ⟨_, _, _, it_t6, rfl, it_y6, it_n6, rfl, rfl, rfl⟩
theorem fw_6_1 : it_fw 6 1 true (.array .int) := ⟨_, _, _, it_t6, rfl, it_y6, it_n6, rfl, rfl, rfl⟩
theorem fw_6_2 : it_fw 6 2 true (.array .int) := ⟨_, _, _, it_t6, rfl, it_y6, it_n6, rfl, rfl, rfl⟩
theorem fw_6_3 : it_fw 6 3 true (.array .int) := ⟨_, _, _, it_t6, rfl, it_y6, it_n6, rfl, rfl, rfl⟩
theorem fw_6_4 : it_fw 6 4 true (.array .int) := ⟨_, _, _, it_t6, rfl, it_y6, it_n6, rfl, rfl, rfl⟩
theorem fw_6_5 : it_fw 6 5 false .int := ⟨_, _, _, it_t6, rfl, it_y6, it_n6, rfl, rfl, rfl⟩
theorem fw_6_6 : it_fw 6 6 true (.array .int) := ⟨_, _, _, it_t6, rfl, it_y6, it_n6, rfl, rfl, rfl⟩
theorem fw_6_7 : it_fw 6 7 false .int := ⟨_, _, _, it_t6, rfl, it_y6, it_n6, rfl, rfl, rfl⟩
theorem fw_6_8 : it_fw 6 8 true (.array .int) := ⟨_, _, _, it_t6, rfl, it_y6, it_n6, rfl, rfl, rfl⟩
theorem fw_6_9 : it_fw 6 9 true (.array .int) := ⟨_, _, _, it_t6, rfl, it_y6, it_n6, rfl, rfl, rfl⟩
theorem fw_6_10 : it_fw 6 10 false .int := ⟨_, _, _, it_t6, rfl, it_y6, it_n6, rfl, rfl, rfl⟩
theorem fw_6_11 : it_fw 6 11 false .int := ⟨_, _, _, it_t6, rfl, it_y6, it_n6, rfl, rfl, rfl⟩
theorem fw_6_12 : it_fw 6 12 false .boolean := ⟨_, _, _, it_t6, rfl, it_y6, it_n6, rfl, rfl, rfl⟩
theorem fw_6_13 : it_fw 6 13 true (.array .int) := ⟨_, _, _, it_t6, rfl, it_y6, it_n6, rfl, rfl, rfl⟩
theorem fw_6_14 : it_fw 6 14 true (.array .int) := ⟨_, _, _, it_t6, rfl, it_y6, it_n6, rfl, rfl, rfl⟩
theorem fw_6_15 : it_fw 6 15 true (.array .int) := ⟨_, _, _, it_t6, rfl, it_y6, it_n6, rfl, rfl, rfl⟩
theorem fw_6_16 : it_fw 6 16 true (.array .int) := ⟨_, _, _, it_t6, rfl, it_y6, it_n6, rfl, rfl, rfl⟩
theorem fw_6_17 : it_fw 6 17 true (.array .int) := ⟨_, _, _, it_t6, rfl, it_y6, it_n6, rfl, rfl, rfl⟩
theorem fw_6_18 : it_fw 6 18 true (.array .int) := ⟨_, _, _, it_t6, rfl, it_y6, it_n6, rfl, rfl, rfl⟩
theorem fw_6_19 : it_fw 6 19 false .int := ⟨_, _, _, it_t6, rfl, it_y6, it_n6, rfl, rfl, rfl⟩
theorem fw_6_20 : it_fw 6 20 false .int := ⟨_, _, _, it_t6, rfl, it_y6, it_n6, rfl, rfl, rfl⟩
theorem fw_6_21 : it_fw 6 21 false .int := ⟨_, _, _, it_t6, rfl, it_y6, it_n6, rfl, rfl, rfl⟩
theorem fw_6_22 : it_fw 6 22 false .int := ⟨_, _, _, it_t6, rfl, it_y6, it_n6, rfl, rfl, rfl⟩
theorem fw_6_23 : it_fw 6 23 true (.array .int) := ⟨_, _, _, it_t6, rfl, it_y6, it_n6, rfl, rfl, rfl⟩
theorem fw_6_24 : it_fw 6 24 true (.array .int) := ⟨_, _, _, it_t6, rfl, it_y6, it_n6, rfl, rfl, rfl⟩
theorem fw_6_25 : it_fw 6 25 false .int := ⟨_, _, _, it_t6, rfl, it_y6, it_n6, rfl, rfl, rfl⟩
theorem fw_6_26 : it_fw 6 26 false .int := ⟨_, _, _, it_t6, rfl, it_y6, it_n6, rfl, rfl, rfl⟩
theorem fw_6_27 : it_fw 6 27 false .int := ⟨_, _, _, it_t6, rfl, it_y6, it_n6, rfl, rfl, rfl⟩
theorem fw_6_28 : it_fw 6 28 true (.array .int) := ⟨_, _, _, it_t6, rfl, it_y6, it_n6, rfl, rfl, rfl⟩
theorem fw_6_29 : it_fw 6 29 true (.array .int) := ⟨_, _, _, it_t6, rfl, it_y6, it_n6, rfl, rfl, rfl⟩
theorem fw_6_30 : it_fw 6 30 true (.array .int) := ⟨_, _, _, it_t6, rfl, it_y6, it_n6, rfl, rfl, rfl⟩
theorem fw_6_31 : it_fw 6 31 false .int := ⟨_, _, _, it_t6, rfl, it_y6, it_n6, rfl, rfl, rfl⟩
theorem fw_6_32 : it_fw 6 32 true (.array .int) := ⟨_, _, _, it_t6, rfl, it_y6, it_n6, rfl, rfl, rfl⟩
theorem fw_6_33 : it_fw 6 33 false .int := ⟨_, _, _, it_t6, rfl, it_y6, it_n6, rfl, rfl, rfl⟩
theorem ml_IcedTooSoon_9 : it_miN "IcedTooSoon" 9 it_m_X1_init 0 := ⟨mc_X1_init, by decide +kernel, it_in_tb (List.mem_of_getElem? (i := 82) (by decide +kernel)) rfl, rfl, rfl⟩
theorem ml_IcedTooSoon_18 : it_miN "IcedTooSoon" 18 it_m_X3_init 0 := ⟨mc_X3_init, by decide +kernel, it_in_tb (List.mem_of_getElem? (i := 105) (by decide +kernel)) rfl, rfl, rfl⟩
theorem ml_IcedTooSoon_25 : it_mi "IcedTooSoon" 25 it_m_X0_init 1 := ⟨mc_X0_init, it_in_tb (List.mem_of_getElem? (i := 140) (by decide +kernel)) rfl, it_in_tb (List.mem_of_getElem? (i := 141) (by decide +kernel)) rfl, rfl, rfl⟩
theorem ml_IcedTooSoon_48 : it_miN "IcedTooSoon" 48 it_m_X2_init 0 := ⟨mc_X2_init, by decide +kernel, it_in_tb (List.mem_of_getElem? (i := 195) (by decide +kernel)) rfl, rfl, rfl⟩
theorem ml_IcedTooSoon_51 : it_mv "IcedTooSoon" 51 it_m_J0_length_8abf5 0 := ⟨mc_J0_length_8abf5, it_in_tb (List.mem_of_getElem? (i := 212) (by decide +kernel)) rfl, it_in_tb (List.mem_of_getElem? (i := 213) (by decide +kernel)) rfl, it_in_tb (List.mem_of_getElem? (i := 214) (by decide +kernel)) rfl⟩
theorem ml_IcedTooSoon_57 : it_mv "IcedTooSoon" 57 it_m_J0_charAt_5068e 1 := ⟨mc_J0_charAt_5068e, it_in_tb (List.mem_of_getElem? (i := 222) (by decide +kernel)) rfl, it_in_tb (List.mem_of_getElem? (i := 223) (by decide +kernel)) rfl, it_in_tb (List.mem_of_getElem? (i := 224) (by decide +kernel)) rfl⟩
theorem ml_IcedTooSoon_61 : it_mv "IcedTooSoon" 61 it_m_X3_add 1 := ⟨mc_X3_add, it_in_tb (List.mem_of_getElem? (i := 260) (by decide +kernel)) rfl, it_in_tb (List.mem_of_getElem? (i := 261) (by decide +kernel)) rfl, it_in_tb (List.mem_of_getElem? (i := 262) (by decide +kernel)) rfl⟩
theorem ml_IcedTooSoon_65 : it_mv "IcedTooSoon" 65 it_m_X3_isRead 0 := ⟨mc_X3_isRead, it_in_tb (List.mem_of_getElem? (i := 264) (by decide +kernel)) rfl, it_in_tb (List.mem_of_getElem? (i := 265) (by decide +kernel)) rfl, it_in_tb (List.mem_of_getElem? (i := 266) (by decide +kernel)) rfl⟩
theorem ml_IcedTooSoon_69 : it_mv "IcedTooSoon" 69 it_m_X3_written 0 := ⟨mc_X3_written, it_in_tb (List.mem_of_getElem? (i := 381) (by decide +kernel)) rfl, it_in_tb (List.mem_of_getElem? (i := 382) (by decide +kernel)) rfl, it_in_tb (List.mem_of_getElem? (i := 383) (by decide +kernel)) rfl⟩
theorem ml_IcedTooSoon_73 : it_mv "IcedTooSoon" 73 it_m_X1_add 1 := ⟨mc_X1_add, it_in_tb (List.mem_of_getElem? (i := 415) (by decide +kernel)) rfl, it_in_tb (List.mem_of_getElem? (i := 416) (by decide +kernel)) rfl, it_in_tb (List.mem_of_getElem? (i := 417) (by decide +kernel)) rfl⟩
theorem ml_IcedTooSoon_76 : it_mv "IcedTooSoon" 76 it_m_X3_empty 0 := ⟨mc_X3_empty, it_in_tb (List.mem_of_getElem? (i := 419) (by decide +kernel)) rfl, it_in_tb (List.mem_of_getElem? (i := 420) (by decide +kernel)) rfl, it_in_tb (List.mem_of_getElem? (i := 421) (by decide +kernel)) rfl⟩
theorem ml_IcedTooSoon_83 : it_mv "IcedTooSoon" 83 it_m_X0_glassesThere 0 := ⟨mc_X0_glassesThere, it_in_tb (List.mem_of_getElem? (i := 449) (by decide +kernel)) rfl, it_in_tb (List.mem_of_getElem? (i := 450) (by decide +kernel)) rfl, it_in_tb (List.mem_of_getElem? (i := 451) (by decide +kernel)) rfl⟩
theorem ml_IcedTooSoon_96 : it_ms "IcedTooSoon" 96 it_m_X5_isOutside 3 := ⟨mc_X5_isOutside, it_in_tb (List.mem_of_getElem? (i := 465) (by decide +kernel)) rfl, it_in_tb (List.mem_of_getElem? (i := 466) (by decide +kernel)) rfl⟩
theorem ml_IcedTooSoon_100 : it_ms "IcedTooSoon" 100 it_m_X5_isNoByte 1 := ⟨mc_X5_isNoByte, it_in_tb (List.mem_of_getElem? (i := 472) (by decide +kernel)) rfl, it_in_tb (List.mem_of_getElem? (i := 473) (by decide +kernel)) rfl⟩
theorem ml_IcedTooSoon_107 : it_mv "IcedTooSoon" 107 it_m_X0_hasGlass 1 := ⟨mc_X0_hasGlass, it_in_tb (List.mem_of_getElem? (i := 487) (by decide +kernel)) rfl, it_in_tb (List.mem_of_getElem? (i := 454) (by decide +kernel)) rfl, it_in_tb (List.mem_of_getElem? (i := 455) (by decide +kernel)) rfl⟩
theorem ml_IcedTooSoon_110 : it_mv "IcedTooSoon" 110 it_m_X0_saying 2 := ⟨mc_X0_saying, it_in_tb (List.mem_of_getElem? (i := 488) (by decide +kernel)) rfl, it_in_tb (List.mem_of_getElem? (i := 489) (by decide +kernel)) rfl, it_in_tb (List.mem_of_getElem? (i := 490) (by decide +kernel)) rfl⟩
theorem ml_IcedTooSoon_114 : it_mv "IcedTooSoon" 114 it_m_X0_admit 2 := ⟨mc_X0_admit, it_in_tb (List.mem_of_getElem? (i := 520) (by decide +kernel)) rfl, it_in_tb (List.mem_of_getElem? (i := 521) (by decide +kernel)) rfl, it_in_tb (List.mem_of_getElem? (i := 522) (by decide +kernel)) rfl⟩
theorem ml_IcedTooSoon_117 : it_mv "IcedTooSoon" 117 it_m_X0_hasGuest 1 := ⟨mc_X0_hasGuest, it_in_tb (List.mem_of_getElem? (i := 529) (by decide +kernel)) rfl, it_in_tb (List.mem_of_getElem? (i := 458) (by decide +kernel)) rfl, it_in_tb (List.mem_of_getElem? (i := 459) (by decide +kernel)) rfl⟩
theorem ml_IcedTooSoon_120 : it_mv "IcedTooSoon" 120 it_m_X0_serve 3 := ⟨mc_X0_serve, it_in_tb (List.mem_of_getElem? (i := 530) (by decide +kernel)) rfl, it_in_tb (List.mem_of_getElem? (i := 531) (by decide +kernel)) rfl, it_in_tb (List.mem_of_getElem? (i := 532) (by decide +kernel)) rfl⟩
theorem ml_IcedTooSoon_131 : it_mv "IcedTooSoon" 131 it_m_X0_set 3 := ⟨mc_X0_set, it_in_tb (List.mem_of_getElem? (i := 544) (by decide +kernel)) rfl, it_in_tb (List.mem_of_getElem? (i := 545) (by decide +kernel)) rfl, it_in_tb (List.mem_of_getElem? (i := 546) (by decide +kernel)) rfl⟩
theorem ml_IcedTooSoon_141 : it_mv "IcedTooSoon" 141 it_m_X0_glassesOf 1 := ⟨mc_X0_glassesOf, it_in_tb (List.mem_of_getElem? (i := 552) (by decide +kernel)) rfl, it_in_tb (List.mem_of_getElem? (i := 553) (by decide +kernel)) rfl, it_in_tb (List.mem_of_getElem? (i := 554) (by decide +kernel)) rfl⟩
theorem ml_IcedTooSoon_145 : it_mv "IcedTooSoon" 145 it_m_X5_nextOff 1 := ⟨mc_X5_nextOff, it_in_tb (List.mem_of_getElem? (i := 556) (by decide +kernel)) rfl, it_in_tb (List.mem_of_getElem? (i := 558) (by decide +kernel)) rfl, it_in_tb (List.mem_of_getElem? (i := 10) (by decide +kernel)) rfl⟩
theorem ml_IcedTooSoon_157 : it_mv "IcedTooSoon" 157 it_m_X0_melting 1 := ⟨mc_X0_melting, it_in_tb (List.mem_of_getElem? (i := 594) (by decide +kernel)) rfl, it_in_tb (List.mem_of_getElem? (i := 574) (by decide +kernel)) rfl, it_in_tb (List.mem_of_getElem? (i := 575) (by decide +kernel)) rfl⟩
theorem ml_IcedTooSoon_160 : it_mv "IcedTooSoon" 160 it_m_X0_feeling 1 := ⟨mc_X0_feeling, it_in_tb (List.mem_of_getElem? (i := 595) (by decide +kernel)) rfl, it_in_tb (List.mem_of_getElem? (i := 579) (by decide +kernel)) rfl, it_in_tb (List.mem_of_getElem? (i := 580) (by decide +kernel)) rfl⟩
theorem ml_IcedTooSoon_163 : it_mv "IcedTooSoon" 163 it_m_X0_chilling 1 := ⟨mc_X0_chilling, it_in_tb (List.mem_of_getElem? (i := 596) (by decide +kernel)) rfl, it_in_tb (List.mem_of_getElem? (i := 535) (by decide +kernel)) rfl, it_in_tb (List.mem_of_getElem? (i := 536) (by decide +kernel)) rfl⟩
theorem ml_IcedTooSoon_166 : it_mv "IcedTooSoon" 166 it_m_X0_passDay 0 := ⟨mc_X0_passDay, it_in_tb (List.mem_of_getElem? (i := 569) (by decide +kernel)) rfl, it_in_tb (List.mem_of_getElem? (i := 570) (by decide +kernel)) rfl, it_in_tb (List.mem_of_getElem? (i := 571) (by decide +kernel)) rfl⟩
theorem ml_IcedTooSoon_169 : it_mv "IcedTooSoon" 169 it_m_X0_addIce 2 := ⟨mc_X0_addIce, it_in_tb (List.mem_of_getElem? (i := 605) (by decide +kernel)) rfl, it_in_tb (List.mem_of_getElem? (i := 606) (by decide +kernel)) rfl, it_in_tb (List.mem_of_getElem? (i := 607) (by decide +kernel)) rfl⟩
theorem ml_IcedTooSoon_173 : it_mv "IcedTooSoon" 173 it_m_X0_take 1 := ⟨mc_X0_take, it_in_tb (List.mem_of_getElem? (i := 613) (by decide +kernel)) rfl, it_in_tb (List.mem_of_getElem? (i := 583) (by decide +kernel)) rfl, it_in_tb (List.mem_of_getElem? (i := 584) (by decide +kernel)) rfl⟩
theorem ml_IcedTooSoon_176 : it_ms "IcedTooSoon" 176 it_m_X5_oneOf 1 := ⟨mc_X5_oneOf, it_in_tb (List.mem_of_getElem? (i := 618) (by decide +kernel)) rfl, it_in_tb (List.mem_of_getElem? (i := 619) (by decide +kernel)) rfl⟩
theorem ml_IcedTooSoon_180 : it_mv "IcedTooSoon" 180 it_m_X5_think 0 := ⟨mc_X5_think, it_in_tb (List.mem_of_getElem? (i := 560) (by decide +kernel)) rfl, it_in_tb (List.mem_of_getElem? (i := 562) (by decide +kernel)) rfl, it_in_tb (List.mem_of_getElem? (i := 11) (by decide +kernel)) rfl⟩
theorem ml_IcedTooSoon_183 : it_mv "IcedTooSoon" 183 it_m_X5_pass 1 := ⟨mc_X5_pass, it_in_tb (List.mem_of_getElem? (i := 622) (by decide +kernel)) rfl, it_in_tb (List.mem_of_getElem? (i := 624) (by decide +kernel)) rfl, it_in_tb (List.mem_of_getElem? (i := 12) (by decide +kernel)) rfl⟩
theorem ml_IcedTooSoon_186 : it_mv "IcedTooSoon" 186 it_m_X0_moodOfAll 0 := ⟨mc_X0_moodOfAll, it_in_tb (List.mem_of_getElem? (i := 626) (by decide +kernel)) rfl, it_in_tb (List.mem_of_getElem? (i := 627) (by decide +kernel)) rfl, it_in_tb (List.mem_of_getElem? (i := 628) (by decide +kernel)) rfl⟩
theorem ml_IcedTooSoon_189 : it_mv "IcedTooSoon" 189 it_m_X0_guestsBelow 1 := ⟨mc_X0_guestsBelow, it_in_tb (List.mem_of_getElem? (i := 642) (by decide +kernel)) rfl, it_in_tb (List.mem_of_getElem? (i := 643) (by decide +kernel)) rfl, it_in_tb (List.mem_of_getElem? (i := 644) (by decide +kernel)) rfl⟩
theorem ml_IcedTooSoon_192 : it_mv "IcedTooSoon" 192 it_m_X5_moodIfIced 3 := ⟨mc_X5_moodIfIced, it_in_tb (List.mem_of_getElem? (i := 650) (by decide +kernel)) rfl, it_in_tb (List.mem_of_getElem? (i := 652) (by decide +kernel)) rfl, it_in_tb (List.mem_of_getElem? (i := 13) (by decide +kernel)) rfl⟩
theorem ml_IcedTooSoon_195 : it_mv "IcedTooSoon" 195 it_m_X5_moodIfSpilt 2 := ⟨mc_X5_moodIfSpilt, it_in_tb (List.mem_of_getElem? (i := 658) (by decide +kernel)) rfl, it_in_tb (List.mem_of_getElem? (i := 660) (by decide +kernel)) rfl, it_in_tb (List.mem_of_getElem? (i := 14) (by decide +kernel)) rfl⟩
theorem ml_IcedTooSoon_198 : it_mv "IcedTooSoon" 198 it_m_X5_roundOf 3 := ⟨mc_X5_roundOf, it_in_tb (List.mem_of_getElem? (i := 666) (by decide +kernel)) rfl, it_in_tb (List.mem_of_getElem? (i := 668) (by decide +kernel)) rfl, it_in_tb (List.mem_of_getElem? (i := 15) (by decide +kernel)) rfl⟩
theorem ml_IcedTooSoon_203 : it_mv "IcedTooSoon" 203 it_m_X0_weightOfAll 0 := ⟨mc_X0_weightOfAll, it_in_tb (List.mem_of_getElem? (i := 684) (by decide +kernel)) rfl, it_in_tb (List.mem_of_getElem? (i := 685) (by decide +kernel)) rfl, it_in_tb (List.mem_of_getElem? (i := 686) (by decide +kernel)) rfl⟩
theorem ml_IcedTooSoon_206 : it_ms "IcedTooSoon" 206 it_m_X5_inLowestTerms 3 := ⟨mc_X5_inLowestTerms, it_in_tb (List.mem_of_getElem? (i := 688) (by decide +kernel)) rfl, it_in_tb (List.mem_of_getElem? (i := 689) (by decide +kernel)) rfl⟩
theorem ml_IcedTooSoon_210 : it_mv "IcedTooSoon" 210 it_m_X5_refusalOfDays 2 := ⟨mc_X5_refusalOfDays, it_in_tb (List.mem_of_getElem? (i := 698) (by decide +kernel)) rfl, it_in_tb (List.mem_of_getElem? (i := 700) (by decide +kernel)) rfl, it_in_tb (List.mem_of_getElem? (i := 16) (by decide +kernel)) rfl⟩
theorem ml_IcedTooSoon_213 : it_mv "IcedTooSoon" 213 it_m_X5_firstOtherwise 2 := ⟨mc_X5_firstOtherwise, it_in_tb (List.mem_of_getElem? (i := 709) (by decide +kernel)) rfl, it_in_tb (List.mem_of_getElem? (i := 711) (by decide +kernel)) rfl, it_in_tb (List.mem_of_getElem? (i := 18) (by decide +kernel)) rfl⟩
theorem ml_IcedTooSoon_216 : it_mv "IcedTooSoon" 216 it_m_X0_setKind 3 := ⟨mc_X0_setKind, it_in_tb (List.mem_of_getElem? (i := 717) (by decide +kernel)) rfl, it_in_tb (List.mem_of_getElem? (i := 718) (by decide +kernel)) rfl, it_in_tb (List.mem_of_getElem? (i := 719) (by decide +kernel)) rfl⟩
theorem ml_IcedTooSoon_219 : it_mv "IcedTooSoon" 219 it_m_X5_refusalOfSheet 1 := ⟨mc_X5_refusalOfSheet, it_in_tb (List.mem_of_getElem? (i := 702) (by decide +kernel)) rfl, it_in_tb (List.mem_of_getElem? (i := 704) (by decide +kernel)) rfl, it_in_tb (List.mem_of_getElem? (i := 17) (by decide +kernel)) rfl⟩
theorem ml_IcedTooSoon_222 : it_ms "IcedTooSoon" 222 it_m_X5_isNoSheet 1 := ⟨mc_X5_isNoSheet, it_in_tb (List.mem_of_getElem? (i := 706) (by decide +kernel)) rfl, it_in_tb (List.mem_of_getElem? (i := 707) (by decide +kernel)) rfl⟩
theorem ml_IcedTooSoon_225 : it_mv "IcedTooSoon" 225 it_m_X2_renew 2 := ⟨mc_X2_renew, it_in_tb (List.mem_of_getElem? (i := 741) (by decide +kernel)) rfl, it_in_tb (List.mem_of_getElem? (i := 742) (by decide +kernel)) rfl, it_in_tb (List.mem_of_getElem? (i := 743) (by decide +kernel)) rfl⟩
theorem ml_IcedTooSoon_228 : it_mv "IcedTooSoon" 228 it_m_X2_write 2 := ⟨mc_X2_write, it_in_tb (List.mem_of_getElem? (i := 746) (by decide +kernel)) rfl, it_in_tb (List.mem_of_getElem? (i := 747) (by decide +kernel)) rfl, it_in_tb (List.mem_of_getElem? (i := 748) (by decide +kernel)) rfl⟩
theorem ml_IcedTooSoon_232 : it_mv "IcedTooSoon" 232 it_m_X5_thinkOfLots 1 := ⟨mc_X5_thinkOfLots, it_in_tb (List.mem_of_getElem? (i := 755) (by decide +kernel)) rfl, it_in_tb (List.mem_of_getElem? (i := 757) (by decide +kernel)) rfl, it_in_tb (List.mem_of_getElem? (i := 19) (by decide +kernel)) rfl⟩
theorem ml_IcedTooSoon_235 : it_mv "IcedTooSoon" 235 it_m_X0_become 1 := ⟨mc_X0_become, it_in_tb (List.mem_of_getElem? (i := 564) (by decide +kernel)) rfl, it_in_tb (List.mem_of_getElem? (i := 565) (by decide +kernel)) rfl, it_in_tb (List.mem_of_getElem? (i := 566) (by decide +kernel)) rfl⟩
theorem ml_IcedTooSoon_242 : it_mv "IcedTooSoon" 242 it_m_X2_has 1 := ⟨mc_X2_has, it_in_tb (List.mem_of_getElem? (i := 787) (by decide +kernel)) rfl, it_in_tb (List.mem_of_getElem? (i := 788) (by decide +kernel)) rfl, it_in_tb (List.mem_of_getElem? (i := 789) (by decide +kernel)) rfl⟩
theorem ml_IcedTooSoon_255 : it_ms "IcedTooSoon" 255 it_m_X5_isOfKind 2 := ⟨mc_X5_isOfKind, it_in_tb (List.mem_of_getElem? (i := 804) (by decide +kernel)) rfl, it_in_tb (List.mem_of_getElem? (i := 805) (by decide +kernel)) rfl⟩
theorem ml_IcedTooSoon_259 : it_ms "IcedTooSoon" 259 it_m_J9_min_7cf53 2 := ⟨mc_J9_min_7cf53, it_in_tb (List.mem_of_getElem? (i := 514) (by decide +kernel)) rfl, it_in_tb (List.mem_of_getElem? (i := 314) (by decide +kernel)) rfl⟩
theorem ml_IcedTooSoon_264 : it_ms "IcedTooSoon" 264 it_m_J9_max_7cf53 2 := ⟨mc_J9_max_7cf53, it_in_tb (List.mem_of_getElem? (i := 515) (by decide +kernel)) rfl, it_in_tb (List.mem_of_getElem? (i := 311) (by decide +kernel)) rfl⟩
theorem ml_IcedTooSoon_270 : it_ms "IcedTooSoon" 270 it_m_J6_bitCount_0f7a4 1 := ⟨mc_J6_bitCount_0f7a4, it_in_tb (List.mem_of_getElem? (i := 673) (by decide +kernel)) rfl, it_in_tb (List.mem_of_getElem? (i := 674) (by decide +kernel)) rfl⟩
theorem ml_IcedTooSoon_275 : it_ms "IcedTooSoon" 275 it_m_J9_abs_0f7a4 1 := ⟨mc_J9_abs_0f7a4, it_in_tb (List.mem_of_getElem? (i := 691) (by decide +kernel)) rfl, it_in_tb (List.mem_of_getElem? (i := 692) (by decide +kernel)) rfl⟩
theorem ml_IcedTooSoon_278 : it_ms "IcedTooSoon" 278 it_m_J6_numberOfTrailingZeros_0f7a4 1 := ⟨mc_J6_numberOfTrailingZeros_0f7a4, it_in_tb (List.mem_of_getElem? (i := 586) (by decide +kernel)) rfl, it_in_tb (List.mem_of_getElem? (i := 587) (by decide +kernel)) rfl⟩
theorem ml_IcedTooSoon_281 : it_ms "IcedTooSoon" 281 it_m_X5_isAhead 2 := ⟨mc_X5_isAhead, it_in_tb (List.mem_of_getElem? (i := 670) (by decide +kernel)) rfl, it_in_tb (List.mem_of_getElem? (i := 671) (by decide +kernel)) rfl⟩
theorem ml_IcedTooSoon_284 : it_ms "IcedTooSoon" 284 it_m_X5_lotBehind 1 := ⟨mc_X5_lotBehind, it_in_tb (List.mem_of_getElem? (i := 759) (by decide +kernel)) rfl, it_in_tb (List.mem_of_getElem? (i := 760) (by decide +kernel)) rfl⟩
theorem ml_IcedTooSoon_House_37 : it_ms "IcedTooSoon$House" 37 it_m_J7_fill_53178 2 := ⟨mc_J7_fill_53178, it_in_tb (List.mem_of_getElem? (i := 144) (by decide +kernel)) rfl, it_in_tb (List.mem_of_getElem? (i := 145) (by decide +kernel)) rfl⟩
theorem ml_IcedTooSoon_House_59 : it_mv "IcedTooSoon$House" 59 it_m_X0_hasGuest 1 := ⟨mc_X0_hasGuest, it_in_tb (List.mem_of_getElem? (i := 457) (by decide +kernel)) rfl, it_in_tb (List.mem_of_getElem? (i := 458) (by decide +kernel)) rfl, it_in_tb (List.mem_of_getElem? (i := 459) (by decide +kernel)) rfl⟩
theorem ml_IcedTooSoon_House_63 : it_mv "IcedTooSoon$House" 63 it_m_X0_hasGlass 1 := ⟨mc_X0_hasGlass, it_in_tb (List.mem_of_getElem? (i := 453) (by decide +kernel)) rfl, it_in_tb (List.mem_of_getElem? (i := 454) (by decide +kernel)) rfl, it_in_tb (List.mem_of_getElem? (i := 455) (by decide +kernel)) rfl⟩
theorem ml_IcedTooSoon_House_66 : it_msN "IcedTooSoon$House" 66 it_m_X5_isOutside 3 := ⟨mc_X5_isOutside, by decide +kernel, it_in_tb (List.mem_of_getElem? (i := 466) (by decide +kernel)) rfl⟩
theorem ml_IcedTooSoon_House_70 : it_mv "IcedTooSoon$House" 70 it_m_X0_chilling 1 := ⟨mc_X0_chilling, it_in_tb (List.mem_of_getElem? (i := 534) (by decide +kernel)) rfl, it_in_tb (List.mem_of_getElem? (i := 535) (by decide +kernel)) rfl, it_in_tb (List.mem_of_getElem? (i := 536) (by decide +kernel)) rfl⟩
theorem ml_IcedTooSoon_House_74 : it_ms "IcedTooSoon$House" 74 it_m_J9_min_7cf53 2 := ⟨mc_J9_min_7cf53, it_in_tb (List.mem_of_getElem? (i := 539) (by decide +kernel)) rfl, it_in_tb (List.mem_of_getElem? (i := 314) (by decide +kernel)) rfl⟩
theorem ml_IcedTooSoon_House_80 : it_mv "IcedTooSoon$House" 80 it_m_X0_melting 1 := ⟨mc_X0_melting, it_in_tb (List.mem_of_getElem? (i := 573) (by decide +kernel)) rfl, it_in_tb (List.mem_of_getElem? (i := 574) (by decide +kernel)) rfl, it_in_tb (List.mem_of_getElem? (i := 575) (by decide +kernel)) rfl⟩
theorem ml_IcedTooSoon_House_83 : it_ms "IcedTooSoon$House" 83 it_m_J9_max_7cf53 2 := ⟨mc_J9_max_7cf53, it_in_tb (List.mem_of_getElem? (i := 577) (by decide +kernel)) rfl, it_in_tb (List.mem_of_getElem? (i := 311) (by decide +kernel)) rfl⟩
theorem ml_IcedTooSoon_House_86 : it_mv "IcedTooSoon$House" 86 it_m_X0_feeling 1 := ⟨mc_X0_feeling, it_in_tb (List.mem_of_getElem? (i := 578) (by decide +kernel)) rfl, it_in_tb (List.mem_of_getElem? (i := 579) (by decide +kernel)) rfl, it_in_tb (List.mem_of_getElem? (i := 580) (by decide +kernel)) rfl⟩
theorem ml_IcedTooSoon_House_89 : it_msN "IcedTooSoon$House" 89 it_m_X5_bounded 3 := ⟨mc_X5_bounded, by decide +kernel, it_in_tb (List.mem_of_getElem? (i := 512) (by decide +kernel)) rfl⟩
theorem ml_IcedTooSoon_House_93 : it_mv "IcedTooSoon$House" 93 it_m_X0_take 1 := ⟨mc_X0_take, it_in_tb (List.mem_of_getElem? (i := 582) (by decide +kernel)) rfl, it_in_tb (List.mem_of_getElem? (i := 583) (by decide +kernel)) rfl, it_in_tb (List.mem_of_getElem? (i := 584) (by decide +kernel)) rfl⟩
theorem ml_IcedTooSoon_House_97 : it_mv "IcedTooSoon$House" 97 it_m_X1_name 6 := ⟨mc_X1_name, it_in_tb (List.mem_of_getElem? (i := 492) (by decide +kernel)) rfl, it_in_tb (List.mem_of_getElem? (i := 493) (by decide +kernel)) rfl, it_in_tb (List.mem_of_getElem? (i := 494) (by decide +kernel)) rfl⟩
theorem ml_IcedTooSoon_House_103 : it_mv "IcedTooSoon$House" 103 it_m_X1_reckon 2 := ⟨mc_X1_reckon, it_in_tb (List.mem_of_getElem? (i := 496) (by decide +kernel)) rfl, it_in_tb (List.mem_of_getElem? (i := 497) (by decide +kernel)) rfl, it_in_tb (List.mem_of_getElem? (i := 498) (by decide +kernel)) rfl⟩
theorem ml_IcedTooSoon_House_106 : it_mv "IcedTooSoon$House" 106 it_m_X0_saying 2 := ⟨mc_X0_saying, it_in_tb (List.mem_of_getElem? (i := 538) (by decide +kernel)) rfl, it_in_tb (List.mem_of_getElem? (i := 489) (by decide +kernel)) rfl, it_in_tb (List.mem_of_getElem? (i := 490) (by decide +kernel)) rfl⟩
theorem ml_IcedTooSoon_Lawbook_30 : it_msN "IcedTooSoon$Lawbook" 30 it_m_X5_isOutside 3 := ⟨mc_X5_isOutside, by decide +kernel, it_in_tb (List.mem_of_getElem? (i := 466) (by decide +kernel)) rfl⟩
theorem ml_IcedTooSoon_Lawbook_40 : it_ms "IcedTooSoon$Lawbook" 40 it_m_X3_isName 1 := ⟨mc_X3_isName, it_in_tb (List.mem_of_getElem? (i := 501) (by decide +kernel)) rfl, it_in_tb (List.mem_of_getElem? (i := 375) (by decide +kernel)) rfl⟩
theorem ml_IcedTooSoon_Lawbook_44 : it_ms "IcedTooSoon$Lawbook" 44 it_m_X3_isTurn 1 := ⟨mc_X3_isTurn, it_in_tb (List.mem_of_getElem? (i := 502) (by decide +kernel)) rfl, it_in_tb (List.mem_of_getElem? (i := 503) (by decide +kernel)) rfl⟩
theorem ml_IcedTooSoon_Lawbook_47 : it_ms "IcedTooSoon$Lawbook" 47 it_m_X1_turned 2 := ⟨mc_X1_turned, it_in_tb (List.mem_of_getElem? (i := 505) (by decide +kernel)) rfl, it_in_tb (List.mem_of_getElem? (i := 506) (by decide +kernel)) rfl⟩
theorem ml_IcedTooSoon_Lawbook_51 : it_ms "IcedTooSoon$Lawbook" 51 it_m_X1_joined 3 := ⟨mc_X1_joined, it_in_tb (List.mem_of_getElem? (i := 508) (by decide +kernel)) rfl, it_in_tb (List.mem_of_getElem? (i := 509) (by decide +kernel)) rfl⟩
theorem ml_IcedTooSoon_Sheet_22 : it_ms "IcedTooSoon$Sheet" 22 it_m_J7_fill_53178 2 := ⟨mc_J7_fill_53178, it_in_tb (List.mem_of_getElem? (i := 745) (by decide +kernel)) rfl, it_in_tb (List.mem_of_getElem? (i := 145) (by decide +kernel)) rfl⟩
theorem ml_IcedTooSoon_Tape_30 : it_ms "IcedTooSoon$Tape" 30 it_m_J7_copyOf_59c91 2 := ⟨mc_J7_copyOf_59c91, it_in_tb (List.mem_of_getElem? (i := 387) (by decide +kernel)) rfl, it_in_tb (List.mem_of_getElem? (i := 388) (by decide +kernel)) rfl⟩
theorem ml_IcedTooSoon_Tape_36 : it_mi "IcedTooSoon$Tape" 36 it_m_X4_init 2 := ⟨mc_X4_init, it_in_tb (List.mem_of_getElem? (i := 401) (by decide +kernel)) rfl, it_in_tb (List.mem_of_getElem? (i := 402) (by decide +kernel)) rfl, rfl, rfl⟩
theorem ml_IcedTooSoon_Tape_42 : it_mv "IcedTooSoon$Tape" 42 it_m_X3_next 0 := ⟨mc_X3_next, it_in_tb (List.mem_of_getElem? (i := 268) (by decide +kernel)) rfl, it_in_tb (List.mem_of_getElem? (i := 270) (by decide +kernel)) rfl, it_in_tb (List.mem_of_getElem? (i := 0) (by decide +kernel)) rfl⟩
theorem ml_IcedTooSoon_Tape_48 : it_mv "IcedTooSoon$Tape" 48 it_m_X3_readLevel 2 := ⟨mc_X3_readLevel, it_in_tb (List.mem_of_getElem? (i := 354) (by decide +kernel)) rfl, it_in_tb (List.mem_of_getElem? (i := 356) (by decide +kernel)) rfl, it_in_tb (List.mem_of_getElem? (i := 4) (by decide +kernel)) rfl⟩
theorem ml_IcedTooSoon_Tape_52 : it_mv "IcedTooSoon$Tape" 52 it_m_X3_readOne 1 := ⟨mc_X3_readOne, it_in_tb (List.mem_of_getElem? (i := 358) (by decide +kernel)) rfl, it_in_tb (List.mem_of_getElem? (i := 360) (by decide +kernel)) rfl, it_in_tb (List.mem_of_getElem? (i := 5) (by decide +kernel)) rfl⟩
theorem ml_IcedTooSoon_Tape_56 : it_mv "IcedTooSoon$Tape" 56 it_m_X3_readTurned 2 := ⟨mc_X3_readTurned, it_in_tb (List.mem_of_getElem? (i := 362) (by decide +kernel)) rfl, it_in_tb (List.mem_of_getElem? (i := 364) (by decide +kernel)) rfl, it_in_tb (List.mem_of_getElem? (i := 6) (by decide +kernel)) rfl⟩
theorem ml_IcedTooSoon_Tape_59 : it_mv "IcedTooSoon$Tape" 59 it_m_X3_joins 1 := ⟨mc_X3_joins, it_in_tb (List.mem_of_getElem? (i := 377) (by decide +kernel)) rfl, it_in_tb (List.mem_of_getElem? (i := 379) (by decide +kernel)) rfl, it_in_tb (List.mem_of_getElem? (i := 9) (by decide +kernel)) rfl⟩
theorem ml_IcedTooSoon_Tape_62 : it_mv "IcedTooSoon$Tape" 62 it_m_X3_write 1 := ⟨mc_X3_write, it_in_tb (List.mem_of_getElem? (i := 366) (by decide +kernel)) rfl, it_in_tb (List.mem_of_getElem? (i := 368) (by decide +kernel)) rfl, it_in_tb (List.mem_of_getElem? (i := 7) (by decide +kernel)) rfl⟩
theorem ml_IcedTooSoon_Tape_66 : it_mv "IcedTooSoon$Tape" 66 it_m_X3_readInner 1 := ⟨mc_X3_readInner, it_in_tb (List.mem_of_getElem? (i := 370) (by decide +kernel)) rfl, it_in_tb (List.mem_of_getElem? (i := 372) (by decide +kernel)) rfl, it_in_tb (List.mem_of_getElem? (i := 8) (by decide +kernel)) rfl⟩
theorem ml_IcedTooSoon_Tape_69 : it_ms "IcedTooSoon$Tape" 69 it_m_X3_isName 1 := ⟨mc_X3_isName, it_in_tb (List.mem_of_getElem? (i := 374) (by decide +kernel)) rfl, it_in_tb (List.mem_of_getElem? (i := 375) (by decide +kernel)) rfl⟩
theorem ml_IcedTooSoon_Tape_78 : it_ms "IcedTooSoon$Tape" 78 it_m_X3_isLetter 1 := ⟨mc_X3_isLetter, it_in_tb (List.mem_of_getElem? (i := 272) (by decide +kernel)) rfl, it_in_tb (List.mem_of_getElem? (i := 273) (by decide +kernel)) rfl⟩
theorem ml_IcedTooSoon_Tape_81 : it_mv "IcedTooSoon$Tape" 81 it_m_X3_nextWord 0 := ⟨mc_X3_nextWord, it_in_tb (List.mem_of_getElem? (i := 275) (by decide +kernel)) rfl, it_in_tb (List.mem_of_getElem? (i := 277) (by decide +kernel)) rfl, it_in_tb (List.mem_of_getElem? (i := 1) (by decide +kernel)) rfl⟩
theorem ml_IcedTooSoon_Tape_84 : it_ms "IcedTooSoon$Tape" 84 it_m_X3_isDigit 1 := ⟨mc_X3_isDigit, it_in_tb (List.mem_of_getElem? (i := 287) (by decide +kernel)) rfl, it_in_tb (List.mem_of_getElem? (i := 288) (by decide +kernel)) rfl⟩
theorem ml_IcedTooSoon_Tape_87 : it_mv "IcedTooSoon$Tape" 87 it_m_X3_nextNumber 0 := ⟨mc_X3_nextNumber, it_in_tb (List.mem_of_getElem? (i := 290) (by decide +kernel)) rfl, it_in_tb (List.mem_of_getElem? (i := 292) (by decide +kernel)) rfl, it_in_tb (List.mem_of_getElem? (i := 3) (by decide +kernel)) rfl⟩
theorem ml_IcedTooSoon_Tape_92 : it_mv "IcedTooSoon$Tape" 92 it_m_J0_indexOf_0f7a4 1 := ⟨mc_J0_indexOf_0f7a4, it_in_tb (List.mem_of_getElem? (i := 295) (by decide +kernel)) rfl, it_in_tb (List.mem_of_getElem? (i := 296) (by decide +kernel)) rfl, it_in_tb (List.mem_of_getElem? (i := 297) (by decide +kernel)) rfl⟩
theorem ml_IcedTooSoon_Tape_98 : it_mv "IcedTooSoon$Tape" 98 it_m_X3_isWord 1 := ⟨mc_X3_isWord, it_in_tb (List.mem_of_getElem? (i := 279) (by decide +kernel)) rfl, it_in_tb (List.mem_of_getElem? (i := 281) (by decide +kernel)) rfl, it_in_tb (List.mem_of_getElem? (i := 2) (by decide +kernel)) rfl⟩
theorem ml_IcedTooSoon_Tape_106 : it_mv "IcedTooSoon$Tape" 106 it_m_J0_charAt_5068e 1 := ⟨mc_J0_charAt_5068e, it_in_tb (List.mem_of_getElem? (i := 286) (by decide +kernel)) rfl, it_in_tb (List.mem_of_getElem? (i := 223) (by decide +kernel)) rfl, it_in_tb (List.mem_of_getElem? (i := 224) (by decide +kernel)) rfl⟩
theorem ml_IcedTooSoonLaw_9 : it_mi "IcedTooSoonLaw" 9 it_m_X5_init 0 := ⟨mc_X5_init, it_in_tb (List.mem_of_getElem? (i := 73) (by decide +kernel)) rfl, it_in_tb (List.mem_of_getElem? (i := 74) (by decide +kernel)) rfl, rfl, rfl⟩
theorem ml_IcedTooSoonLaw_12 : it_mi "IcedTooSoonLaw" 12 it_m_X6_init 0 := ⟨mc_X6_init, it_in_tb (List.mem_of_getElem? (i := 811) (by decide +kernel)) rfl, it_in_tb (List.mem_of_getElem? (i := 812) (by decide +kernel)) rfl, rfl, rfl⟩
theorem ml_IcedTooSoonLaw_13 : it_mv "IcedTooSoonLaw" 13 it_m_X5_count 1 := ⟨mc_X5_count, it_in_tb (List.mem_of_getElem? (i := 445) (by decide +kernel)) rfl, it_in_tb (List.mem_of_getElem? (i := 446) (by decide +kernel)) rfl, it_in_tb (List.mem_of_getElem? (i := 447) (by decide +kernel)) rfl⟩
theorem ml_IcedTooSoonLaw_17 : it_mv "IcedTooSoonLaw" 17 it_m_X6_count 1 := ⟨mc_X6_count, it_in_tb (List.mem_of_getElem? (i := 965) (by decide +kernel)) rfl, it_in_tb (List.mem_of_getElem? (i := 966) (by decide +kernel)) rfl, it_in_tb (List.mem_of_getElem? (i := 967) (by decide +kernel)) rfl⟩
theorem ml_IcedTooSoonLaw_18 : it_mv "IcedTooSoonLaw" 18 it_m_X5_dawn 1 := ⟨mc_X5_dawn, it_in_tb (List.mem_of_getElem? (i := 461) (by decide +kernel)) rfl, it_in_tb (List.mem_of_getElem? (i := 462) (by decide +kernel)) rfl, it_in_tb (List.mem_of_getElem? (i := 463) (by decide +kernel)) rfl⟩
theorem ml_IcedTooSoonLaw_21 : it_mv "IcedTooSoonLaw" 21 it_m_X6_dawn 1 := ⟨mc_X6_dawn, it_in_tb (List.mem_of_getElem? (i := 980) (by decide +kernel)) rfl, it_in_tb (List.mem_of_getElem? (i := 981) (by decide +kernel)) rfl, it_in_tb (List.mem_of_getElem? (i := 982) (by decide +kernel)) rfl⟩
theorem ml_IcedTooSoonLaw_22 : it_mv "IcedTooSoonLaw" 22 it_m_X5_feed 6 := ⟨mc_X5_feed, it_in_tb (List.mem_of_getElem? (i := 468) (by decide +kernel)) rfl, it_in_tb (List.mem_of_getElem? (i := 469) (by decide +kernel)) rfl, it_in_tb (List.mem_of_getElem? (i := 470) (by decide +kernel)) rfl⟩
theorem ml_IcedTooSoonLaw_26 : it_mv "IcedTooSoonLaw" 26 it_m_X6_feed 6 := ⟨mc_X6_feed, it_in_tb (List.mem_of_getElem? (i := 984) (by decide +kernel)) rfl, it_in_tb (List.mem_of_getElem? (i := 985) (by decide +kernel)) rfl, it_in_tb (List.mem_of_getElem? (i := 986) (by decide +kernel)) rfl⟩
theorem ml_IcedTooSoonLaw_27 : it_mv "IcedTooSoonLaw" 27 it_m_X5_text 0 := ⟨mc_X5_text, it_in_tb (List.mem_of_getElem? (i := 475) (by decide +kernel)) rfl, it_in_tb (List.mem_of_getElem? (i := 476) (by decide +kernel)) rfl, it_in_tb (List.mem_of_getElem? (i := 477) (by decide +kernel)) rfl⟩
theorem ml_IcedTooSoonLaw_31 : it_mv "IcedTooSoonLaw" 31 it_m_X6_text 0 := ⟨mc_X6_text, it_in_tb (List.mem_of_getElem? (i := 991) (by decide +kernel)) rfl, it_in_tb (List.mem_of_getElem? (i := 816) (by decide +kernel)) rfl, it_in_tb (List.mem_of_getElem? (i := 817) (by decide +kernel)) rfl⟩
theorem ml_IcedTooSoonLaw_32 : it_mv "IcedTooSoonLaw" 32 it_m_X5_force 1 := ⟨mc_X5_force, it_in_tb (List.mem_of_getElem? (i := 479) (by decide +kernel)) rfl, it_in_tb (List.mem_of_getElem? (i := 480) (by decide +kernel)) rfl, it_in_tb (List.mem_of_getElem? (i := 481) (by decide +kernel)) rfl⟩
theorem ml_IcedTooSoonLaw_35 : it_mv "IcedTooSoonLaw" 35 it_m_X6_force 1 := ⟨mc_X6_force, it_in_tb (List.mem_of_getElem? (i := 992) (by decide +kernel)) rfl, it_in_tb (List.mem_of_getElem? (i := 993) (by decide +kernel)) rfl, it_in_tb (List.mem_of_getElem? (i := 994) (by decide +kernel)) rfl⟩
theorem ml_IcedTooSoonLaw_36 : it_mv "IcedTooSoonLaw" 36 it_m_X5_asks 2 := ⟨mc_X5_asks, it_in_tb (List.mem_of_getElem? (i := 483) (by decide +kernel)) rfl, it_in_tb (List.mem_of_getElem? (i := 484) (by decide +kernel)) rfl, it_in_tb (List.mem_of_getElem? (i := 485) (by decide +kernel)) rfl⟩
theorem ml_IcedTooSoonLaw_40 : it_mv "IcedTooSoonLaw" 40 it_m_X6_asks 2 := ⟨mc_X6_asks, it_in_tb (List.mem_of_getElem? (i := 996) (by decide +kernel)) rfl, it_in_tb (List.mem_of_getElem? (i := 997) (by decide +kernel)) rfl, it_in_tb (List.mem_of_getElem? (i := 998) (by decide +kernel)) rfl⟩
theorem ml_IcedTooSoonLaw_41 : it_mv "IcedTooSoonLaw" 41 it_m_X5_guest 2 := ⟨mc_X5_guest, it_in_tb (List.mem_of_getElem? (i := 516) (by decide +kernel)) rfl, it_in_tb (List.mem_of_getElem? (i := 517) (by decide +kernel)) rfl, it_in_tb (List.mem_of_getElem? (i := 518) (by decide +kernel)) rfl⟩
theorem ml_IcedTooSoonLaw_44 : it_mv "IcedTooSoonLaw" 44 it_m_X6_guest 2 := ⟨mc_X6_guest, it_in_tb (List.mem_of_getElem? (i := 1011) (by decide +kernel)) rfl, it_in_tb (List.mem_of_getElem? (i := 1012) (by decide +kernel)) rfl, it_in_tb (List.mem_of_getElem? (i := 1013) (by decide +kernel)) rfl⟩
theorem ml_IcedTooSoonLaw_45 : it_mv "IcedTooSoonLaw" 45 it_m_X5_order 3 := ⟨mc_X5_order, it_in_tb (List.mem_of_getElem? (i := 525) (by decide +kernel)) rfl, it_in_tb (List.mem_of_getElem? (i := 526) (by decide +kernel)) rfl, it_in_tb (List.mem_of_getElem? (i := 527) (by decide +kernel)) rfl⟩
theorem ml_IcedTooSoonLaw_49 : it_mv "IcedTooSoonLaw" 49 it_m_X6_order 3 := ⟨mc_X6_order, it_in_tb (List.mem_of_getElem? (i := 1015) (by decide +kernel)) rfl, it_in_tb (List.mem_of_getElem? (i := 1016) (by decide +kernel)) rfl, it_in_tb (List.mem_of_getElem? (i := 1017) (by decide +kernel)) rfl⟩
theorem ml_IcedTooSoonLaw_50 : it_mv "IcedTooSoonLaw" 50 it_m_X5_put 3 := ⟨mc_X5_put, it_in_tb (List.mem_of_getElem? (i := 540) (by decide +kernel)) rfl, it_in_tb (List.mem_of_getElem? (i := 541) (by decide +kernel)) rfl, it_in_tb (List.mem_of_getElem? (i := 542) (by decide +kernel)) rfl⟩
theorem ml_IcedTooSoonLaw_53 : it_mv "IcedTooSoonLaw" 53 it_m_X6_put 3 := ⟨mc_X6_put, it_in_tb (List.mem_of_getElem? (i := 1031) (by decide +kernel)) rfl, it_in_tb (List.mem_of_getElem? (i := 1032) (by decide +kernel)) rfl, it_in_tb (List.mem_of_getElem? (i := 1033) (by decide +kernel)) rfl⟩
theorem ml_IcedTooSoonLaw_54 : it_mv "IcedTooSoonLaw" 54 it_m_X5_told 2 := ⟨mc_X5_told, it_in_tb (List.mem_of_getElem? (i := 548) (by decide +kernel)) rfl, it_in_tb (List.mem_of_getElem? (i := 549) (by decide +kernel)) rfl, it_in_tb (List.mem_of_getElem? (i := 550) (by decide +kernel)) rfl⟩
theorem ml_IcedTooSoonLaw_57 : it_mv "IcedTooSoonLaw" 57 it_m_X6_told 2 := ⟨mc_X6_told, it_in_tb (List.mem_of_getElem? (i := 1035) (by decide +kernel)) rfl, it_in_tb (List.mem_of_getElem? (i := 1036) (by decide +kernel)) rfl, it_in_tb (List.mem_of_getElem? (i := 1037) (by decide +kernel)) rfl⟩
theorem ml_IcedTooSoonLaw_58 : it_mv "IcedTooSoonLaw" 58 it_m_X5_glass 2 := ⟨mc_X5_glass, it_in_tb (List.mem_of_getElem? (i := 590) (by decide +kernel)) rfl, it_in_tb (List.mem_of_getElem? (i := 591) (by decide +kernel)) rfl, it_in_tb (List.mem_of_getElem? (i := 592) (by decide +kernel)) rfl⟩
theorem ml_IcedTooSoonLaw_61 : it_mv "IcedTooSoonLaw" 61 it_m_X6_glass 2 := ⟨mc_X6_glass, it_in_tb (List.mem_of_getElem? (i := 1067) (by decide +kernel)) rfl, it_in_tb (List.mem_of_getElem? (i := 1068) (by decide +kernel)) rfl, it_in_tb (List.mem_of_getElem? (i := 1069) (by decide +kernel)) rfl⟩
theorem ml_IcedTooSoonLaw_62 : it_mv "IcedTooSoonLaw" 62 it_m_X5_day 0 := ⟨mc_X5_day, it_in_tb (List.mem_of_getElem? (i := 597) (by decide +kernel)) rfl, it_in_tb (List.mem_of_getElem? (i := 598) (by decide +kernel)) rfl, it_in_tb (List.mem_of_getElem? (i := 599) (by decide +kernel)) rfl⟩
theorem ml_IcedTooSoonLaw_65 : it_mv "IcedTooSoonLaw" 65 it_m_X6_day 0 := ⟨mc_X6_day, it_in_tb (List.mem_of_getElem? (i := 1071) (by decide +kernel)) rfl, it_in_tb (List.mem_of_getElem? (i := 1072) (by decide +kernel)) rfl, it_in_tb (List.mem_of_getElem? (i := 1073) (by decide +kernel)) rfl⟩
theorem ml_IcedTooSoonLaw_66 : it_mv "IcedTooSoonLaw" 66 it_m_X5_iced 2 := ⟨mc_X5_iced, it_in_tb (List.mem_of_getElem? (i := 601) (by decide +kernel)) rfl, it_in_tb (List.mem_of_getElem? (i := 602) (by decide +kernel)) rfl, it_in_tb (List.mem_of_getElem? (i := 603) (by decide +kernel)) rfl⟩
theorem ml_IcedTooSoonLaw_69 : it_mv "IcedTooSoonLaw" 69 it_m_X6_iced 2 := ⟨mc_X6_iced, it_in_tb (List.mem_of_getElem? (i := 1075) (by decide +kernel)) rfl, it_in_tb (List.mem_of_getElem? (i := 1076) (by decide +kernel)) rfl, it_in_tb (List.mem_of_getElem? (i := 1077) (by decide +kernel)) rfl⟩
theorem ml_IcedTooSoonLaw_70 : it_mv "IcedTooSoonLaw" 70 it_m_X5_spill 1 := ⟨mc_X5_spill, it_in_tb (List.mem_of_getElem? (i := 609) (by decide +kernel)) rfl, it_in_tb (List.mem_of_getElem? (i := 610) (by decide +kernel)) rfl, it_in_tb (List.mem_of_getElem? (i := 611) (by decide +kernel)) rfl⟩
theorem ml_IcedTooSoonLaw_73 : it_mv "IcedTooSoonLaw" 73 it_m_X6_spill 1 := ⟨mc_X6_spill, it_in_tb (List.mem_of_getElem? (i := 1079) (by decide +kernel)) rfl, it_in_tb (List.mem_of_getElem? (i := 1080) (by decide +kernel)) rfl, it_in_tb (List.mem_of_getElem? (i := 1081) (by decide +kernel)) rfl⟩
theorem ml_IcedTooSoonLaw_74 : it_mv "IcedTooSoonLaw" 74 it_m_X5_run 2 := ⟨mc_X5_run, it_in_tb (List.mem_of_getElem? (i := 614) (by decide +kernel)) rfl, it_in_tb (List.mem_of_getElem? (i := 615) (by decide +kernel)) rfl, it_in_tb (List.mem_of_getElem? (i := 616) (by decide +kernel)) rfl⟩
theorem ml_IcedTooSoonLaw_77 : it_mv "IcedTooSoonLaw" 77 it_m_X6_run 2 := ⟨mc_X6_run, it_in_tb (List.mem_of_getElem? (i := 1083) (by decide +kernel)) rfl, it_in_tb (List.mem_of_getElem? (i := 1084) (by decide +kernel)) rfl, it_in_tb (List.mem_of_getElem? (i := 1085) (by decide +kernel)) rfl⟩
theorem ml_IcedTooSoonLaw_78 : it_mv "IcedTooSoonLaw" 78 it_m_X5_goesOff 1 := ⟨mc_X5_goesOff, it_in_tb (List.mem_of_getElem? (i := 630) (by decide +kernel)) rfl, it_in_tb (List.mem_of_getElem? (i := 631) (by decide +kernel)) rfl, it_in_tb (List.mem_of_getElem? (i := 632) (by decide +kernel)) rfl⟩
theorem ml_IcedTooSoonLaw_81 : it_mv "IcedTooSoonLaw" 81 it_m_X6_goesOff 1 := ⟨mc_X6_goesOff, it_in_tb (List.mem_of_getElem? (i := 1100) (by decide +kernel)) rfl, it_in_tb (List.mem_of_getElem? (i := 1101) (by decide +kernel)) rfl, it_in_tb (List.mem_of_getElem? (i := 1102) (by decide +kernel)) rfl⟩
theorem ml_IcedTooSoonLaw_82 : it_mv "IcedTooSoonLaw" 82 it_m_X5_worst 3 := ⟨mc_X5_worst, it_in_tb (List.mem_of_getElem? (i := 634) (by decide +kernel)) rfl, it_in_tb (List.mem_of_getElem? (i := 635) (by decide +kernel)) rfl, it_in_tb (List.mem_of_getElem? (i := 636) (by decide +kernel)) rfl⟩
theorem ml_IcedTooSoonLaw_85 : it_mv "IcedTooSoonLaw" 85 it_m_X6_worst 3 := ⟨mc_X6_worst, it_in_tb (List.mem_of_getElem? (i := 1104) (by decide +kernel)) rfl, it_in_tb (List.mem_of_getElem? (i := 1105) (by decide +kernel)) rfl, it_in_tb (List.mem_of_getElem? (i := 1106) (by decide +kernel)) rfl⟩
theorem ml_IcedTooSoonLaw_86 : it_mv "IcedTooSoonLaw" 86 it_m_X5_falls 2 := ⟨mc_X5_falls, it_in_tb (List.mem_of_getElem? (i := 638) (by decide +kernel)) rfl, it_in_tb (List.mem_of_getElem? (i := 639) (by decide +kernel)) rfl, it_in_tb (List.mem_of_getElem? (i := 640) (by decide +kernel)) rfl⟩
theorem ml_IcedTooSoonLaw_89 : it_mv "IcedTooSoonLaw" 89 it_m_X6_falls 2 := ⟨mc_X6_falls, it_in_tb (List.mem_of_getElem? (i := 1108) (by decide +kernel)) rfl, it_in_tb (List.mem_of_getElem? (i := 1109) (by decide +kernel)) rfl, it_in_tb (List.mem_of_getElem? (i := 1110) (by decide +kernel)) rfl⟩
theorem ml_IcedTooSoonLaw_90 : it_mv "IcedTooSoonLaw" 90 it_m_X5_again 3 := ⟨mc_X5_again, it_in_tb (List.mem_of_getElem? (i := 646) (by decide +kernel)) rfl, it_in_tb (List.mem_of_getElem? (i := 647) (by decide +kernel)) rfl, it_in_tb (List.mem_of_getElem? (i := 648) (by decide +kernel)) rfl⟩
theorem ml_IcedTooSoonLaw_93 : it_mv "IcedTooSoonLaw" 93 it_m_X6_again 3 := ⟨mc_X6_again, it_in_tb (List.mem_of_getElem? (i := 1116) (by decide +kernel)) rfl, it_in_tb (List.mem_of_getElem? (i := 1117) (by decide +kernel)) rfl, it_in_tb (List.mem_of_getElem? (i := 1118) (by decide +kernel)) rfl⟩
theorem ml_IcedTooSoonLaw_94 : it_mv "IcedTooSoonLaw" 94 it_m_X5_spilt 2 := ⟨mc_X5_spilt, it_in_tb (List.mem_of_getElem? (i := 654) (by decide +kernel)) rfl, it_in_tb (List.mem_of_getElem? (i := 655) (by decide +kernel)) rfl, it_in_tb (List.mem_of_getElem? (i := 656) (by decide +kernel)) rfl⟩
theorem ml_IcedTooSoonLaw_97 : it_mv "IcedTooSoonLaw" 97 it_m_X6_spilt 2 := ⟨mc_X6_spilt, it_in_tb (List.mem_of_getElem? (i := 1124) (by decide +kernel)) rfl, it_in_tb (List.mem_of_getElem? (i := 1125) (by decide +kernel)) rfl, it_in_tb (List.mem_of_getElem? (i := 1126) (by decide +kernel)) rfl⟩
theorem ml_IcedTooSoonLaw_98 : it_mv "IcedTooSoonLaw" 98 it_m_X5_round 3 := ⟨mc_X5_round, it_in_tb (List.mem_of_getElem? (i := 662) (by decide +kernel)) rfl, it_in_tb (List.mem_of_getElem? (i := 663) (by decide +kernel)) rfl, it_in_tb (List.mem_of_getElem? (i := 664) (by decide +kernel)) rfl⟩
theorem ml_IcedTooSoonLaw_101 : it_mv "IcedTooSoonLaw" 101 it_m_X6_round 3 := ⟨mc_X6_round, it_in_tb (List.mem_of_getElem? (i := 1128) (by decide +kernel)) rfl, it_in_tb (List.mem_of_getElem? (i := 1129) (by decide +kernel)) rfl, it_in_tb (List.mem_of_getElem? (i := 1130) (by decide +kernel)) rfl⟩
theorem ml_IcedTooSoonLaw_102 : it_mv "IcedTooSoonLaw" 102 it_m_X5_mean 1 := ⟨mc_X5_mean, it_in_tb (List.mem_of_getElem? (i := 679) (by decide +kernel)) rfl, it_in_tb (List.mem_of_getElem? (i := 680) (by decide +kernel)) rfl, it_in_tb (List.mem_of_getElem? (i := 681) (by decide +kernel)) rfl⟩
theorem ml_IcedTooSoonLaw_106 : it_mv "IcedTooSoonLaw" 106 it_m_X6_mean 1 := ⟨mc_X6_mean, it_in_tb (List.mem_of_getElem? (i := 1140) (by decide +kernel)) rfl, it_in_tb (List.mem_of_getElem? (i := 1141) (by decide +kernel)) rfl, it_in_tb (List.mem_of_getElem? (i := 1142) (by decide +kernel)) rfl⟩
theorem ml_IcedTooSoonLaw_107 : it_mv "IcedTooSoonLaw" 107 it_m_X5_judge 2 := ⟨mc_X5_judge, it_in_tb (List.mem_of_getElem? (i := 694) (by decide +kernel)) rfl, it_in_tb (List.mem_of_getElem? (i := 695) (by decide +kernel)) rfl, it_in_tb (List.mem_of_getElem? (i := 696) (by decide +kernel)) rfl⟩
theorem ml_IcedTooSoonLaw_110 : it_mv "IcedTooSoonLaw" 110 it_m_X6_judge 2 := ⟨mc_X6_judge, it_in_tb (List.mem_of_getElem? (i := 1148) (by decide +kernel)) rfl, it_in_tb (List.mem_of_getElem? (i := 1149) (by decide +kernel)) rfl, it_in_tb (List.mem_of_getElem? (i := 1150) (by decide +kernel)) rfl⟩
theorem ml_IcedTooSoonLaw_111 : it_mv "IcedTooSoonLaw" 111 it_m_X5_kinds 3 := ⟨mc_X5_kinds, it_in_tb (List.mem_of_getElem? (i := 713) (by decide +kernel)) rfl, it_in_tb (List.mem_of_getElem? (i := 714) (by decide +kernel)) rfl, it_in_tb (List.mem_of_getElem? (i := 715) (by decide +kernel)) rfl⟩
theorem ml_IcedTooSoonLaw_114 : it_mv "IcedTooSoonLaw" 114 it_m_X6_kinds 3 := ⟨mc_X6_kinds, it_in_tb (List.mem_of_getElem? (i := 1164) (by decide +kernel)) rfl, it_in_tb (List.mem_of_getElem? (i := 1165) (by decide +kernel)) rfl, it_in_tb (List.mem_of_getElem? (i := 1166) (by decide +kernel)) rfl⟩
theorem ml_IcedTooSoonLaw_115 : it_mv "IcedTooSoonLaw" 115 it_m_X5_states 4 := ⟨mc_X5_states, it_in_tb (List.mem_of_getElem? (i := 721) (by decide +kernel)) rfl, it_in_tb (List.mem_of_getElem? (i := 722) (by decide +kernel)) rfl, it_in_tb (List.mem_of_getElem? (i := 723) (by decide +kernel)) rfl⟩
theorem ml_IcedTooSoonLaw_119 : it_mv "IcedTooSoonLaw" 119 it_m_X6_states 4 := ⟨mc_X6_states, it_in_tb (List.mem_of_getElem? (i := 1168) (by decide +kernel)) rfl, it_in_tb (List.mem_of_getElem? (i := 1169) (by decide +kernel)) rfl, it_in_tb (List.mem_of_getElem? (i := 1170) (by decide +kernel)) rfl⟩
theorem ml_IcedTooSoonLaw_120 : it_mv "IcedTooSoonLaw" 120 it_m_X5_owners 2 := ⟨mc_X5_owners, it_in_tb (List.mem_of_getElem? (i := 725) (by decide +kernel)) rfl, it_in_tb (List.mem_of_getElem? (i := 726) (by decide +kernel)) rfl, it_in_tb (List.mem_of_getElem? (i := 727) (by decide +kernel)) rfl⟩
theorem ml_IcedTooSoonLaw_123 : it_mv "IcedTooSoonLaw" 123 it_m_X6_owners 2 := ⟨mc_X6_owners, it_in_tb (List.mem_of_getElem? (i := 1172) (by decide +kernel)) rfl, it_in_tb (List.mem_of_getElem? (i := 1173) (by decide +kernel)) rfl, it_in_tb (List.mem_of_getElem? (i := 1174) (by decide +kernel)) rfl⟩
theorem ml_IcedTooSoonLaw_124 : it_mv "IcedTooSoonLaw" 124 it_m_X5_who 1 := ⟨mc_X5_who, it_in_tb (List.mem_of_getElem? (i := 729) (by decide +kernel)) rfl, it_in_tb (List.mem_of_getElem? (i := 730) (by decide +kernel)) rfl, it_in_tb (List.mem_of_getElem? (i := 731) (by decide +kernel)) rfl⟩
theorem ml_IcedTooSoonLaw_127 : it_mv "IcedTooSoonLaw" 127 it_m_X6_who 1 := ⟨mc_X6_who, it_in_tb (List.mem_of_getElem? (i := 1176) (by decide +kernel)) rfl, it_in_tb (List.mem_of_getElem? (i := 1177) (by decide +kernel)) rfl, it_in_tb (List.mem_of_getElem? (i := 1178) (by decide +kernel)) rfl⟩
theorem ml_IcedTooSoonLaw_128 : it_mv "IcedTooSoonLaw" 128 it_m_X5_laws 2 := ⟨mc_X5_laws, it_in_tb (List.mem_of_getElem? (i := 733) (by decide +kernel)) rfl, it_in_tb (List.mem_of_getElem? (i := 734) (by decide +kernel)) rfl, it_in_tb (List.mem_of_getElem? (i := 735) (by decide +kernel)) rfl⟩
theorem ml_IcedTooSoonLaw_131 : it_mv "IcedTooSoonLaw" 131 it_m_X6_laws 2 := ⟨mc_X6_laws, it_in_tb (List.mem_of_getElem? (i := 1180) (by decide +kernel)) rfl, it_in_tb (List.mem_of_getElem? (i := 1181) (by decide +kernel)) rfl, it_in_tb (List.mem_of_getElem? (i := 1182) (by decide +kernel)) rfl⟩
theorem ml_IcedTooSoonLaw_132 : it_mv "IcedTooSoonLaw" 132 it_m_X5_film 3 := ⟨mc_X5_film, it_in_tb (List.mem_of_getElem? (i := 737) (by decide +kernel)) rfl, it_in_tb (List.mem_of_getElem? (i := 738) (by decide +kernel)) rfl, it_in_tb (List.mem_of_getElem? (i := 739) (by decide +kernel)) rfl⟩
theorem ml_IcedTooSoonLaw_135 : it_mv "IcedTooSoonLaw" 135 it_m_X6_film 3 := ⟨mc_X6_film, it_in_tb (List.mem_of_getElem? (i := 1184) (by decide +kernel)) rfl, it_in_tb (List.mem_of_getElem? (i := 1185) (by decide +kernel)) rfl, it_in_tb (List.mem_of_getElem? (i := 1186) (by decide +kernel)) rfl⟩
theorem ml_IcedTooSoonLaw_136 : it_mv "IcedTooSoonLaw" 136 it_m_X5_drawn 2 := ⟨mc_X5_drawn, it_in_tb (List.mem_of_getElem? (i := 750) (by decide +kernel)) rfl, it_in_tb (List.mem_of_getElem? (i := 751) (by decide +kernel)) rfl, it_in_tb (List.mem_of_getElem? (i := 752) (by decide +kernel)) rfl⟩
theorem ml_IcedTooSoonLaw_139 : it_mv "IcedTooSoonLaw" 139 it_m_X6_drawn 2 := ⟨mc_X6_drawn, it_in_tb (List.mem_of_getElem? (i := 1188) (by decide +kernel)) rfl, it_in_tb (List.mem_of_getElem? (i := 1189) (by decide +kernel)) rfl, it_in_tb (List.mem_of_getElem? (i := 1190) (by decide +kernel)) rfl⟩
theorem ml_IcedTooSoonLaw_140 : it_mv "IcedTooSoonLaw" 140 it_m_X5_odds 4 := ⟨mc_X5_odds, it_in_tb (List.mem_of_getElem? (i := 767) (by decide +kernel)) rfl, it_in_tb (List.mem_of_getElem? (i := 768) (by decide +kernel)) rfl, it_in_tb (List.mem_of_getElem? (i := 769) (by decide +kernel)) rfl⟩
theorem ml_IcedTooSoonLaw_144 : it_mv "IcedTooSoonLaw" 144 it_m_X6_odds 4 := ⟨mc_X6_odds, it_in_tb (List.mem_of_getElem? (i := 1202) (by decide +kernel)) rfl, it_in_tb (List.mem_of_getElem? (i := 1203) (by decide +kernel)) rfl, it_in_tb (List.mem_of_getElem? (i := 1204) (by decide +kernel)) rfl⟩
theorem ml_IcedTooSoonLaw_145 : it_mv "IcedTooSoonLaw" 145 it_m_X5_image 0 := ⟨mc_X5_image, it_in_tb (List.mem_of_getElem? (i := 771) (by decide +kernel)) rfl, it_in_tb (List.mem_of_getElem? (i := 772) (by decide +kernel)) rfl, it_in_tb (List.mem_of_getElem? (i := 773) (by decide +kernel)) rfl⟩
theorem ml_IcedTooSoonLaw_148 : it_mv "IcedTooSoonLaw" 148 it_m_X6_image 0 := ⟨mc_X6_image, it_in_tb (List.mem_of_getElem? (i := 1206) (by decide +kernel)) rfl, it_in_tb (List.mem_of_getElem? (i := 1207) (by decide +kernel)) rfl, it_in_tb (List.mem_of_getElem? (i := 1208) (by decide +kernel)) rfl⟩
theorem ml_IcedTooSoonLaw_149 : it_mv "IcedTooSoonLaw" 149 it_m_X5_back 0 := ⟨mc_X5_back, it_in_tb (List.mem_of_getElem? (i := 775) (by decide +kernel)) rfl, it_in_tb (List.mem_of_getElem? (i := 776) (by decide +kernel)) rfl, it_in_tb (List.mem_of_getElem? (i := 777) (by decide +kernel)) rfl⟩
theorem ml_IcedTooSoonLaw_152 : it_mv "IcedTooSoonLaw" 152 it_m_X6_back 0 := ⟨mc_X6_back, it_in_tb (List.mem_of_getElem? (i := 1210) (by decide +kernel)) rfl, it_in_tb (List.mem_of_getElem? (i := 1211) (by decide +kernel)) rfl, it_in_tb (List.mem_of_getElem? (i := 1212) (by decide +kernel)) rfl⟩
theorem ml_IcedTooSoonLaw_153 : it_mv "IcedTooSoonLaw" 153 it_m_X5_sheet 3 := ⟨mc_X5_sheet, it_in_tb (List.mem_of_getElem? (i := 779) (by decide +kernel)) rfl, it_in_tb (List.mem_of_getElem? (i := 780) (by decide +kernel)) rfl, it_in_tb (List.mem_of_getElem? (i := 781) (by decide +kernel)) rfl⟩
theorem ml_IcedTooSoonLaw_156 : it_mv "IcedTooSoonLaw" 156 it_m_X6_sheet 3 := ⟨mc_X6_sheet, it_in_tb (List.mem_of_getElem? (i := 1214) (by decide +kernel)) rfl, it_in_tb (List.mem_of_getElem? (i := 1215) (by decide +kernel)) rfl, it_in_tb (List.mem_of_getElem? (i := 1216) (by decide +kernel)) rfl⟩
theorem ml_IcedTooSoonLaw_157 : it_mv "IcedTooSoonLaw" 157 it_m_X5_cell 3 := ⟨mc_X5_cell, it_in_tb (List.mem_of_getElem? (i := 783) (by decide +kernel)) rfl, it_in_tb (List.mem_of_getElem? (i := 784) (by decide +kernel)) rfl, it_in_tb (List.mem_of_getElem? (i := 785) (by decide +kernel)) rfl⟩
theorem ml_IcedTooSoonLaw_160 : it_mv "IcedTooSoonLaw" 160 it_m_X6_cell 3 := ⟨mc_X6_cell, it_in_tb (List.mem_of_getElem? (i := 1218) (by decide +kernel)) rfl, it_in_tb (List.mem_of_getElem? (i := 1219) (by decide +kernel)) rfl, it_in_tb (List.mem_of_getElem? (i := 1220) (by decide +kernel)) rfl⟩
theorem ml_IcedTooSoonLaw_161 : it_mv "IcedTooSoonLaw" 161 it_m_X5_copy 5 := ⟨mc_X5_copy, it_in_tb (List.mem_of_getElem? (i := 791) (by decide +kernel)) rfl, it_in_tb (List.mem_of_getElem? (i := 792) (by decide +kernel)) rfl, it_in_tb (List.mem_of_getElem? (i := 793) (by decide +kernel)) rfl⟩
theorem ml_IcedTooSoonLaw_165 : it_mv "IcedTooSoonLaw" 165 it_m_X6_copy 5 := ⟨mc_X6_copy, it_in_tb (List.mem_of_getElem? (i := 1222) (by decide +kernel)) rfl, it_in_tb (List.mem_of_getElem? (i := 1223) (by decide +kernel)) rfl, it_in_tb (List.mem_of_getElem? (i := 1224) (by decide +kernel)) rfl⟩
theorem ml_IcedTooSoonLaw_166 : it_mv "IcedTooSoonLaw" 166 it_m_X5_guestsBy 4 := ⟨mc_X5_guestsBy, it_in_tb (List.mem_of_getElem? (i := 796) (by decide +kernel)) rfl, it_in_tb (List.mem_of_getElem? (i := 797) (by decide +kernel)) rfl, it_in_tb (List.mem_of_getElem? (i := 798) (by decide +kernel)) rfl⟩
theorem ml_IcedTooSoonLaw_169 : it_mv "IcedTooSoonLaw" 169 it_m_X6_guestsBy 4 := ⟨mc_X6_guestsBy, it_in_tb (List.mem_of_getElem? (i := 1226) (by decide +kernel)) rfl, it_in_tb (List.mem_of_getElem? (i := 1227) (by decide +kernel)) rfl, it_in_tb (List.mem_of_getElem? (i := 1228) (by decide +kernel)) rfl⟩
theorem ml_IcedTooSoonLaw_170 : it_mv "IcedTooSoonLaw" 170 it_m_X5_taken 2 := ⟨mc_X5_taken, it_in_tb (List.mem_of_getElem? (i := 800) (by decide +kernel)) rfl, it_in_tb (List.mem_of_getElem? (i := 801) (by decide +kernel)) rfl, it_in_tb (List.mem_of_getElem? (i := 802) (by decide +kernel)) rfl⟩
theorem ml_IcedTooSoonLaw_173 : it_mv "IcedTooSoonLaw" 173 it_m_X6_taken 2 := ⟨mc_X6_taken, it_in_tb (List.mem_of_getElem? (i := 1231) (by decide +kernel)) rfl, it_in_tb (List.mem_of_getElem? (i := 1232) (by decide +kernel)) rfl, it_in_tb (List.mem_of_getElem? (i := 1233) (by decide +kernel)) rfl⟩
theorem ml_IcedTooSoonModel_71 : it_mv "IcedTooSoonModel" 71 it_m_X6_text 0 := ⟨mc_X6_text, it_in_tb (List.mem_of_getElem? (i := 815) (by decide +kernel)) rfl, it_in_tb (List.mem_of_getElem? (i := 816) (by decide +kernel)) rfl, it_in_tb (List.mem_of_getElem? (i := 817) (by decide +kernel)) rfl⟩
theorem ml_IcedTooSoonModel_78 : it_ms "IcedTooSoonModel" 78 it_m_X6_in 3 := ⟨mc_X6_in, it_in_tb (List.mem_of_getElem? (i := 823) (by decide +kernel)) rfl, it_in_tb (List.mem_of_getElem? (i := 824) (by decide +kernel)) rfl⟩
theorem ml_IcedTooSoonModel_82 : it_ms "IcedTooSoonModel" 82 it_m_X6_within 3 := ⟨mc_X6_within, it_in_tb (List.mem_of_getElem? (i := 977) (by decide +kernel)) rfl, it_in_tb (List.mem_of_getElem? (i := 978) (by decide +kernel)) rfl⟩
theorem ml_IcedTooSoonModel_86 : it_mv "IcedTooSoonModel" 86 it_m_X6_isThere 1 := ⟨mc_X6_isThere, it_in_tb (List.mem_of_getElem? (i := 973) (by decide +kernel)) rfl, it_in_tb (List.mem_of_getElem? (i := 975) (by decide +kernel)) rfl, it_in_tb (List.mem_of_getElem? (i := 30) (by decide +kernel)) rfl⟩
theorem ml_IcedTooSoonModel_90 : it_mv "IcedTooSoonModel" 90 it_m_X6_many 0 := ⟨mc_X6_many, it_in_tb (List.mem_of_getElem? (i := 969) (by decide +kernel)) rfl, it_in_tb (List.mem_of_getElem? (i := 971) (by decide +kernel)) rfl, it_in_tb (List.mem_of_getElem? (i := 29) (by decide +kernel)) rfl⟩
theorem ml_IcedTooSoonModel_102 : it_ms "IcedTooSoonModel" 102 it_m_X6_isByte 1 := ⟨mc_X6_isByte, it_in_tb (List.mem_of_getElem? (i := 988) (by decide +kernel)) rfl, it_in_tb (List.mem_of_getElem? (i := 989) (by decide +kernel)) rfl⟩
theorem ml_IcedTooSoonModel_117 : it_mv "IcedTooSoonModel" 117 it_m_X6_wordFrom 2 := ⟨mc_X6_wordFrom, it_in_tb (List.mem_of_getElem? (i := 826) (by decide +kernel)) rfl, it_in_tb (List.mem_of_getElem? (i := 828) (by decide +kernel)) rfl, it_in_tb (List.mem_of_getElem? (i := 21) (by decide +kernel)) rfl⟩
theorem ml_IcedTooSoonModel_127 : it_ms "IcedTooSoonModel" 127 it_m_X6_rank 1 := ⟨mc_X6_rank, it_in_tb (List.mem_of_getElem? (i := 843) (by decide +kernel)) rfl, it_in_tb (List.mem_of_getElem? (i := 844) (by decide +kernel)) rfl⟩
theorem ml_IcedTooSoonModel_134 : it_mv "IcedTooSoonModel" 134 it_m_X6_puts 1 := ⟨mc_X6_puts, it_in_tb (List.mem_of_getElem? (i := 835) (by decide +kernel)) rfl, it_in_tb (List.mem_of_getElem? (i := 837) (by decide +kernel)) rfl, it_in_tb (List.mem_of_getElem? (i := 23) (by decide +kernel)) rfl⟩
theorem ml_IcedTooSoonModel_138 : it_mv "IcedTooSoonModel" 138 it_m_X6_holds 1 := ⟨mc_X6_holds, it_in_tb (List.mem_of_getElem? (i := 850) (by decide +kernel)) rfl, it_in_tb (List.mem_of_getElem? (i := 852) (by decide +kernel)) rfl, it_in_tb (List.mem_of_getElem? (i := 26) (by decide +kernel)) rfl⟩
theorem ml_IcedTooSoonModel_141 : it_mv "IcedTooSoonModel" 141 it_m_X6_unwinds 1 := ⟨mc_X6_unwinds, it_in_tb (List.mem_of_getElem? (i := 839) (by decide +kernel)) rfl, it_in_tb (List.mem_of_getElem? (i := 841) (by decide +kernel)) rfl, it_in_tb (List.mem_of_getElem? (i := 24) (by decide +kernel)) rfl⟩
theorem ml_IcedTooSoonModel_144 : it_mv "IcedTooSoonModel" 144 it_m_X6_next 0 := ⟨mc_X6_next, it_in_tb (List.mem_of_getElem? (i := 819) (by decide +kernel)) rfl, it_in_tb (List.mem_of_getElem? (i := 821) (by decide +kernel)) rfl, it_in_tb (List.mem_of_getElem? (i := 20) (by decide +kernel)) rfl⟩
theorem ml_IcedTooSoonModel_148 : it_mv "IcedTooSoonModel" 148 it_m_X6_opensOne 1 := ⟨mc_X6_opensOne, it_in_tb (List.mem_of_getElem? (i := 846) (by decide +kernel)) rfl, it_in_tb (List.mem_of_getElem? (i := 848) (by decide +kernel)) rfl, it_in_tb (List.mem_of_getElem? (i := 25) (by decide +kernel)) rfl⟩
theorem ml_IcedTooSoonModel_151 : it_mv "IcedTooSoonModel" 151 it_m_X6_signOf 0 := ⟨mc_X6_signOf, it_in_tb (List.mem_of_getElem? (i := 854) (by decide +kernel)) rfl, it_in_tb (List.mem_of_getElem? (i := 856) (by decide +kernel)) rfl, it_in_tb (List.mem_of_getElem? (i := 27) (by decide +kernel)) rfl⟩
theorem ml_IcedTooSoonModel_154 : it_mv "IcedTooSoonModel" 154 it_m_X6_between 1 := ⟨mc_X6_between, it_in_tb (List.mem_of_getElem? (i := 858) (by decide +kernel)) rfl, it_in_tb (List.mem_of_getElem? (i := 860) (by decide +kernel)) rfl, it_in_tb (List.mem_of_getElem? (i := 28) (by decide +kernel)) rfl⟩
theorem ml_IcedTooSoonModel_157 : it_mv "IcedTooSoonModel" 157 it_m_X6_eRead 0 := ⟨mc_X6_eRead, it_in_tb (List.mem_of_getElem? (i := 830) (by decide +kernel)) rfl, it_in_tb (List.mem_of_getElem? (i := 832) (by decide +kernel)) rfl, it_in_tb (List.mem_of_getElem? (i := 22) (by decide +kernel)) rfl⟩
theorem ml_IcedTooSoonModel_161 : it_ms "IcedTooSoonModel" 161 it_m_X6_two 3 := ⟨mc_X6_two, it_in_tb (List.mem_of_getElem? (i := 1008) (by decide +kernel)) rfl, it_in_tb (List.mem_of_getElem? (i := 1009) (by decide +kernel)) rfl⟩
theorem ml_IcedTooSoonModel_164 : it_mv "IcedTooSoonModel" 164 it_m_X6_says 1 := ⟨mc_X6_says, it_in_tb (List.mem_of_getElem? (i := 1004) (by decide +kernel)) rfl, it_in_tb (List.mem_of_getElem? (i := 1006) (by decide +kernel)) rfl, it_in_tb (List.mem_of_getElem? (i := 32) (by decide +kernel)) rfl⟩
theorem ml_IcedTooSoonModel_167 : it_mv "IcedTooSoonModel" 167 it_m_X6_asksOf 2 := ⟨mc_X6_asksOf, it_in_tb (List.mem_of_getElem? (i := 1000) (by decide +kernel)) rfl, it_in_tb (List.mem_of_getElem? (i := 1002) (by decide +kernel)) rfl, it_in_tb (List.mem_of_getElem? (i := 31) (by decide +kernel)) rfl⟩
theorem ml_IcedTooSoonModel_170 : it_mv "IcedTooSoonModel" 170 it_m_X6_chillsOf 1 := ⟨mc_X6_chillsOf, it_in_tb (List.mem_of_getElem? (i := 1027) (by decide +kernel)) rfl, it_in_tb (List.mem_of_getElem? (i := 1029) (by decide +kernel)) rfl, it_in_tb (List.mem_of_getElem? (i := 35) (by decide +kernel)) rfl⟩
theorem ml_IcedTooSoonModel_173 : it_mv "IcedTooSoonModel" 173 it_m_X6_isOne 1 := ⟨mc_X6_isOne, it_in_tb (List.mem_of_getElem? (i := 1019) (by decide +kernel)) rfl, it_in_tb (List.mem_of_getElem? (i := 1021) (by decide +kernel)) rfl, it_in_tb (List.mem_of_getElem? (i := 33) (by decide +kernel)) rfl⟩
theorem ml_IcedTooSoonModel_176 : it_mv "IcedTooSoonModel" 176 it_m_X6_ordered 3 := ⟨mc_X6_ordered, it_in_tb (List.mem_of_getElem? (i := 1023) (by decide +kernel)) rfl, it_in_tb (List.mem_of_getElem? (i := 1025) (by decide +kernel)) rfl, it_in_tb (List.mem_of_getElem? (i := 34) (by decide +kernel)) rfl⟩
theorem ml_IcedTooSoonModel_179 : it_mv "IcedTooSoonModel" 179 it_m_X6_glassesOf 1 := ⟨mc_X6_glassesOf, it_in_tb (List.mem_of_getElem? (i := 1039) (by decide +kernel)) rfl, it_in_tb (List.mem_of_getElem? (i := 1041) (by decide +kernel)) rfl, it_in_tb (List.mem_of_getElem? (i := 36) (by decide +kernel)) rfl⟩
theorem ml_IcedTooSoonModel_182 : it_mv "IcedTooSoonModel" 182 it_m_X6_firstOff 1 := ⟨mc_X6_firstOff, it_in_tb (List.mem_of_getElem? (i := 1043) (by decide +kernel)) rfl, it_in_tb (List.mem_of_getElem? (i := 1045) (by decide +kernel)) rfl, it_in_tb (List.mem_of_getElem? (i := 37) (by decide +kernel)) rfl⟩
theorem ml_IcedTooSoonModel_185 : it_mv "IcedTooSoonModel" 185 it_m_X6_meltsOf 1 := ⟨mc_X6_meltsOf, it_in_tb (List.mem_of_getElem? (i := 1055) (by decide +kernel)) rfl, it_in_tb (List.mem_of_getElem? (i := 1057) (by decide +kernel)) rfl, it_in_tb (List.mem_of_getElem? (i := 40) (by decide +kernel)) rfl⟩
theorem ml_IcedTooSoonModel_188 : it_mv "IcedTooSoonModel" 188 it_m_X6_feelsOf 1 := ⟨mc_X6_feelsOf, it_in_tb (List.mem_of_getElem? (i := 1059) (by decide +kernel)) rfl, it_in_tb (List.mem_of_getElem? (i := 1061) (by decide +kernel)) rfl, it_in_tb (List.mem_of_getElem? (i := 41) (by decide +kernel)) rfl⟩
theorem ml_IcedTooSoonModel_191 : it_mv "IcedTooSoonModel" 191 it_m_X6_dayOf 0 := ⟨mc_X6_dayOf, it_in_tb (List.mem_of_getElem? (i := 1051) (by decide +kernel)) rfl, it_in_tb (List.mem_of_getElem? (i := 1053) (by decide +kernel)) rfl, it_in_tb (List.mem_of_getElem? (i := 39) (by decide +kernel)) rfl⟩
theorem ml_IcedTooSoonModel_194 : it_mv "IcedTooSoonModel" 194 it_m_X6_keeps 0 := ⟨mc_X6_keeps, it_in_tb (List.mem_of_getElem? (i := 1047) (by decide +kernel)) rfl, it_in_tb (List.mem_of_getElem? (i := 1049) (by decide +kernel)) rfl, it_in_tb (List.mem_of_getElem? (i := 38) (by decide +kernel)) rfl⟩
theorem ml_IcedTooSoonModel_197 : it_mv "IcedTooSoonModel" 197 it_m_X6_lays 0 := ⟨mc_X6_lays, it_in_tb (List.mem_of_getElem? (i := 1063) (by decide +kernel)) rfl, it_in_tb (List.mem_of_getElem? (i := 1065) (by decide +kernel)) rfl, it_in_tb (List.mem_of_getElem? (i := 42) (by decide +kernel)) rfl⟩
theorem ml_IcedTooSoonModel_200 : it_mv "IcedTooSoonModel" 200 it_m_X6_moodAll 0 := ⟨mc_X6_moodAll, it_in_tb (List.mem_of_getElem? (i := 1096) (by decide +kernel)) rfl, it_in_tb (List.mem_of_getElem? (i := 1098) (by decide +kernel)) rfl, it_in_tb (List.mem_of_getElem? (i := 45) (by decide +kernel)) rfl⟩
theorem ml_IcedTooSoonModel_204 : it_mv "IcedTooSoonModel" 204 it_m_X6_goes 1 := ⟨mc_X6_goes, it_in_tb (List.mem_of_getElem? (i := 1088) (by decide +kernel)) rfl, it_in_tb (List.mem_of_getElem? (i := 1090) (by decide +kernel)) rfl, it_in_tb (List.mem_of_getElem? (i := 43) (by decide +kernel)) rfl⟩
theorem ml_IcedTooSoonModel_207 : it_mv "IcedTooSoonModel" 207 it_m_X6_toldBehind 1 := ⟨mc_X6_toldBehind, it_in_tb (List.mem_of_getElem? (i := 1092) (by decide +kernel)) rfl, it_in_tb (List.mem_of_getElem? (i := 1094) (by decide +kernel)) rfl, it_in_tb (List.mem_of_getElem? (i := 44) (by decide +kernel)) rfl⟩
theorem ml_IcedTooSoonModel_210 : it_mv "IcedTooSoonModel" 210 it_m_X6_belowSet 1 := ⟨mc_X6_belowSet, it_in_tb (List.mem_of_getElem? (i := 1112) (by decide +kernel)) rfl, it_in_tb (List.mem_of_getElem? (i := 1114) (by decide +kernel)) rfl, it_in_tb (List.mem_of_getElem? (i := 46) (by decide +kernel)) rfl⟩
theorem ml_IcedTooSoonModel_213 : it_mv "IcedTooSoonModel" 213 it_m_X6_moodBehind 1 := ⟨mc_X6_moodBehind, it_in_tb (List.mem_of_getElem? (i := 1120) (by decide +kernel)) rfl, it_in_tb (List.mem_of_getElem? (i := 1122) (by decide +kernel)) rfl, it_in_tb (List.mem_of_getElem? (i := 47) (by decide +kernel)) rfl⟩
theorem ml_IcedTooSoonModel_219 : it_mv "IcedTooSoonModel" 219 it_m_X6_ices 2 := ⟨mc_X6_ices, it_in_tb (List.mem_of_getElem? (i := 1132) (by decide +kernel)) rfl, it_in_tb (List.mem_of_getElem? (i := 1134) (by decide +kernel)) rfl, it_in_tb (List.mem_of_getElem? (i := 48) (by decide +kernel)) rfl⟩
theorem ml_IcedTooSoonModel_222 : it_mv "IcedTooSoonModel" 222 it_m_X6_laysIce 0 := ⟨mc_X6_laysIce, it_in_tb (List.mem_of_getElem? (i := 1136) (by decide +kernel)) rfl, it_in_tb (List.mem_of_getElem? (i := 1138) (by decide +kernel)) rfl, it_in_tb (List.mem_of_getElem? (i := 49) (by decide +kernel)) rfl⟩
theorem ml_IcedTooSoonModel_227 : it_ms "IcedTooSoonModel" 227 it_m_X6_lowest 3 := ⟨mc_X6_lowest, it_in_tb (List.mem_of_getElem? (i := 1145) (by decide +kernel)) rfl, it_in_tb (List.mem_of_getElem? (i := 1146) (by decide +kernel)) rfl⟩
theorem ml_IcedTooSoonModel_231 : it_mv "IcedTooSoonModel" 231 it_m_X6_sheetWrong 1 := ⟨mc_X6_sheetWrong, it_in_tb (List.mem_of_getElem? (i := 1156) (by decide +kernel)) rfl, it_in_tb (List.mem_of_getElem? (i := 1158) (by decide +kernel)) rfl, it_in_tb (List.mem_of_getElem? (i := 51) (by decide +kernel)) rfl⟩
theorem ml_IcedTooSoonModel_234 : it_mv "IcedTooSoonModel" 234 it_m_X6_toldWrong 2 := ⟨mc_X6_toldWrong, it_in_tb (List.mem_of_getElem? (i := 1152) (by decide +kernel)) rfl, it_in_tb (List.mem_of_getElem? (i := 1154) (by decide +kernel)) rfl, it_in_tb (List.mem_of_getElem? (i := 50) (by decide +kernel)) rfl⟩
theorem ml_IcedTooSoonModel_237 : it_mv "IcedTooSoonModel" 237 it_m_X6_unlike 2 := ⟨mc_X6_unlike, it_in_tb (List.mem_of_getElem? (i := 1160) (by decide +kernel)) rfl, it_in_tb (List.mem_of_getElem? (i := 1162) (by decide +kernel)) rfl, it_in_tb (List.mem_of_getElem? (i := 52) (by decide +kernel)) rfl⟩
theorem ml_IcedTooSoonModel_254 : it_mv "IcedTooSoonModel" 254 it_m_X6_lotOrders 1 := ⟨mc_X6_lotOrders, it_in_tb (List.mem_of_getElem? (i := 1193) (by decide +kernel)) rfl, it_in_tb (List.mem_of_getElem? (i := 1195) (by decide +kernel)) rfl, it_in_tb (List.mem_of_getElem? (i := 53) (by decide +kernel)) rfl⟩
theorem ml_IcedTooSoonModel_261 : it_mv "IcedTooSoonModel" 261 it_m_X6_guest 2 := ⟨mc_X6_guest, it_in_tb (List.mem_of_getElem? (i := 1230) (by decide +kernel)) rfl, it_in_tb (List.mem_of_getElem? (i := 1012) (by decide +kernel)) rfl, it_in_tb (List.mem_of_getElem? (i := 1013) (by decide +kernel)) rfl⟩
theorem ml_IcedTooSoonModel_264 : it_ms "IcedTooSoonModel" 264 it_m_X6_isUnder 2 := ⟨mc_X6_isUnder, it_in_tb (List.mem_of_getElem? (i := 1235) (by decide +kernel)) rfl, it_in_tb (List.mem_of_getElem? (i := 1236) (by decide +kernel)) rfl⟩
theorem ml_java_lang_String_335 : it_mv "java/lang/String" 335 it_m_J0_coder_7d493 0 := ⟨mc_J0_coder_7d493, it_in_tb (List.mem_of_getElem? (i := 216) (by decide +kernel)) rfl, it_in_tb (List.mem_of_getElem? (i := 217) (by decide +kernel)) rfl, it_in_tb (List.mem_of_getElem? (i := 218) (by decide +kernel)) rfl⟩
theorem ml_java_lang_String_492 : it_mv "java/lang/String" 492 it_m_J0_isLatin1_aae02 0 := ⟨mc_J0_isLatin1_aae02, it_in_tb (List.mem_of_getElem? (i := 226) (by decide +kernel)) rfl, it_in_tb (List.mem_of_getElem? (i := 227) (by decide +kernel)) rfl, it_in_tb (List.mem_of_getElem? (i := 228) (by decide +kernel)) rfl⟩
theorem ml_java_lang_String_495 : it_ms "java/lang/String" 495 it_m_J1_charAt_3b067 2 := ⟨mc_J1_charAt_3b067, it_in_tb (List.mem_of_getElem? (i := 230) (by decide +kernel)) rfl, it_in_tb (List.mem_of_getElem? (i := 231) (by decide +kernel)) rfl⟩
theorem ml_java_lang_String_505 : it_mv "java/lang/String" 505 it_m_J0_length_8abf5 0 := ⟨mc_J0_length_8abf5, it_in_tb (List.mem_of_getElem? (i := 303) (by decide +kernel)) rfl, it_in_tb (List.mem_of_getElem? (i := 213) (by decide +kernel)) rfl, it_in_tb (List.mem_of_getElem? (i := 214) (by decide +kernel)) rfl⟩
theorem ml_java_lang_String_633 : it_mv "java/lang/String" 633 it_m_J0_indexOf_7cf53 2 := ⟨mc_J0_indexOf_7cf53, it_in_tb (List.mem_of_getElem? (i := 299) (by decide +kernel)) rfl, it_in_tb (List.mem_of_getElem? (i := 300) (by decide +kernel)) rfl, it_in_tb (List.mem_of_getElem? (i := 301) (by decide +kernel)) rfl⟩
theorem ml_java_lang_String_637 : it_ms "java/lang/String" 637 it_m_J1_indexOf_4cfef 4 := ⟨mc_J1_indexOf_4cfef, it_in_tb (List.mem_of_getElem? (i := 304) (by decide +kernel)) rfl, it_in_tb (List.mem_of_getElem? (i := 305) (by decide +kernel)) rfl⟩
theorem ml_java_lang_String_1059 : it_ms "java/lang/String" 1059 it_m_J3_checkIndex_8e157 3 := ⟨mc_J3_checkIndex_8e157, it_in_tb (List.mem_of_getElem? (i := 238) (by decide +kernel)) rfl, it_in_tb (List.mem_of_getElem? (i := 239) (by decide +kernel)) rfl⟩
theorem ml_java_lang_StringLatin1_9 : it_ms "java/lang/StringLatin1" 9 it_m_J0_checkIndex_df160 2 := ⟨mc_J0_checkIndex_df160, it_in_tb (List.mem_of_getElem? (i := 233) (by decide +kernel)) rfl, it_in_tb (List.mem_of_getElem? (i := 234) (by decide +kernel)) rfl⟩
theorem ml_java_lang_StringLatin1_38 : it_ms "java/lang/StringLatin1" 38 it_m_J9_min_7cf53 2 := ⟨mc_J9_min_7cf53, it_in_tb (List.mem_of_getElem? (i := 313) (by decide +kernel)) rfl, it_in_tb (List.mem_of_getElem? (i := 314) (by decide +kernel)) rfl⟩
theorem ml_java_lang_StringLatin1_88 : it_ms "java/lang/StringLatin1" 88 it_m_J1_canEncode_9a6ad 1 := ⟨mc_J1_canEncode_9a6ad, it_in_tb (List.mem_of_getElem? (i := 307) (by decide +kernel)) rfl, it_in_tb (List.mem_of_getElem? (i := 308) (by decide +kernel)) rfl⟩
theorem ml_java_lang_StringLatin1_92 : it_ms "java/lang/StringLatin1" 92 it_m_J9_max_7cf53 2 := ⟨mc_J9_max_7cf53, it_in_tb (List.mem_of_getElem? (i := 310) (by decide +kernel)) rfl, it_in_tb (List.mem_of_getElem? (i := 311) (by decide +kernel)) rfl⟩
theorem ml_java_lang_StringLatin1_95 : it_ms "java/lang/StringLatin1" 95 it_m_J1_indexOfChar_4cfef 4 := ⟨mc_J1_indexOfChar_4cfef, it_in_tb (List.mem_of_getElem? (i := 316) (by decide +kernel)) rfl, it_in_tb (List.mem_of_getElem? (i := 317) (by decide +kernel)) rfl⟩
theorem ml_java_util_Arrays_304 : it_ms "java/util/Arrays" 304 it_m_J9_min_7cf53 2 := ⟨mc_J9_min_7cf53, it_in_tb (List.mem_of_getElem? (i := 397) (by decide +kernel)) rfl, it_in_tb (List.mem_of_getElem? (i := 314) (by decide +kernel)) rfl⟩
theorem kn_IcedTooSoon_179 : Cond.constant "IcedTooSoon" 179 (-100000) ∈ it_tb := it_in_tb (List.mem_of_getElem? (i := 621) (by decide +kernel)) rfl
theorem kn_IcedTooSoon_201 : Cond.constantLong "IcedTooSoon" 201 (-4611686018427387904) ∈ it_tb := it_in_tb (List.mem_of_getElem? (i := 683) (by decide +kernel)) rfl
theorem kn_IcedTooSoon_231 : Cond.constant "IcedTooSoon" 231 (99999) ∈ it_tb := it_in_tb (List.mem_of_getElem? (i := 754) (by decide +kernel)) rfl
theorem kn_IcedTooSoon_288 : Cond.constantLong "IcedTooSoon" 288 (6) ∈ it_tb := it_in_tb (List.mem_of_getElem? (i := 764) (by decide +kernel)) rfl
theorem kn_IcedTooSoon_290 : Cond.constantLong "IcedTooSoon" 290 (199) ∈ it_tb := it_in_tb (List.mem_of_getElem? (i := 765) (by decide +kernel)) rfl
theorem kn_IcedTooSoon_292 : Cond.constantLong "IcedTooSoon" 292 (99) ∈ it_tb := it_in_tb (List.mem_of_getElem? (i := 766) (by decide +kernel)) rfl
theorem kn_IcedTooSoon_294 : Cond.constantLong "IcedTooSoon" 294 (48271) ∈ it_tb := it_in_tb (List.mem_of_getElem? (i := 762) (by decide +kernel)) rfl
theorem kn_IcedTooSoon_296 : Cond.constantLong "IcedTooSoon" 296 (2147483647) ∈ it_tb := it_in_tb (List.mem_of_getElem? (i := 763) (by decide +kernel)) rfl
theorem kn_IcedTooSoonModel_147 : Cond.constant "IcedTooSoonModel" 147 (100000) ∈ it_tb := it_in_tb (List.mem_of_getElem? (i := 834) (by decide +kernel)) rfl
theorem kn_IcedTooSoonModel_203 : Cond.constant "IcedTooSoonModel" 203 (-100000) ∈ it_tb := it_in_tb (List.mem_of_getElem? (i := 1087) (by decide +kernel)) rfl
theorem kn_IcedTooSoonModel_225 : Cond.constantLong "IcedTooSoonModel" 225 (-4611686018427387904) ∈ it_tb := it_in_tb (List.mem_of_getElem? (i := 1144) (by decide +kernel)) rfl
theorem kn_IcedTooSoonModel_240 : Cond.constantLong "IcedTooSoonModel" 240 (48271) ∈ it_tb := it_in_tb (List.mem_of_getElem? (i := 1197) (by decide +kernel)) rfl
theorem kn_IcedTooSoonModel_242 : Cond.constantLong "IcedTooSoonModel" 242 (2147483647) ∈ it_tb := it_in_tb (List.mem_of_getElem? (i := 1198) (by decide +kernel)) rfl
theorem kn_IcedTooSoonModel_244 : Cond.constantLong "IcedTooSoonModel" 244 (6) ∈ it_tb := it_in_tb (List.mem_of_getElem? (i := 1199) (by decide +kernel)) rfl
theorem kn_IcedTooSoonModel_246 : Cond.constantLong "IcedTooSoonModel" 246 (199) ∈ it_tb := it_in_tb (List.mem_of_getElem? (i := 1200) (by decide +kernel)) rfl
theorem kn_IcedTooSoonModel_248 : Cond.constantLong "IcedTooSoonModel" 248 (99) ∈ it_tb := it_in_tb (List.mem_of_getElem? (i := 1201) (by decide +kernel)) rfl
theorem kn_IcedTooSoonModel_253 : Cond.constant "IcedTooSoonModel" 253 (99999) ∈ it_tb := it_in_tb (List.mem_of_getElem? (i := 1192) (by decide +kernel)) rfl
theorem kn_java_lang_Integer_264 : Cond.constant "java/lang/Integer" 264 (65536) ∈ it_tb := it_in_tb (List.mem_of_getElem? (i := 589) (by decide +kernel)) rfl
theorem kn_java_lang_Integer_265 : Cond.constant "java/lang/Integer" 265 (1431655765) ∈ it_tb := it_in_tb (List.mem_of_getElem? (i := 676) (by decide +kernel)) rfl
theorem kn_java_lang_Integer_266 : Cond.constant "java/lang/Integer" 266 (858993459) ∈ it_tb := it_in_tb (List.mem_of_getElem? (i := 677) (by decide +kernel)) rfl
theorem kn_java_lang_Integer_267 : Cond.constant "java/lang/Integer" 267 (252645135) ∈ it_tb := it_in_tb (List.mem_of_getElem? (i := 678) (by decide +kernel)) rfl
end
