abbrev it_m_X0_init : it_M := (⟨"IcedTooSoon$House", "<init>", "(LIcedTooSoon$Lawbook;)V"⟩, prog_2_method_1_code, 2, none, 7, 54)
abbrev it_m_X0_become : it_M := (⟨"IcedTooSoon$House", "become", "(LIcedTooSoon$House;)V"⟩, prog_2_method_2_code, 2, none, 0, 0)
abbrev it_m_X0_hasGuest : it_M := (⟨"IcedTooSoon$House", "hasGuest", "(I)Z"⟩, prog_2_method_3_code, 2, (some .boolean), 0, 0)
abbrev it_m_X0_hasGlass : it_M := (⟨"IcedTooSoon$House", "hasGlass", "(I)Z"⟩, prog_2_method_4_code, 2, (some .boolean), 0, 0)
abbrev it_m_X0_glassesThere : it_M := (⟨"IcedTooSoon$House", "glassesThere", "()I"⟩, prog_2_method_5_code, 3, (some .int), 0, 0)
abbrev it_m_X0_glassesOf : it_M := (⟨"IcedTooSoon$House", "glassesOf", "(I)I"⟩, prog_2_method_6_code, 4, (some .int), 0, 0)
abbrev it_m_X0_guestsBelow : it_M := (⟨"IcedTooSoon$House", "guestsBelow", "(I)I"⟩, prog_2_method_7_code, 4, (some .int), 0, 0)
abbrev it_m_X0_moodOfAll : it_M := (⟨"IcedTooSoon$House", "moodOfAll", "()I"⟩, prog_2_method_8_code, 3, (some .int), 0, 0)
abbrev it_m_X0_weightOfAll : it_M := (⟨"IcedTooSoon$House", "weightOfAll", "()I"⟩, prog_2_method_9_code, 3, (some .int), 0, 0)
def it_nm_X0_admit : String := match (lw_tbl[522]? : Option Cond) with | some (Cond.code y _ _ _) => y.name | _ => ""
abbrev it_m_X0_admit : it_M := (⟨"IcedTooSoon$House", it_nm_X0_admit, "(II)I"⟩, prog_2_method_10_code, 3, (some .int), 0, 0)
abbrev it_m_X0_set : it_M := (⟨"IcedTooSoon$House", "set", "(III)V"⟩, prog_2_method_11_code, 4, none, 0, 0)
abbrev it_m_X0_setKind : it_M := (⟨"IcedTooSoon$House", "setKind", "(III)V"⟩, prog_2_method_12_code, 4, none, 0, 0)
abbrev it_m_X0_serve : it_M := (⟨"IcedTooSoon$House", "serve", "(III)I"⟩, prog_2_method_13_code, 5, (some .int), 0, 0)
abbrev it_m_X0_take : it_M := (⟨"IcedTooSoon$House", "take", "(I)V"⟩, prog_2_method_14_code, 2, none, 0, 0)
abbrev it_m_X0_addIce : it_M := (⟨"IcedTooSoon$House", "addIce", "(II)V"⟩, prog_2_method_15_code, 3, none, 0, 0)
abbrev it_m_X0_passDay : it_M := (⟨"IcedTooSoon$House", "passDay", "()I"⟩, prog_2_method_16_code, 4, (some .int), 0, 0)
abbrev it_m_X0_saying : it_M := (⟨"IcedTooSoon$House", "saying", "(II)I"⟩, prog_2_method_17_code, 4, (some .int), 0, 0)
abbrev it_m_X0_melting : it_M := (⟨"IcedTooSoon$House", "melting", "(I)I"⟩, prog_2_method_18_code, 4, (some .int), 0, 0)
abbrev it_m_X0_feeling : it_M := (⟨"IcedTooSoon$House", "feeling", "(I)I"⟩, prog_2_method_19_code, 5, (some .int), 0, 0)
abbrev it_m_X0_chilling : it_M := (⟨"IcedTooSoon$House", "chilling", "(I)I"⟩, prog_2_method_20_code, 4, (some .int), 0, 0)
abbrev it_m_X1_init : it_M := (⟨"IcedTooSoon$Lawbook", "<init>", "()V"⟩, prog_3_method_1_code, 1, none, 3, 52)
abbrev it_m_X1_add : it_M := (⟨"IcedTooSoon$Lawbook", "add", "(LIcedTooSoon$Text;)I"⟩, prog_3_method_2_code, 2, (some .int), 0, 0)
abbrev it_m_X1_name : it_M := (⟨"IcedTooSoon$Lawbook", "name", "(IIIIII)V"⟩, prog_3_method_3_code, 7, none, 0, 0)
abbrev it_m_X1_reckon : it_M := (⟨"IcedTooSoon$Lawbook", "reckon", "(II)I"⟩, prog_3_method_4_code, 9, (some .int), 0, 0)
abbrev it_m_X1_turned : it_M := (⟨"IcedTooSoon$Lawbook", "turned", "(II)I"⟩, prog_3_method_5_code, 2, (some .int), 0, 0)
abbrev it_m_X1_joined : it_M := (⟨"IcedTooSoon$Lawbook", "joined", "(III)I"⟩, prog_3_method_6_code, 3, (some .int), 0, 0)
abbrev it_m_X2_init : it_M := (⟨"IcedTooSoon$Sheet", "<init>", "()V"⟩, prog_4_method_1_code, 1, none, 1, 40)
abbrev it_m_X2_renew : it_M := (⟨"IcedTooSoon$Sheet", "renew", "(II)V"⟩, prog_4_method_2_code, 3, none, 0, 0)
abbrev it_m_X2_has : it_M := (⟨"IcedTooSoon$Sheet", "has", "(I)Z"⟩, prog_4_method_3_code, 2, (some .boolean), 0, 0)
abbrev it_m_X2_write : it_M := (⟨"IcedTooSoon$Sheet", "write", "(II)V"⟩, prog_4_method_4_code, 3, none, 0, 0)
abbrev it_m_X3_init : it_M := (⟨"IcedTooSoon$Tape", "<init>", "()V"⟩, prog_5_method_1_code, 1, none, 3, 323)
abbrev it_m_X3_add : it_M := (⟨"IcedTooSoon$Tape", "add", "(I)V"⟩, prog_5_method_2_code, 2, none, 0, 0)
abbrev it_m_X3_empty : it_M := (⟨"IcedTooSoon$Tape", "empty", "()V"⟩, prog_5_method_3_code, 1, none, 0, 0)
abbrev it_m_X3_isName : it_M := (⟨"IcedTooSoon$Tape", "isName", "(I)Z"⟩, prog_5_method_4_code, 1, (some .boolean), 0, 0)
abbrev it_m_X3_isTurn : it_M := (⟨"IcedTooSoon$Tape", "isTurn", "(I)Z"⟩, prog_5_method_5_code, 1, (some .boolean), 0, 0)
abbrev it_m_X3_written : it_M := (⟨"IcedTooSoon$Tape", "written", "()LIcedTooSoon$Text;"⟩, prog_5_method_6_code, 1, (some (.object "IcedTooSoon$Text")), 3, 165)
abbrev it_m_X3_isRead : it_M := (⟨"IcedTooSoon$Tape", "isRead", "()Z"⟩, prog_5_method_7_code, 2, (some .boolean), 0, 0)
abbrev it_m_X3_readLevel : it_M := (⟨"IcedTooSoon$Tape", "readLevel", "(II)Z"⟩, prog_5_method_8_code, 7, (some .boolean), 0, 0)
abbrev it_m_X3_joins : it_M := (⟨"IcedTooSoon$Tape", "joins", "(I)Z"⟩, prog_5_method_9_code, 2, (some .boolean), 0, 0)
abbrev it_m_X3_readOne : it_M := (⟨"IcedTooSoon$Tape", "readOne", "(I)Z"⟩, prog_5_method_10_code, 2, (some .boolean), 0, 0)
abbrev it_m_X3_readTurned : it_M := (⟨"IcedTooSoon$Tape", "readTurned", "(II)Z"⟩, prog_5_method_11_code, 4, (some .boolean), 0, 0)
abbrev it_m_X3_readInner : it_M := (⟨"IcedTooSoon$Tape", "readInner", "(I)Z"⟩, prog_5_method_12_code, 2, (some .boolean), 0, 0)
abbrev it_m_X3_write : it_M := (⟨"IcedTooSoon$Tape", "write", "(I)V"⟩, prog_5_method_13_code, 2, none, 0, 0)
abbrev it_m_X3_next : it_M := (⟨"IcedTooSoon$Tape", "next", "()V"⟩, prog_5_method_14_code, 1, none, 0, 0)
abbrev it_m_X3_nextWord : it_M := (⟨"IcedTooSoon$Tape", "nextWord", "()V"⟩, prog_5_method_15_code, 2, none, 0, 0)
abbrev it_m_X3_isWord : it_M := (⟨"IcedTooSoon$Tape", "isWord", "(I)Z"⟩, prog_5_method_16_code, 4, (some .boolean), 0, 0)
abbrev it_m_X3_nextNumber : it_M := (⟨"IcedTooSoon$Tape", "nextNumber", "()V"⟩, prog_5_method_17_code, 1, none, 0, 0)
abbrev it_m_X3_isLetter : it_M := (⟨"IcedTooSoon$Tape", "isLetter", "(I)Z"⟩, prog_5_method_18_code, 1, (some .boolean), 0, 0)
abbrev it_m_X3_isDigit : it_M := (⟨"IcedTooSoon$Tape", "isDigit", "(I)Z"⟩, prog_5_method_19_code, 1, (some .boolean), 0, 0)
abbrev it_m_X4_init : it_M := (⟨"IcedTooSoon$Text", "<init>", "([I[I)V"⟩, prog_6_method_1_code, 3, none, 0, 0)
abbrev it_m_X5_init : it_M := (⟨"IcedTooSoon", "<init>", "()V"⟩, prog_1_method_1_code, 2, none, 44, 1500)
abbrev it_m_X5_count : it_M := (⟨"IcedTooSoon", "count", "(I)I"⟩, prog_1_method_2_code, 2, (some .int), 0, 0)
abbrev it_m_X5_dawn : it_M := (⟨"IcedTooSoon", "dawn", "(I)I"⟩, prog_1_method_3_code, 3, (some .int), 0, 0)
abbrev it_m_X5_feed : it_M := (⟨"IcedTooSoon", "feed", "(IIIIII)I"⟩, prog_1_method_4_code, 8, (some .int), 0, 0)
abbrev it_m_X5_text : it_M := (⟨"IcedTooSoon", "text", "()I"⟩, prog_1_method_5_code, 2, (some .int), 3, 165)
abbrev it_m_X5_force : it_M := (⟨"IcedTooSoon", "force", "(I)I"⟩, prog_1_method_6_code, 3, (some .int), 0, 0)
abbrev it_m_X5_asks : it_M := (⟨"IcedTooSoon", "asks", "(II)I"⟩, prog_1_method_7_code, 3, (some .int), 0, 0)
abbrev it_m_X5_guest : it_M := (⟨"IcedTooSoon", "guest", "(II)I"⟩, prog_1_method_8_code, 3, (some .int), 0, 0)
abbrev it_m_X5_order : it_M := (⟨"IcedTooSoon", "order", "(III)I"⟩, prog_1_method_9_code, 4, (some .int), 0, 0)
abbrev it_m_X5_put : it_M := (⟨"IcedTooSoon", "put", "(III)I"⟩, prog_1_method_10_code, 5, (some .int), 0, 0)
abbrev it_m_X5_told : it_M := (⟨"IcedTooSoon", "told", "(II)I"⟩, prog_1_method_11_code, 3, (some .int), 0, 0)
abbrev it_m_X5_glass : it_M := (⟨"IcedTooSoon", "glass", "(II)I"⟩, prog_1_method_12_code, 3, (some .int), 0, 0)
abbrev it_m_X5_day : it_M := (⟨"IcedTooSoon", "day", "()I"⟩, prog_1_method_13_code, 1, (some .int), 0, 0)
abbrev it_m_X5_iced : it_M := (⟨"IcedTooSoon", "iced", "(II)I"⟩, prog_1_method_14_code, 3, (some .int), 0, 0)
abbrev it_m_X5_spill : it_M := (⟨"IcedTooSoon", "spill", "(I)I"⟩, prog_1_method_15_code, 2, (some .int), 0, 0)
abbrev it_m_X5_run : it_M := (⟨"IcedTooSoon", "run", "(II)I"⟩, prog_1_method_16_code, 5, (some .int), 0, 0)
abbrev it_m_X5_goesOff : it_M := (⟨"IcedTooSoon", "goesOff", "(I)I"⟩, prog_1_method_17_code, 3, (some .int), 0, 0)
abbrev it_m_X5_worst : it_M := (⟨"IcedTooSoon", "worst", "(III)I"⟩, prog_1_method_18_code, 9, (some .int), 0, 0)
abbrev it_m_X5_falls : it_M := (⟨"IcedTooSoon", "falls", "(II)I"⟩, prog_1_method_19_code, 5, (some .int), 0, 0)
abbrev it_m_X5_again : it_M := (⟨"IcedTooSoon", "again", "(III)I"⟩, prog_1_method_20_code, 8, (some .int), 0, 0)
abbrev it_m_X5_spilt : it_M := (⟨"IcedTooSoon", "spilt", "(II)I"⟩, prog_1_method_21_code, 7, (some .int), 0, 0)
abbrev it_m_X5_round : it_M := (⟨"IcedTooSoon", "round", "(III)I"⟩, prog_1_method_22_code, 6, (some .int), 0, 0)
abbrev it_m_X5_mean : it_M := (⟨"IcedTooSoon", "mean", "(I)J"⟩, prog_1_method_23_code, 3, (some .long), 0, 0)
abbrev it_m_X5_judge : it_M := (⟨"IcedTooSoon", "judge", "(II)I"⟩, prog_1_method_24_code, 4, (some .int), 0, 0)
abbrev it_m_X5_kinds : it_M := (⟨"IcedTooSoon", "kinds", "(III)I"⟩, prog_1_method_25_code, 7, (some .int), 0, 0)
abbrev it_m_X5_states : it_M := (⟨"IcedTooSoon", "states", "(IIII)I"⟩, prog_1_method_26_code, 9, (some .int), 0, 0)
abbrev it_m_X5_owners : it_M := (⟨"IcedTooSoon", "owners", "(II)I"⟩, prog_1_method_27_code, 6, (some .int), 0, 0)
abbrev it_m_X5_who : it_M := (⟨"IcedTooSoon", "who", "(I)I"⟩, prog_1_method_28_code, 5, (some .int), 0, 0)
abbrev it_m_X5_laws : it_M := (⟨"IcedTooSoon", "laws", "(II)I"⟩, prog_1_method_29_code, 6, (some .int), 0, 0)
abbrev it_m_X5_film : it_M := (⟨"IcedTooSoon", "film", "(III)I"⟩, prog_1_method_30_code, 5, (some .int), 0, 0)
abbrev it_m_X5_drawn : it_M := (⟨"IcedTooSoon", "drawn", "(II)I"⟩, prog_1_method_31_code, 3, (some .int), 0, 0)
abbrev it_m_X5_odds : it_M := (⟨"IcedTooSoon", "odds", "(IIII)J"⟩, prog_1_method_32_code, 7, (some .long), 0, 0)
abbrev it_m_X5_image : it_M := (⟨"IcedTooSoon", "image", "()I"⟩, prog_1_method_33_code, 1, (some .int), 0, 0)
abbrev it_m_X5_back : it_M := (⟨"IcedTooSoon", "back", "()I"⟩, prog_1_method_34_code, 1, (some .int), 0, 0)
abbrev it_m_X5_sheet : it_M := (⟨"IcedTooSoon", "sheet", "(III)I"⟩, prog_1_method_35_code, 4, (some .int), 0, 0)
abbrev it_m_X5_cell : it_M := (⟨"IcedTooSoon", "cell", "(III)I"⟩, prog_1_method_36_code, 4, (some .int), 0, 0)
abbrev it_m_X5_copy : it_M := (⟨"IcedTooSoon", "copy", "(IIIII)I"⟩, prog_1_method_37_code, 8, (some .int), 0, 0)
abbrev it_m_X5_guestsBy : it_M := (⟨"IcedTooSoon", "guestsBy", "(IIII)I"⟩, prog_1_method_38_code, 9, (some .int), 0, 0)
abbrev it_m_X5_taken : it_M := (⟨"IcedTooSoon", "taken", "(II)I"⟩, prog_1_method_39_code, 5, (some .int), 0, 0)
abbrev it_m_X5_isOutside : it_M := (⟨"IcedTooSoon", "isOutside", "(III)Z"⟩, prog_1_method_40_code, 3, (some .boolean), 0, 0)
abbrev it_m_X5_isNoByte : it_M := (⟨"IcedTooSoon", "isNoByte", "(I)Z"⟩, prog_1_method_41_code, 1, (some .boolean), 0, 0)
abbrev it_m_X5_isNoSheet : it_M := (⟨"IcedTooSoon", "isNoSheet", "(I)Z"⟩, prog_1_method_42_code, 1, (some .boolean), 0, 0)
abbrev it_m_X5_bounded : it_M := (⟨"IcedTooSoon", "bounded", "(III)I"⟩, prog_1_method_43_code, 3, (some .int), 0, 0)
abbrev it_m_X5_isOfKind : it_M := (⟨"IcedTooSoon", "isOfKind", "(II)Z"⟩, prog_1_method_44_code, 4, (some .boolean), 0, 0)
abbrev it_m_X5_oneOf : it_M := (⟨"IcedTooSoon", "oneOf", "(I)I"⟩, prog_1_method_45_code, 1, (some .int), 0, 0)
abbrev it_m_X5_isAhead : it_M := (⟨"IcedTooSoon", "isAhead", "(II)Z"⟩, prog_1_method_46_code, 4, (some .boolean), 0, 0)
abbrev it_m_X5_inLowestTerms : it_M := (⟨"IcedTooSoon", "inLowestTerms", "(III)J"⟩, prog_1_method_47_code, 7, (some .long), 0, 0)
abbrev it_m_X5_think : it_M := (⟨"IcedTooSoon", "think", "()V"⟩, prog_1_method_48_code, 1, none, 0, 0)
abbrev it_m_X5_nextOff : it_M := (⟨"IcedTooSoon", "nextOff", "(I)I"⟩, prog_1_method_49_code, 4, (some .int), 0, 0)
abbrev it_m_X5_moodIfIced : it_M := (⟨"IcedTooSoon", "moodIfIced", "(III)I"⟩, prog_1_method_50_code, 5, (some .int), 0, 0)
abbrev it_m_X5_roundOf : it_M := (⟨"IcedTooSoon", "roundOf", "(III)I"⟩, prog_1_method_51_code, 9, (some .int), 0, 0)
abbrev it_m_X5_moodIfSpilt : it_M := (⟨"IcedTooSoon", "moodIfSpilt", "(II)I"⟩, prog_1_method_52_code, 4, (some .int), 0, 0)
abbrev it_m_X5_refusalOfSheet : it_M := (⟨"IcedTooSoon", "refusalOfSheet", "(I)I"⟩, prog_1_method_53_code, 2, (some .int), 0, 0)
abbrev it_m_X5_refusalOfDays : it_M := (⟨"IcedTooSoon", "refusalOfDays", "(II)I"⟩, prog_1_method_54_code, 4, (some .int), 0, 0)
abbrev it_m_X5_firstOtherwise : it_M := (⟨"IcedTooSoon", "firstOtherwise", "(II)I"⟩, prog_1_method_55_code, 5, (some .int), 0, 0)
abbrev it_m_X5_thinkOfLots : it_M := (⟨"IcedTooSoon", "thinkOfLots", "(I)V"⟩, prog_1_method_56_code, 8, none, 0, 0)
abbrev it_m_X5_lotBehind : it_M := (⟨"IcedTooSoon", "lotBehind", "(J)J"⟩, prog_1_method_57_code, 2, (some .long), 0, 0)
abbrev it_m_X6_init : it_M := (⟨"IcedTooSoonModel", "<init>", "()V"⟩, prog_8_method_1_code, 2, none, 19, 3500)
abbrev it_m_X6_in : it_M := (⟨"IcedTooSoonModel", "in", "(III)Z"⟩, prog_8_method_3_code, 3, (some .boolean), 0, 0)
abbrev it_m_X6_within : it_M := (⟨"IcedTooSoonModel", "within", "(III)I"⟩, prog_8_method_4_code, 3, (some .int), 0, 0)
abbrev it_m_X6_isOne : it_M := (⟨"IcedTooSoonModel", "isOne", "(I)Z"⟩, prog_8_method_5_code, 2, (some .boolean), 0, 0)
abbrev it_m_X6_isThere : it_M := (⟨"IcedTooSoonModel", "isThere", "(I)Z"⟩, prog_8_method_6_code, 2, (some .boolean), 0, 0)
abbrev it_m_X6_many : it_M := (⟨"IcedTooSoonModel", "many", "()I"⟩, prog_8_method_7_code, 3, (some .int), 0, 0)
abbrev it_m_X6_moodAll : it_M := (⟨"IcedTooSoonModel", "moodAll", "()I"⟩, prog_8_method_8_code, 3, (some .int), 0, 0)
abbrev it_m_X6_count : it_M := (⟨"IcedTooSoonModel", "count", "(I)I"⟩, prog_8_method_9_code, 2, (some .int), 0, 0)
abbrev it_m_X6_dawn : it_M := (⟨"IcedTooSoonModel", "dawn", "(I)I"⟩, prog_8_method_10_code, 3, (some .int), 0, 0)
abbrev it_m_X6_isByte : it_M := (⟨"IcedTooSoonModel", "isByte", "(I)Z"⟩, prog_8_method_11_code, 1, (some .boolean), 0, 0)
abbrev it_m_X6_feed : it_M := (⟨"IcedTooSoonModel", "feed", "(IIIIII)I"⟩, prog_8_method_12_code, 8, (some .int), 0, 0)
abbrev it_m_X6_wordFrom : it_M := (⟨"IcedTooSoonModel", "wordFrom", "(II)I"⟩, prog_8_method_13_code, 6, (some .int), 0, 0)
abbrev it_m_X6_next : it_M := (⟨"IcedTooSoonModel", "next", "()V"⟩, prog_8_method_14_code, 3, none, 0, 0)
abbrev it_m_X6_rank : it_M := (⟨"IcedTooSoonModel", "rank", "(I)I"⟩, prog_8_method_15_code, 1, (some .int), 0, 0)
abbrev it_m_X6_puts : it_M := (⟨"IcedTooSoonModel", "puts", "(I)V"⟩, prog_8_method_16_code, 2, none, 0, 0)
abbrev it_m_X6_unwinds : it_M := (⟨"IcedTooSoonModel", "unwinds", "(I)V"⟩, prog_8_method_17_code, 3, none, 0, 0)
abbrev it_m_X6_holds : it_M := (⟨"IcedTooSoonModel", "holds", "(I)V"⟩, prog_8_method_18_code, 2, none, 0, 0)
abbrev it_m_X6_opensOne : it_M := (⟨"IcedTooSoonModel", "opensOne", "(I)Z"⟩, prog_8_method_19_code, 2, (some .boolean), 0, 0)
abbrev it_m_X6_between : it_M := (⟨"IcedTooSoonModel", "between", "(I)Z"⟩, prog_8_method_20_code, 2, (some .boolean), 0, 0)
abbrev it_m_X6_signOf : it_M := (⟨"IcedTooSoonModel", "signOf", "()I"⟩, prog_8_method_21_code, 1, (some .int), 0, 0)
abbrev it_m_X6_eRead : it_M := (⟨"IcedTooSoonModel", "eRead", "()Z"⟩, prog_8_method_22_code, 4, (some .boolean), 0, 0)
abbrev it_m_X6_text : it_M := (⟨"IcedTooSoonModel", "text", "()I"⟩, prog_8_method_23_code, 3, (some .int), 0, 0)
abbrev it_m_X6_two : it_M := (⟨"IcedTooSoonModel", "two", "(III)I"⟩, prog_8_method_24_code, 3, (some .int), 0, 0)
abbrev it_m_X6_says : it_M := (⟨"IcedTooSoonModel", "says", "(I)I"⟩, prog_8_method_25_code, 5, (some .int), 0, 0)
abbrev it_m_X6_force : it_M := (⟨"IcedTooSoonModel", "force", "(I)I"⟩, prog_8_method_26_code, 3, (some .int), 0, 0)
abbrev it_m_X6_asksOf : it_M := (⟨"IcedTooSoonModel", "asksOf", "(II)I"⟩, prog_8_method_27_code, 4, (some .int), 0, 0)
abbrev it_m_X6_asks : it_M := (⟨"IcedTooSoonModel", "asks", "(II)I"⟩, prog_8_method_28_code, 3, (some .int), 0, 0)
abbrev it_m_X6_guest : it_M := (⟨"IcedTooSoonModel", "guest", "(II)I"⟩, prog_8_method_29_code, 3, (some .int), 0, 0)
abbrev it_m_X6_meltsOf : it_M := (⟨"IcedTooSoonModel", "meltsOf", "(I)I"⟩, prog_8_method_30_code, 5, (some .int), 0, 0)
abbrev it_m_X6_feelsOf : it_M := (⟨"IcedTooSoonModel", "feelsOf", "(I)I"⟩, prog_8_method_31_code, 5, (some .int), 0, 0)
abbrev it_m_X6_chillsOf : it_M := (⟨"IcedTooSoonModel", "chillsOf", "(I)I"⟩, prog_8_method_32_code, 4, (some .int), 0, 0)
abbrev it_m_X6_ordered : it_M := (⟨"IcedTooSoonModel", "ordered", "(III)I"⟩, prog_8_method_33_code, 5, (some .int), 0, 0)
abbrev it_m_X6_order : it_M := (⟨"IcedTooSoonModel", "order", "(III)I"⟩, prog_8_method_34_code, 5, (some .int), 0, 0)
abbrev it_m_X6_put : it_M := (⟨"IcedTooSoonModel", "put", "(III)I"⟩, prog_8_method_35_code, 5, (some .int), 0, 0)
abbrev it_m_X6_glassesOf : it_M := (⟨"IcedTooSoonModel", "glassesOf", "(I)I"⟩, prog_8_method_36_code, 4, (some .int), 0, 0)
abbrev it_m_X6_told : it_M := (⟨"IcedTooSoonModel", "told", "(II)I"⟩, prog_8_method_37_code, 3, (some .int), 0, 0)
abbrev it_m_X6_glass : it_M := (⟨"IcedTooSoonModel", "glass", "(II)I"⟩, prog_8_method_38_code, 3, (some .int), 0, 0)
abbrev it_m_X6_dayOf : it_M := (⟨"IcedTooSoonModel", "dayOf", "()I"⟩, prog_8_method_39_code, 5, (some .int), 0, 0)
abbrev it_m_X6_day : it_M := (⟨"IcedTooSoonModel", "day", "()I"⟩, prog_8_method_40_code, 1, (some .int), 0, 0)
abbrev it_m_X6_iced : it_M := (⟨"IcedTooSoonModel", "iced", "(II)I"⟩, prog_8_method_41_code, 3, (some .int), 0, 0)
abbrev it_m_X6_spill : it_M := (⟨"IcedTooSoonModel", "spill", "(I)I"⟩, prog_8_method_42_code, 2, (some .int), 0, 0)
abbrev it_m_X6_keeps : it_M := (⟨"IcedTooSoonModel", "keeps", "()V"⟩, prog_8_method_43_code, 2, none, 0, 0)
abbrev it_m_X6_lays : it_M := (⟨"IcedTooSoonModel", "lays", "()V"⟩, prog_8_method_44_code, 2, none, 0, 0)
abbrev it_m_X6_goes : it_M := (⟨"IcedTooSoonModel", "goes", "(I)V"⟩, prog_8_method_45_code, 3, none, 0, 0)
abbrev it_m_X6_firstOff : it_M := (⟨"IcedTooSoonModel", "firstOff", "(I)I"⟩, prog_8_method_46_code, 6, (some .int), 0, 0)
abbrev it_m_X6_toldBehind : it_M := (⟨"IcedTooSoonModel", "toldBehind", "(I)I"⟩, prog_8_method_47_code, 2, (some .int), 0, 0)
abbrev it_m_X6_run : it_M := (⟨"IcedTooSoonModel", "run", "(II)I"⟩, prog_8_method_48_code, 5, (some .int), 0, 0)
abbrev it_m_X6_goesOff : it_M := (⟨"IcedTooSoonModel", "goesOff", "(I)I"⟩, prog_8_method_49_code, 4, (some .int), 0, 0)
abbrev it_m_X6_worst : it_M := (⟨"IcedTooSoonModel", "worst", "(III)I"⟩, prog_8_method_50_code, 9, (some .int), 0, 0)
abbrev it_m_X6_belowSet : it_M := (⟨"IcedTooSoonModel", "belowSet", "(I)I"⟩, prog_8_method_51_code, 4, (some .int), 0, 0)
abbrev it_m_X6_falls : it_M := (⟨"IcedTooSoonModel", "falls", "(II)I"⟩, prog_8_method_52_code, 5, (some .int), 0, 0)
abbrev it_m_X6_moodBehind : it_M := (⟨"IcedTooSoonModel", "moodBehind", "(I)I"⟩, prog_8_method_53_code, 3, (some .int), 0, 0)
abbrev it_m_X6_again : it_M := (⟨"IcedTooSoonModel", "again", "(III)I"⟩, prog_8_method_54_code, 9, (some .int), 0, 0)
abbrev it_m_X6_spilt : it_M := (⟨"IcedTooSoonModel", "spilt", "(II)I"⟩, prog_8_method_55_code, 8, (some .int), 0, 0)
abbrev it_m_X6_ices : it_M := (⟨"IcedTooSoonModel", "ices", "(II)I"⟩, prog_8_method_56_code, 5, (some .int), 0, 0)
abbrev it_m_X6_laysIce : it_M := (⟨"IcedTooSoonModel", "laysIce", "()V"⟩, prog_8_method_57_code, 2, none, 0, 0)
abbrev it_m_X6_round : it_M := (⟨"IcedTooSoonModel", "round", "(III)I"⟩, prog_8_method_58_code, 11, (some .int), 0, 0)
abbrev it_m_X6_lowest : it_M := (⟨"IcedTooSoonModel", "lowest", "(JJI)J"⟩, prog_8_method_59_code, 11, (some .long), 0, 0)
abbrev it_m_X6_mean : it_M := (⟨"IcedTooSoonModel", "mean", "(I)J"⟩, prog_8_method_60_code, 5, (some .long), 0, 0)
abbrev it_m_X6_sheetWrong : it_M := (⟨"IcedTooSoonModel", "sheetWrong", "(I)I"⟩, prog_8_method_61_code, 2, (some .int), 0, 0)
abbrev it_m_X6_toldWrong : it_M := (⟨"IcedTooSoonModel", "toldWrong", "(II)I"⟩, prog_8_method_62_code, 4, (some .int), 0, 0)
abbrev it_m_X6_unlike : it_M := (⟨"IcedTooSoonModel", "unlike", "(II)I"⟩, prog_8_method_63_code, 5, (some .int), 0, 0)
abbrev it_m_X6_judge : it_M := (⟨"IcedTooSoonModel", "judge", "(II)I"⟩, prog_8_method_64_code, 4, (some .int), 0, 0)
abbrev it_m_X6_kinds : it_M := (⟨"IcedTooSoonModel", "kinds", "(III)I"⟩, prog_8_method_65_code, 9, (some .int), 0, 0)
abbrev it_m_X6_states : it_M := (⟨"IcedTooSoonModel", "states", "(IIII)I"⟩, prog_8_method_66_code, 11, (some .int), 0, 0)
abbrev it_m_X6_owners : it_M := (⟨"IcedTooSoonModel", "owners", "(II)I"⟩, prog_8_method_67_code, 7, (some .int), 0, 0)
abbrev it_m_X6_who : it_M := (⟨"IcedTooSoonModel", "who", "(I)I"⟩, prog_8_method_68_code, 5, (some .int), 0, 0)
abbrev it_m_X6_laws : it_M := (⟨"IcedTooSoonModel", "laws", "(II)I"⟩, prog_8_method_69_code, 7, (some .int), 0, 0)
abbrev it_m_X6_film : it_M := (⟨"IcedTooSoonModel", "film", "(III)I"⟩, prog_8_method_70_code, 5, (some .int), 0, 0)
abbrev it_m_X6_lotOrders : it_M := (⟨"IcedTooSoonModel", "lotOrders", "(I)I"⟩, prog_8_method_71_code, 7, (some .int), 0, 0)
abbrev it_m_X6_drawn : it_M := (⟨"IcedTooSoonModel", "drawn", "(II)I"⟩, prog_8_method_72_code, 4, (some .int), 0, 0)
abbrev it_m_X6_odds : it_M := (⟨"IcedTooSoonModel", "odds", "(IIII)J"⟩, prog_8_method_73_code, 8, (some .long), 0, 0)
abbrev it_m_X6_image : it_M := (⟨"IcedTooSoonModel", "image", "()I"⟩, prog_8_method_74_code, 2, (some .int), 0, 0)
abbrev it_m_X6_back : it_M := (⟨"IcedTooSoonModel", "back", "()I"⟩, prog_8_method_75_code, 2, (some .int), 0, 0)
abbrev it_m_X6_sheet : it_M := (⟨"IcedTooSoonModel", "sheet", "(III)I"⟩, prog_8_method_76_code, 5, (some .int), 0, 0)
abbrev it_m_X6_cell : it_M := (⟨"IcedTooSoonModel", "cell", "(III)I"⟩, prog_8_method_77_code, 4, (some .int), 0, 0)
abbrev it_m_X6_copy : it_M := (⟨"IcedTooSoonModel", "copy", "(IIIII)I"⟩, prog_8_method_78_code, 10, (some .int), 0, 0)
abbrev it_m_X6_guestsBy : it_M := (⟨"IcedTooSoonModel", "guestsBy", "(IIII)I"⟩, prog_8_method_79_code, 9, (some .int), 0, 0)
abbrev it_m_X6_isUnder : it_M := (⟨"IcedTooSoonModel", "isUnder", "(II)Z"⟩, prog_8_method_80_code, 2, (some .boolean), 0, 0)
abbrev it_m_X6_taken : it_M := (⟨"IcedTooSoonModel", "taken", "(II)I"⟩, prog_8_method_81_code, 4, (some .int), 0, 0)
abbrev it_m_J6_numberOfTrailingZeros_0f7a4 : it_M := (⟨"java/lang/Integer", "numberOfTrailingZeros", "(I)I"⟩, prog_11_method_48_code, 2, (some .int), 0, 0)
abbrev it_m_J6_bitCount_0f7a4 : it_M := (⟨"java/lang/Integer", "bitCount", "(I)I"⟩, prog_11_method_49_code, 1, (some .int), 0, 0)
abbrev it_m_J9_abs_0f7a4 : it_M := (⟨"java/lang/Math", "abs", "(I)I"⟩, prog_12_method_59_code, 1, (some .int), 0, 0)
abbrev it_m_J9_max_7cf53 : it_M := (⟨"java/lang/Math", "max", "(II)I"⟩, prog_12_method_65_code, 2, (some .int), 0, 0)
abbrev it_m_J9_min_7cf53 : it_M := (⟨"java/lang/Math", "min", "(II)I"⟩, prog_12_method_69_code, 2, (some .int), 0, 0)
abbrev it_m_J0_length_8abf5 : it_M := (⟨"java/lang/String", "length", "()I"⟩, prog_13_method_54_code, 1, (some .int), 0, 0)
abbrev it_m_J0_charAt_5068e : it_M := (⟨"java/lang/String", "charAt", "(I)C"⟩, prog_13_method_56_code, 2, (some .char), 0, 0)
abbrev it_m_J0_indexOf_0f7a4 : it_M := (⟨"java/lang/String", "indexOf", "(I)I"⟩, prog_13_method_79_code, 2, (some .int), 0, 0)
abbrev it_m_J0_indexOf_7cf53 : it_M := (⟨"java/lang/String", "indexOf", "(II)I"⟩, prog_13_method_80_code, 3, (some .int), 0, 0)
abbrev it_m_J0_coder_7d493 : it_M := (⟨"java/lang/String", "coder", "()B"⟩, prog_13_method_152_code, 1, (some .byte), 0, 0)
abbrev it_m_J0_isLatin1_aae02 : it_M := (⟨"java/lang/String", "isLatin1", "()Z"⟩, prog_13_method_154_code, 1, (some .boolean), 0, 0)
abbrev it_m_J0_checkIndex_df160 : it_M := (⟨"java/lang/String", "checkIndex", "(II)V"⟩, prog_13_method_155_code, 2, none, 0, 0)
abbrev it_m_J1_charAt_3b067 : it_M := (⟨"java/lang/StringLatin1", "charAt", "([BI)C"⟩, prog_14_method_2_code, 2, (some .char), 0, 0)
abbrev it_m_J1_canEncode_9a6ad : it_M := (⟨"java/lang/StringLatin1", "canEncode", "(I)Z"⟩, prog_14_method_4_code, 1, (some .boolean), 0, 0)
abbrev it_m_J1_indexOf_4cfef : it_M := (⟨"java/lang/StringLatin1", "indexOf", "([BIII)I"⟩, prog_14_method_22_code, 4, (some .int), 0, 0)
abbrev it_m_J1_indexOfChar_4cfef : it_M := (⟨"java/lang/StringLatin1", "indexOfChar", "([BIII)I"⟩, prog_14_method_23_code, 6, (some .int), 0, 0)
abbrev it_m_J7_fill_53178 : it_M := (⟨"java/util/Arrays", "fill", "([II)V"⟩, prog_17_method_103_code, 4, none, 0, 0)
abbrev it_m_J7_copyOf_59c91 : it_M := (⟨"java/util/Arrays", "copyOf", "([II)[I"⟩, prog_17_method_123_code, 3, (some (.array .int)), 1, 160)
abbrev it_m_J3_checkIndex_8e157 : it_M := (⟨"jdk/internal/util/Preconditions", "checkIndex", "(IILjava/util/function/BiFunction;)I"⟩, prog_18_method_11_code, 3, (some .int), 0, 0)
theorem in_IcedTooSoon : Cond.initialized "IcedTooSoon" ∈ it_tb := it_in_tb (List.mem_of_getElem? (i := 54) (by decide +kernel)) rfl
theorem in_IcedTooSoon_House : Cond.initialized "IcedTooSoon$House" ∈ it_tb := it_in_tb (List.mem_of_getElem? (i := 57) (by decide +kernel)) rfl
theorem in_IcedTooSoon_Lawbook : Cond.initialized "IcedTooSoon$Lawbook" ∈ it_tb := it_in_tb (List.mem_of_getElem? (i := 55) (by decide +kernel)) rfl
theorem in_IcedTooSoon_Sheet : Cond.initialized "IcedTooSoon$Sheet" ∈ it_tb := it_in_tb (List.mem_of_getElem? (i := 59) (by decide +kernel)) rfl
theorem in_IcedTooSoon_Tape : Cond.initialized "IcedTooSoon$Tape" ∈ it_tb := it_in_tb (List.mem_of_getElem? (i := 56) (by decide +kernel)) rfl
theorem in_IcedTooSoon_Text : Cond.initialized "IcedTooSoon$Text" ∈ it_tb := it_in_tb (List.mem_of_getElem? (i := 66) (by decide +kernel)) rfl
theorem in_IcedTooSoonModel : Cond.initialized "IcedTooSoonModel" ∈ it_tb := it_in_tb (List.mem_of_getElem? (i := 68) (by decide +kernel)) rfl
theorem in_java_lang_Integer : Cond.initialized "java/lang/Integer" ∈ it_tb := it_in_tb (List.mem_of_getElem? (i := 69) (by decide +kernel)) rfl
theorem in_java_lang_Math : Cond.initialized "java/lang/Math" ∈ it_tb := it_in_tb (List.mem_of_getElem? (i := 64) (by decide +kernel)) rfl
theorem in_java_lang_String : Cond.initialized "java/lang/String" ∈ it_tb := it_in_tb (List.mem_of_getElem? (i := 60) (by decide +kernel)) rfl
theorem in_java_lang_StringLatin1 : Cond.initialized "java/lang/StringLatin1" ∈ it_tb := it_in_tb (List.mem_of_getElem? (i := 61) (by decide +kernel)) rfl
theorem in_java_util_Arrays : Cond.initialized "java/util/Arrays" ∈ it_tb := it_in_tb (List.mem_of_getElem? (i := 58) (by decide +kernel)) rfl
theorem in_jdk_internal_util_Preconditions : Cond.initialized "jdk/internal/util/Preconditions" ∈ it_tb := it_in_tb (List.mem_of_getElem? (i := 62) (by decide +kernel)) rfl
theorem ar_int : Cond.arrayClass .int ∈ it_tb := it_in_tb (List.mem_of_getElem? (i := 100) (by decide +kernel)) rfl
set_option maxRecDepth 50000 in
theorem mc_X0_init : it_mc it_m_X0_init 1 := ⟨it_in_tb (List.mem_of_getElem? (i := 141) (rfl)) rfl, in_IcedTooSoon_House, ⟨by decide +kernel, by decide +kernel, by decide +kernel⟩, by decide⟩
set_option maxRecDepth 50000 in
theorem mc_X0_become : it_mc it_m_X0_become 1 := ⟨it_in_tb (List.mem_of_getElem? (i := 566) (rfl)) rfl, in_IcedTooSoon_House, ⟨by decide +kernel, by decide +kernel, by decide +kernel⟩, by decide⟩
set_option maxRecDepth 50000 in
theorem mc_X0_hasGuest : it_mc it_m_X0_hasGuest 1 := ⟨it_in_tb (List.mem_of_getElem? (i := 459) (rfl)) rfl, in_IcedTooSoon_House, ⟨by decide +kernel, by decide +kernel, by decide +kernel⟩, by decide⟩
set_option maxRecDepth 50000 in
theorem mc_X0_hasGlass : it_mc it_m_X0_hasGlass 1 := ⟨it_in_tb (List.mem_of_getElem? (i := 455) (rfl)) rfl, in_IcedTooSoon_House, ⟨by decide +kernel, by decide +kernel, by decide +kernel⟩, by decide⟩
set_option maxRecDepth 50000 in
theorem mc_X0_glassesThere : it_mc it_m_X0_glassesThere 0 := ⟨it_in_tb (List.mem_of_getElem? (i := 451) (rfl)) rfl, in_IcedTooSoon_House, ⟨by decide +kernel, by decide +kernel, by decide +kernel⟩, by decide⟩
set_option maxRecDepth 50000 in
theorem mc_X0_glassesOf : it_mc it_m_X0_glassesOf 1 := ⟨it_in_tb (List.mem_of_getElem? (i := 554) (rfl)) rfl, in_IcedTooSoon_House, ⟨by decide +kernel, by decide +kernel, by decide +kernel⟩, by decide⟩
set_option maxRecDepth 50000 in
theorem mc_X0_guestsBelow : it_mc it_m_X0_guestsBelow 1 := ⟨it_in_tb (List.mem_of_getElem? (i := 640) (rfl)) rfl, in_IcedTooSoon_House, ⟨by decide +kernel, by decide +kernel, by decide +kernel⟩, by decide⟩
set_option maxRecDepth 50000 in
theorem mc_X0_moodOfAll : it_mc it_m_X0_moodOfAll 0 := ⟨it_in_tb (List.mem_of_getElem? (i := 624) (rfl)) rfl, in_IcedTooSoon_House, ⟨by decide +kernel, by decide +kernel, by decide +kernel⟩, by decide⟩
set_option maxRecDepth 50000 in
theorem mc_X0_weightOfAll : it_mc it_m_X0_weightOfAll 0 := ⟨it_in_tb (List.mem_of_getElem? (i := 682) (rfl)) rfl, in_IcedTooSoon_House, ⟨by decide +kernel, by decide +kernel, by decide +kernel⟩, by decide⟩
set_option maxRecDepth 50000 in
theorem mc_X0_admit : it_mc it_m_X0_admit 2 := ⟨it_in_tb (List.mem_of_getElem? (i := 522) (rfl)) rfl, in_IcedTooSoon_House, ⟨by decide +kernel, by decide +kernel, by decide +kernel⟩, by decide⟩
set_option maxRecDepth 50000 in
theorem mc_X0_set : it_mc it_m_X0_set 3 := ⟨it_in_tb (List.mem_of_getElem? (i := 546) (rfl)) rfl, in_IcedTooSoon_House, ⟨by decide +kernel, by decide +kernel, by decide +kernel⟩, by decide⟩
set_option maxRecDepth 50000 in
theorem mc_X0_setKind : it_mc it_m_X0_setKind 3 := ⟨it_in_tb (List.mem_of_getElem? (i := 715) (rfl)) rfl, in_IcedTooSoon_House, ⟨by decide +kernel, by decide +kernel, by decide +kernel⟩, by decide⟩
set_option maxRecDepth 50000 in
theorem mc_X0_serve : it_mc it_m_X0_serve 3 := ⟨it_in_tb (List.mem_of_getElem? (i := 532) (rfl)) rfl, in_IcedTooSoon_House, ⟨by decide +kernel, by decide +kernel, by decide +kernel⟩, by decide⟩
set_option maxRecDepth 50000 in
theorem mc_X0_take : it_mc it_m_X0_take 1 := ⟨it_in_tb (List.mem_of_getElem? (i := 584) (rfl)) rfl, in_IcedTooSoon_House, ⟨by decide +kernel, by decide +kernel, by decide +kernel⟩, by decide⟩
set_option maxRecDepth 50000 in
theorem mc_X0_addIce : it_mc it_m_X0_addIce 2 := ⟨it_in_tb (List.mem_of_getElem? (i := 607) (rfl)) rfl, in_IcedTooSoon_House, ⟨by decide +kernel, by decide +kernel, by decide +kernel⟩, by decide⟩
set_option maxRecDepth 50000 in
theorem mc_X0_passDay : it_mc it_m_X0_passDay 0 := ⟨it_in_tb (List.mem_of_getElem? (i := 571) (rfl)) rfl, in_IcedTooSoon_House, ⟨by decide +kernel, by decide +kernel, by decide +kernel⟩, by decide⟩
set_option maxRecDepth 50000 in
theorem mc_X0_saying : it_mc it_m_X0_saying 2 := ⟨it_in_tb (List.mem_of_getElem? (i := 490) (rfl)) rfl, in_IcedTooSoon_House, ⟨by decide +kernel, by decide +kernel, by decide +kernel⟩, by decide⟩
set_option maxRecDepth 50000 in
theorem mc_X0_melting : it_mc it_m_X0_melting 1 := ⟨it_in_tb (List.mem_of_getElem? (i := 575) (rfl)) rfl, in_IcedTooSoon_House, ⟨by decide +kernel, by decide +kernel, by decide +kernel⟩, by decide⟩
set_option maxRecDepth 50000 in
theorem mc_X0_feeling : it_mc it_m_X0_feeling 1 := ⟨it_in_tb (List.mem_of_getElem? (i := 580) (rfl)) rfl, in_IcedTooSoon_House, ⟨by decide +kernel, by decide +kernel, by decide +kernel⟩, by decide⟩
set_option maxRecDepth 50000 in
theorem mc_X0_chilling : it_mc it_m_X0_chilling 1 := ⟨it_in_tb (List.mem_of_getElem? (i := 536) (rfl)) rfl, in_IcedTooSoon_House, ⟨by decide +kernel, by decide +kernel, by decide +kernel⟩, by decide⟩
set_option maxRecDepth 50000 in
theorem mc_X1_init : it_mc it_m_X1_init 0 := ⟨it_in_tb (List.mem_of_getElem? (i := 82) (rfl)) rfl, in_IcedTooSoon_Lawbook, ⟨by decide +kernel, by decide +kernel, by decide +kernel⟩, by decide⟩
set_option maxRecDepth 50000 in
theorem mc_X1_add : it_mc it_m_X1_add 1 := ⟨it_in_tb (List.mem_of_getElem? (i := 417) (rfl)) rfl, in_IcedTooSoon_Lawbook, ⟨by decide +kernel, by decide +kernel, by decide +kernel⟩, by decide⟩
set_option maxRecDepth 50000 in
theorem mc_X1_name : it_mc it_m_X1_name 6 := ⟨it_in_tb (List.mem_of_getElem? (i := 494) (rfl)) rfl, in_IcedTooSoon_Lawbook, ⟨by decide +kernel, by decide +kernel, by decide +kernel⟩, by decide⟩
set_option maxRecDepth 50000 in
theorem mc_X1_reckon : it_mc it_m_X1_reckon 2 := ⟨it_in_tb (List.mem_of_getElem? (i := 498) (rfl)) rfl, in_IcedTooSoon_Lawbook, ⟨by decide +kernel, by decide +kernel, by decide +kernel⟩, by decide⟩
set_option maxRecDepth 50000 in
theorem mc_X1_turned : it_mc it_m_X1_turned 2 := ⟨it_in_tb (List.mem_of_getElem? (i := 506) (rfl)) rfl, in_IcedTooSoon_Lawbook, ⟨by decide +kernel, by decide +kernel, by decide +kernel⟩, by decide⟩
set_option maxRecDepth 50000 in
theorem mc_X1_joined : it_mc it_m_X1_joined 3 := ⟨it_in_tb (List.mem_of_getElem? (i := 509) (rfl)) rfl, in_IcedTooSoon_Lawbook, ⟨by decide +kernel, by decide +kernel, by decide +kernel⟩, by decide⟩
set_option maxRecDepth 50000 in
theorem mc_X2_init : it_mc it_m_X2_init 0 := ⟨it_in_tb (List.mem_of_getElem? (i := 195) (rfl)) rfl, in_IcedTooSoon_Sheet, ⟨by decide +kernel, by decide +kernel, by decide +kernel⟩, by decide⟩
set_option maxRecDepth 50000 in
theorem mc_X2_renew : it_mc it_m_X2_renew 2 := ⟨it_in_tb (List.mem_of_getElem? (i := 739) (rfl)) rfl, in_IcedTooSoon_Sheet, ⟨by decide +kernel, by decide +kernel, by decide +kernel⟩, by decide⟩
set_option maxRecDepth 50000 in
theorem mc_X2_has : it_mc it_m_X2_has 1 := ⟨it_in_tb (List.mem_of_getElem? (i := 785) (rfl)) rfl, in_IcedTooSoon_Sheet, ⟨by decide +kernel, by decide +kernel, by decide +kernel⟩, by decide⟩
set_option maxRecDepth 50000 in
theorem mc_X2_write : it_mc it_m_X2_write 2 := ⟨it_in_tb (List.mem_of_getElem? (i := 744) (rfl)) rfl, in_IcedTooSoon_Sheet, ⟨by decide +kernel, by decide +kernel, by decide +kernel⟩, by decide⟩
set_option maxRecDepth 50000 in
theorem mc_X3_init : it_mc it_m_X3_init 0 := ⟨it_in_tb (List.mem_of_getElem? (i := 105) (rfl)) rfl, in_IcedTooSoon_Tape, ⟨by decide +kernel, by decide +kernel, by decide +kernel⟩, by decide⟩
set_option maxRecDepth 50000 in
theorem mc_X3_add : it_mc it_m_X3_add 1 := ⟨it_in_tb (List.mem_of_getElem? (i := 262) (rfl)) rfl, in_IcedTooSoon_Tape, ⟨by decide +kernel, by decide +kernel, by decide +kernel⟩, by decide⟩
set_option maxRecDepth 50000 in
theorem mc_X3_empty : it_mc it_m_X3_empty 0 := ⟨it_in_tb (List.mem_of_getElem? (i := 421) (rfl)) rfl, in_IcedTooSoon_Tape, ⟨by decide +kernel, by decide +kernel, by decide +kernel⟩, by decide⟩
set_option maxRecDepth 50000 in
theorem mc_X3_isName : it_mc it_m_X3_isName 1 := ⟨it_in_tb (List.mem_of_getElem? (i := 375) (rfl)) rfl, in_IcedTooSoon_Tape, ⟨by decide +kernel, by decide +kernel, by decide +kernel⟩, by decide⟩
set_option maxRecDepth 50000 in
theorem mc_X3_isTurn : it_mc it_m_X3_isTurn 1 := ⟨it_in_tb (List.mem_of_getElem? (i := 503) (rfl)) rfl, in_IcedTooSoon_Tape, ⟨by decide +kernel, by decide +kernel, by decide +kernel⟩, by decide⟩
set_option maxRecDepth 50000 in
theorem mc_X3_written : it_mc it_m_X3_written 0 := ⟨it_in_tb (List.mem_of_getElem? (i := 383) (rfl)) rfl, in_IcedTooSoon_Tape, ⟨by decide +kernel, by decide +kernel, by decide +kernel⟩, by decide⟩
set_option maxRecDepth 50000 in
theorem mc_X3_isRead : it_mc it_m_X3_isRead 0 := ⟨it_in_tb (List.mem_of_getElem? (i := 266) (rfl)) rfl, in_IcedTooSoon_Tape, ⟨by decide +kernel, by decide +kernel, by decide +kernel⟩, by decide⟩
set_option maxRecDepth 50000 in
theorem mc_X3_readLevel : it_mc it_m_X3_readLevel 2 := ⟨it_in_tb (List.mem_of_getElem? (i := 356) (rfl)) rfl, in_IcedTooSoon_Tape, ⟨by decide +kernel, by decide +kernel, by decide +kernel⟩, by decide⟩
set_option maxRecDepth 50000 in
theorem mc_X3_joins : it_mc it_m_X3_joins 1 := ⟨it_in_tb (List.mem_of_getElem? (i := 379) (rfl)) rfl, in_IcedTooSoon_Tape, ⟨by decide +kernel, by decide +kernel, by decide +kernel⟩, by decide⟩
set_option maxRecDepth 50000 in
theorem mc_X3_readOne : it_mc it_m_X3_readOne 1 := ⟨it_in_tb (List.mem_of_getElem? (i := 360) (rfl)) rfl, in_IcedTooSoon_Tape, ⟨by decide +kernel, by decide +kernel, by decide +kernel⟩, by decide⟩
set_option maxRecDepth 50000 in
theorem mc_X3_readTurned : it_mc it_m_X3_readTurned 2 := ⟨it_in_tb (List.mem_of_getElem? (i := 364) (rfl)) rfl, in_IcedTooSoon_Tape, ⟨by decide +kernel, by decide +kernel, by decide +kernel⟩, by decide⟩
set_option maxRecDepth 50000 in
theorem mc_X3_readInner : it_mc it_m_X3_readInner 1 := ⟨it_in_tb (List.mem_of_getElem? (i := 372) (rfl)) rfl, in_IcedTooSoon_Tape, ⟨by decide +kernel, by decide +kernel, by decide +kernel⟩, by decide⟩
set_option maxRecDepth 50000 in
theorem mc_X3_write : it_mc it_m_X3_write 1 := ⟨it_in_tb (List.mem_of_getElem? (i := 368) (rfl)) rfl, in_IcedTooSoon_Tape, ⟨by decide +kernel, by decide +kernel, by decide +kernel⟩, by decide⟩
set_option maxRecDepth 50000 in
theorem mc_X3_next : it_mc it_m_X3_next 0 := ⟨it_in_tb (List.mem_of_getElem? (i := 270) (rfl)) rfl, in_IcedTooSoon_Tape, ⟨by decide +kernel, by decide +kernel, by decide +kernel⟩, by decide⟩
set_option maxRecDepth 50000 in
theorem mc_X3_nextWord : it_mc it_m_X3_nextWord 0 := ⟨it_in_tb (List.mem_of_getElem? (i := 277) (rfl)) rfl, in_IcedTooSoon_Tape, ⟨by decide +kernel, by decide +kernel, by decide +kernel⟩, by decide⟩
set_option maxRecDepth 50000 in
theorem mc_X3_isWord : it_mc it_m_X3_isWord 1 := ⟨it_in_tb (List.mem_of_getElem? (i := 281) (rfl)) rfl, in_IcedTooSoon_Tape, ⟨by decide +kernel, by decide +kernel, by decide +kernel⟩, by decide⟩
set_option maxRecDepth 50000 in
theorem mc_X3_nextNumber : it_mc it_m_X3_nextNumber 0 := ⟨it_in_tb (List.mem_of_getElem? (i := 292) (rfl)) rfl, in_IcedTooSoon_Tape, ⟨by decide +kernel, by decide +kernel, by decide +kernel⟩, by decide⟩
set_option maxRecDepth 50000 in
theorem mc_X3_isLetter : it_mc it_m_X3_isLetter 1 := ⟨it_in_tb (List.mem_of_getElem? (i := 273) (rfl)) rfl, in_IcedTooSoon_Tape, ⟨by decide +kernel, by decide +kernel, by decide +kernel⟩, by decide⟩
set_option maxRecDepth 50000 in
theorem mc_X3_isDigit : it_mc it_m_X3_isDigit 1 := ⟨it_in_tb (List.mem_of_getElem? (i := 288) (rfl)) rfl, in_IcedTooSoon_Tape, ⟨by decide +kernel, by decide +kernel, by decide +kernel⟩, by decide⟩
set_option maxRecDepth 50000 in
theorem mc_X4_init : it_mc it_m_X4_init 2 := ⟨it_in_tb (List.mem_of_getElem? (i := 402) (rfl)) rfl, in_IcedTooSoon_Text, ⟨by decide +kernel, by decide +kernel, by decide +kernel⟩, by decide⟩
set_option maxRecDepth 50000 in
theorem mc_X5_init : it_mc it_m_X5_init 0 := ⟨it_in_tb (List.mem_of_getElem? (i := 74) (rfl)) rfl, in_IcedTooSoon, ⟨by decide +kernel, by decide +kernel, by decide +kernel⟩, by decide⟩
set_option maxRecDepth 50000 in
theorem mc_X5_count : it_mc it_m_X5_count 1 := ⟨it_in_tb (List.mem_of_getElem? (i := 447) (rfl)) rfl, in_IcedTooSoon, ⟨by decide +kernel, by decide +kernel, by decide +kernel⟩, by decide⟩
set_option maxRecDepth 50000 in
theorem mc_X5_dawn : it_mc it_m_X5_dawn 1 := ⟨it_in_tb (List.mem_of_getElem? (i := 463) (rfl)) rfl, in_IcedTooSoon, ⟨by decide +kernel, by decide +kernel, by decide +kernel⟩, by decide⟩
set_option maxRecDepth 50000 in
theorem mc_X5_feed : it_mc it_m_X5_feed 6 := ⟨it_in_tb (List.mem_of_getElem? (i := 470) (rfl)) rfl, in_IcedTooSoon, ⟨by decide +kernel, by decide +kernel, by decide +kernel⟩, by decide⟩
set_option maxRecDepth 50000 in
theorem mc_X5_text : it_mc it_m_X5_text 0 := ⟨it_in_tb (List.mem_of_getElem? (i := 477) (rfl)) rfl, in_IcedTooSoon, ⟨by decide +kernel, by decide +kernel, by decide +kernel⟩, by decide⟩
set_option maxRecDepth 50000 in
theorem mc_X5_force : it_mc it_m_X5_force 1 := ⟨it_in_tb (List.mem_of_getElem? (i := 481) (rfl)) rfl, in_IcedTooSoon, ⟨by decide +kernel, by decide +kernel, by decide +kernel⟩, by decide⟩
set_option maxRecDepth 50000 in
theorem mc_X5_asks : it_mc it_m_X5_asks 2 := ⟨it_in_tb (List.mem_of_getElem? (i := 485) (rfl)) rfl, in_IcedTooSoon, ⟨by decide +kernel, by decide +kernel, by decide +kernel⟩, by decide⟩
set_option maxRecDepth 50000 in
theorem mc_X5_guest : it_mc it_m_X5_guest 2 := ⟨it_in_tb (List.mem_of_getElem? (i := 518) (rfl)) rfl, in_IcedTooSoon, ⟨by decide +kernel, by decide +kernel, by decide +kernel⟩, by decide⟩
set_option maxRecDepth 50000 in
theorem mc_X5_order : it_mc it_m_X5_order 3 := ⟨it_in_tb (List.mem_of_getElem? (i := 527) (rfl)) rfl, in_IcedTooSoon, ⟨by decide +kernel, by decide +kernel, by decide +kernel⟩, by decide⟩
set_option maxRecDepth 50000 in
theorem mc_X5_put : it_mc it_m_X5_put 3 := ⟨it_in_tb (List.mem_of_getElem? (i := 542) (rfl)) rfl, in_IcedTooSoon, ⟨by decide +kernel, by decide +kernel, by decide +kernel⟩, by decide⟩
set_option maxRecDepth 50000 in
theorem mc_X5_told : it_mc it_m_X5_told 2 := ⟨it_in_tb (List.mem_of_getElem? (i := 550) (rfl)) rfl, in_IcedTooSoon, ⟨by decide +kernel, by decide +kernel, by decide +kernel⟩, by decide⟩
set_option maxRecDepth 50000 in
theorem mc_X5_glass : it_mc it_m_X5_glass 2 := ⟨it_in_tb (List.mem_of_getElem? (i := 592) (rfl)) rfl, in_IcedTooSoon, ⟨by decide +kernel, by decide +kernel, by decide +kernel⟩, by decide⟩
set_option maxRecDepth 50000 in
theorem mc_X5_day : it_mc it_m_X5_day 0 := ⟨it_in_tb (List.mem_of_getElem? (i := 599) (rfl)) rfl, in_IcedTooSoon, ⟨by decide +kernel, by decide +kernel, by decide +kernel⟩, by decide⟩
set_option maxRecDepth 50000 in
theorem mc_X5_iced : it_mc it_m_X5_iced 2 := ⟨it_in_tb (List.mem_of_getElem? (i := 603) (rfl)) rfl, in_IcedTooSoon, ⟨by decide +kernel, by decide +kernel, by decide +kernel⟩, by decide⟩
set_option maxRecDepth 50000 in
theorem mc_X5_spill : it_mc it_m_X5_spill 1 := ⟨it_in_tb (List.mem_of_getElem? (i := 611) (rfl)) rfl, in_IcedTooSoon, ⟨by decide +kernel, by decide +kernel, by decide +kernel⟩, by decide⟩
set_option maxRecDepth 50000 in
theorem mc_X5_run : it_mc it_m_X5_run 2 := ⟨it_in_tb (List.mem_of_getElem? (i := 616) (rfl)) rfl, in_IcedTooSoon, ⟨by decide +kernel, by decide +kernel, by decide +kernel⟩, by decide⟩
set_option maxRecDepth 50000 in
theorem mc_X5_goesOff : it_mc it_m_X5_goesOff 1 := ⟨it_in_tb (List.mem_of_getElem? (i := 628) (rfl)) rfl, in_IcedTooSoon, ⟨by decide +kernel, by decide +kernel, by decide +kernel⟩, by decide⟩
set_option maxRecDepth 50000 in
theorem mc_X5_worst : it_mc it_m_X5_worst 3 := ⟨it_in_tb (List.mem_of_getElem? (i := 632) (rfl)) rfl, in_IcedTooSoon, ⟨by decide +kernel, by decide +kernel, by decide +kernel⟩, by decide⟩
set_option maxRecDepth 50000 in
theorem mc_X5_falls : it_mc it_m_X5_falls 2 := ⟨it_in_tb (List.mem_of_getElem? (i := 636) (rfl)) rfl, in_IcedTooSoon, ⟨by decide +kernel, by decide +kernel, by decide +kernel⟩, by decide⟩
set_option maxRecDepth 50000 in
theorem mc_X5_again : it_mc it_m_X5_again 3 := ⟨it_in_tb (List.mem_of_getElem? (i := 644) (rfl)) rfl, in_IcedTooSoon, ⟨by decide +kernel, by decide +kernel, by decide +kernel⟩, by decide⟩
set_option maxRecDepth 50000 in
theorem mc_X5_spilt : it_mc it_m_X5_spilt 2 := ⟨it_in_tb (List.mem_of_getElem? (i := 652) (rfl)) rfl, in_IcedTooSoon, ⟨by decide +kernel, by decide +kernel, by decide +kernel⟩, by decide⟩
set_option maxRecDepth 50000 in
theorem mc_X5_round : it_mc it_m_X5_round 3 := ⟨it_in_tb (List.mem_of_getElem? (i := 660) (rfl)) rfl, in_IcedTooSoon, ⟨by decide +kernel, by decide +kernel, by decide +kernel⟩, by decide⟩
set_option maxRecDepth 50000 in
theorem mc_X5_mean : it_mc it_m_X5_mean 1 := ⟨it_in_tb (List.mem_of_getElem? (i := 677) (rfl)) rfl, in_IcedTooSoon, ⟨by decide +kernel, by decide +kernel, by decide +kernel⟩, by decide⟩
set_option maxRecDepth 50000 in
theorem mc_X5_judge : it_mc it_m_X5_judge 2 := ⟨it_in_tb (List.mem_of_getElem? (i := 692) (rfl)) rfl, in_IcedTooSoon, ⟨by decide +kernel, by decide +kernel, by decide +kernel⟩, by decide⟩
set_option maxRecDepth 50000 in
theorem mc_X5_kinds : it_mc it_m_X5_kinds 3 := ⟨it_in_tb (List.mem_of_getElem? (i := 711) (rfl)) rfl, in_IcedTooSoon, ⟨by decide +kernel, by decide +kernel, by decide +kernel⟩, by decide⟩
set_option maxRecDepth 50000 in
theorem mc_X5_states : it_mc it_m_X5_states 4 := ⟨it_in_tb (List.mem_of_getElem? (i := 719) (rfl)) rfl, in_IcedTooSoon, ⟨by decide +kernel, by decide +kernel, by decide +kernel⟩, by decide⟩
set_option maxRecDepth 50000 in
theorem mc_X5_owners : it_mc it_m_X5_owners 2 := ⟨it_in_tb (List.mem_of_getElem? (i := 723) (rfl)) rfl, in_IcedTooSoon, ⟨by decide +kernel, by decide +kernel, by decide +kernel⟩, by decide⟩
set_option maxRecDepth 50000 in
theorem mc_X5_who : it_mc it_m_X5_who 1 := ⟨it_in_tb (List.mem_of_getElem? (i := 727) (rfl)) rfl, in_IcedTooSoon, ⟨by decide +kernel, by decide +kernel, by decide +kernel⟩, by decide⟩
set_option maxRecDepth 50000 in
theorem mc_X5_laws : it_mc it_m_X5_laws 2 := ⟨it_in_tb (List.mem_of_getElem? (i := 731) (rfl)) rfl, in_IcedTooSoon, ⟨by decide +kernel, by decide +kernel, by decide +kernel⟩, by decide⟩
set_option maxRecDepth 50000 in
theorem mc_X5_film : it_mc it_m_X5_film 3 := ⟨it_in_tb (List.mem_of_getElem? (i := 735) (rfl)) rfl, in_IcedTooSoon, ⟨by decide +kernel, by decide +kernel, by decide +kernel⟩, by decide⟩
set_option maxRecDepth 50000 in
theorem mc_X5_drawn : it_mc it_m_X5_drawn 2 := ⟨it_in_tb (List.mem_of_getElem? (i := 748) (rfl)) rfl, in_IcedTooSoon, ⟨by decide +kernel, by decide +kernel, by decide +kernel⟩, by decide⟩
set_option maxRecDepth 50000 in
theorem mc_X5_odds : it_mc it_m_X5_odds 4 := ⟨it_in_tb (List.mem_of_getElem? (i := 765) (rfl)) rfl, in_IcedTooSoon, ⟨by decide +kernel, by decide +kernel, by decide +kernel⟩, by decide⟩
set_option maxRecDepth 50000 in
theorem mc_X5_image : it_mc it_m_X5_image 0 := ⟨it_in_tb (List.mem_of_getElem? (i := 769) (rfl)) rfl, in_IcedTooSoon, ⟨by decide +kernel, by decide +kernel, by decide +kernel⟩, by decide⟩
set_option maxRecDepth 50000 in
theorem mc_X5_back : it_mc it_m_X5_back 0 := ⟨it_in_tb (List.mem_of_getElem? (i := 773) (rfl)) rfl, in_IcedTooSoon, ⟨by decide +kernel, by decide +kernel, by decide +kernel⟩, by decide⟩
set_option maxRecDepth 50000 in
theorem mc_X5_sheet : it_mc it_m_X5_sheet 3 := ⟨it_in_tb (List.mem_of_getElem? (i := 777) (rfl)) rfl, in_IcedTooSoon, ⟨by decide +kernel, by decide +kernel, by decide +kernel⟩, by decide⟩
set_option maxRecDepth 50000 in
theorem mc_X5_cell : it_mc it_m_X5_cell 3 := ⟨it_in_tb (List.mem_of_getElem? (i := 781) (rfl)) rfl, in_IcedTooSoon, ⟨by decide +kernel, by decide +kernel, by decide +kernel⟩, by decide⟩
set_option maxRecDepth 50000 in
theorem mc_X5_copy : it_mc it_m_X5_copy 5 := ⟨it_in_tb (List.mem_of_getElem? (i := 789) (rfl)) rfl, in_IcedTooSoon, ⟨by decide +kernel, by decide +kernel, by decide +kernel⟩, by decide⟩
set_option maxRecDepth 50000 in
theorem mc_X5_guestsBy : it_mc it_m_X5_guestsBy 4 := ⟨it_in_tb (List.mem_of_getElem? (i := 794) (rfl)) rfl, in_IcedTooSoon, ⟨by decide +kernel, by decide +kernel, by decide +kernel⟩, by decide⟩
set_option maxRecDepth 50000 in
theorem mc_X5_taken : it_mc it_m_X5_taken 2 := ⟨it_in_tb (List.mem_of_getElem? (i := 798) (rfl)) rfl, in_IcedTooSoon, ⟨by decide +kernel, by decide +kernel, by decide +kernel⟩, by decide⟩
set_option maxRecDepth 50000 in
theorem mc_X5_isOutside : it_mc it_m_X5_isOutside 3 := ⟨it_in_tb (List.mem_of_getElem? (i := 466) (rfl)) rfl, in_IcedTooSoon, ⟨by decide +kernel, by decide +kernel, by decide +kernel⟩, by decide⟩
set_option maxRecDepth 50000 in
theorem mc_X5_isNoByte : it_mc it_m_X5_isNoByte 1 := ⟨it_in_tb (List.mem_of_getElem? (i := 473) (rfl)) rfl, in_IcedTooSoon, ⟨by decide +kernel, by decide +kernel, by decide +kernel⟩, by decide⟩
set_option maxRecDepth 50000 in
theorem mc_X5_isNoSheet : it_mc it_m_X5_isNoSheet 1 := ⟨it_in_tb (List.mem_of_getElem? (i := 703) (rfl)) rfl, in_IcedTooSoon, ⟨by decide +kernel, by decide +kernel, by decide +kernel⟩, by decide⟩
set_option maxRecDepth 50000 in
theorem mc_X5_bounded : it_mc it_m_X5_bounded 3 := ⟨it_in_tb (List.mem_of_getElem? (i := 512) (rfl)) rfl, in_IcedTooSoon, ⟨by decide +kernel, by decide +kernel, by decide +kernel⟩, by decide⟩
set_option maxRecDepth 50000 in
theorem mc_X5_isOfKind : it_mc it_m_X5_isOfKind 2 := ⟨it_in_tb (List.mem_of_getElem? (i := 801) (rfl)) rfl, in_IcedTooSoon, ⟨by decide +kernel, by decide +kernel, by decide +kernel⟩, by decide⟩
set_option maxRecDepth 50000 in
theorem mc_X5_oneOf : it_mc it_m_X5_oneOf 1 := ⟨it_in_tb (List.mem_of_getElem? (i := 619) (rfl)) rfl, in_IcedTooSoon, ⟨by decide +kernel, by decide +kernel, by decide +kernel⟩, by decide⟩
set_option maxRecDepth 50000 in
theorem mc_X5_isAhead : it_mc it_m_X5_isAhead 2 := ⟨it_in_tb (List.mem_of_getElem? (i := 667) (rfl)) rfl, in_IcedTooSoon, ⟨by decide +kernel, by decide +kernel, by decide +kernel⟩, by decide⟩
set_option maxRecDepth 50000 in
theorem mc_X5_inLowestTerms : it_mc it_m_X5_inLowestTerms 3 := ⟨it_in_tb (List.mem_of_getElem? (i := 685) (rfl)) rfl, in_IcedTooSoon, ⟨by decide +kernel, by decide +kernel, by decide +kernel⟩, by decide⟩
set_option maxRecDepth 50000 in
theorem mc_X5_think : it_mc it_m_X5_think 0 := ⟨it_in_tb (List.mem_of_getElem? (i := 562) (rfl)) rfl, in_IcedTooSoon, ⟨by decide +kernel, by decide +kernel, by decide +kernel⟩, by decide⟩
set_option maxRecDepth 50000 in
theorem mc_X5_nextOff : it_mc it_m_X5_nextOff 1 := ⟨it_in_tb (List.mem_of_getElem? (i := 558) (rfl)) rfl, in_IcedTooSoon, ⟨by decide +kernel, by decide +kernel, by decide +kernel⟩, by decide⟩
set_option maxRecDepth 50000 in
theorem mc_X5_moodIfIced : it_mc it_m_X5_moodIfIced 3 := ⟨it_in_tb (List.mem_of_getElem? (i := 648) (rfl)) rfl, in_IcedTooSoon, ⟨by decide +kernel, by decide +kernel, by decide +kernel⟩, by decide⟩
set_option maxRecDepth 50000 in
theorem mc_X5_roundOf : it_mc it_m_X5_roundOf 3 := ⟨it_in_tb (List.mem_of_getElem? (i := 664) (rfl)) rfl, in_IcedTooSoon, ⟨by decide +kernel, by decide +kernel, by decide +kernel⟩, by decide⟩
set_option maxRecDepth 50000 in
theorem mc_X5_moodIfSpilt : it_mc it_m_X5_moodIfSpilt 2 := ⟨it_in_tb (List.mem_of_getElem? (i := 656) (rfl)) rfl, in_IcedTooSoon, ⟨by decide +kernel, by decide +kernel, by decide +kernel⟩, by decide⟩
set_option maxRecDepth 50000 in
theorem mc_X5_refusalOfSheet : it_mc it_m_X5_refusalOfSheet 1 := ⟨it_in_tb (List.mem_of_getElem? (i := 700) (rfl)) rfl, in_IcedTooSoon, ⟨by decide +kernel, by decide +kernel, by decide +kernel⟩, by decide⟩
set_option maxRecDepth 50000 in
theorem mc_X5_refusalOfDays : it_mc it_m_X5_refusalOfDays 2 := ⟨it_in_tb (List.mem_of_getElem? (i := 696) (rfl)) rfl, in_IcedTooSoon, ⟨by decide +kernel, by decide +kernel, by decide +kernel⟩, by decide⟩
set_option maxRecDepth 50000 in
theorem mc_X5_firstOtherwise : it_mc it_m_X5_firstOtherwise 2 := ⟨it_in_tb (List.mem_of_getElem? (i := 707) (rfl)) rfl, in_IcedTooSoon, ⟨by decide +kernel, by decide +kernel, by decide +kernel⟩, by decide⟩
set_option maxRecDepth 50000 in
theorem mc_X5_thinkOfLots : it_mc it_m_X5_thinkOfLots 1 := ⟨it_in_tb (List.mem_of_getElem? (i := 753) (rfl)) rfl, in_IcedTooSoon, ⟨by decide +kernel, by decide +kernel, by decide +kernel⟩, by decide⟩
set_option maxRecDepth 50000 in
theorem mc_X5_lotBehind : it_mc it_m_X5_lotBehind 1 := ⟨it_in_tb (List.mem_of_getElem? (i := 756) (rfl)) rfl, in_IcedTooSoon, ⟨by decide +kernel, by decide +kernel, by decide +kernel⟩, by decide⟩
set_option maxRecDepth 50000 in
theorem mc_X6_init : it_mc it_m_X6_init 0 := ⟨it_in_tb (List.mem_of_getElem? (i := 808) (rfl)) rfl, in_IcedTooSoonModel, ⟨by decide +kernel, by decide +kernel, by decide +kernel⟩, by decide⟩
set_option maxRecDepth 50000 in
theorem mc_X6_in : it_mc it_m_X6_in 3 := ⟨it_in_tb (List.mem_of_getElem? (i := 820) (rfl)) rfl, in_IcedTooSoonModel, ⟨by decide +kernel, by decide +kernel, by decide +kernel⟩, by decide⟩
set_option maxRecDepth 50000 in
theorem mc_X6_within : it_mc it_m_X6_within 3 := ⟨it_in_tb (List.mem_of_getElem? (i := 974) (rfl)) rfl, in_IcedTooSoonModel, ⟨by decide +kernel, by decide +kernel, by decide +kernel⟩, by decide⟩
set_option maxRecDepth 50000 in
theorem mc_X6_isOne : it_mc it_m_X6_isOne 1 := ⟨it_in_tb (List.mem_of_getElem? (i := 1017) (rfl)) rfl, in_IcedTooSoonModel, ⟨by decide +kernel, by decide +kernel, by decide +kernel⟩, by decide⟩
set_option maxRecDepth 50000 in
theorem mc_X6_isThere : it_mc it_m_X6_isThere 1 := ⟨it_in_tb (List.mem_of_getElem? (i := 971) (rfl)) rfl, in_IcedTooSoonModel, ⟨by decide +kernel, by decide +kernel, by decide +kernel⟩, by decide⟩
set_option maxRecDepth 50000 in
theorem mc_X6_many : it_mc it_m_X6_many 0 := ⟨it_in_tb (List.mem_of_getElem? (i := 967) (rfl)) rfl, in_IcedTooSoonModel, ⟨by decide +kernel, by decide +kernel, by decide +kernel⟩, by decide⟩
set_option maxRecDepth 50000 in
theorem mc_X6_moodAll : it_mc it_m_X6_moodAll 0 := ⟨it_in_tb (List.mem_of_getElem? (i := 1094) (rfl)) rfl, in_IcedTooSoonModel, ⟨by decide +kernel, by decide +kernel, by decide +kernel⟩, by decide⟩
set_option maxRecDepth 50000 in
theorem mc_X6_count : it_mc it_m_X6_count 1 := ⟨it_in_tb (List.mem_of_getElem? (i := 963) (rfl)) rfl, in_IcedTooSoonModel, ⟨by decide +kernel, by decide +kernel, by decide +kernel⟩, by decide⟩
set_option maxRecDepth 50000 in
theorem mc_X6_dawn : it_mc it_m_X6_dawn 1 := ⟨it_in_tb (List.mem_of_getElem? (i := 978) (rfl)) rfl, in_IcedTooSoonModel, ⟨by decide +kernel, by decide +kernel, by decide +kernel⟩, by decide⟩
set_option maxRecDepth 50000 in
theorem mc_X6_isByte : it_mc it_m_X6_isByte 1 := ⟨it_in_tb (List.mem_of_getElem? (i := 985) (rfl)) rfl, in_IcedTooSoonModel, ⟨by decide +kernel, by decide +kernel, by decide +kernel⟩, by decide⟩
set_option maxRecDepth 50000 in
theorem mc_X6_feed : it_mc it_m_X6_feed 6 := ⟨it_in_tb (List.mem_of_getElem? (i := 982) (rfl)) rfl, in_IcedTooSoonModel, ⟨by decide +kernel, by decide +kernel, by decide +kernel⟩, by decide⟩
set_option maxRecDepth 50000 in
theorem mc_X6_wordFrom : it_mc it_m_X6_wordFrom 2 := ⟨it_in_tb (List.mem_of_getElem? (i := 824) (rfl)) rfl, in_IcedTooSoonModel, ⟨by decide +kernel, by decide +kernel, by decide +kernel⟩, by decide⟩
set_option maxRecDepth 50000 in
theorem mc_X6_next : it_mc it_m_X6_next 0 := ⟨it_in_tb (List.mem_of_getElem? (i := 817) (rfl)) rfl, in_IcedTooSoonModel, ⟨by decide +kernel, by decide +kernel, by decide +kernel⟩, by decide⟩
set_option maxRecDepth 50000 in
theorem mc_X6_rank : it_mc it_m_X6_rank 1 := ⟨it_in_tb (List.mem_of_getElem? (i := 840) (rfl)) rfl, in_IcedTooSoonModel, ⟨by decide +kernel, by decide +kernel, by decide +kernel⟩, by decide⟩
set_option maxRecDepth 50000 in
theorem mc_X6_puts : it_mc it_m_X6_puts 1 := ⟨it_in_tb (List.mem_of_getElem? (i := 833) (rfl)) rfl, in_IcedTooSoonModel, ⟨by decide +kernel, by decide +kernel, by decide +kernel⟩, by decide⟩
set_option maxRecDepth 50000 in
theorem mc_X6_unwinds : it_mc it_m_X6_unwinds 1 := ⟨it_in_tb (List.mem_of_getElem? (i := 837) (rfl)) rfl, in_IcedTooSoonModel, ⟨by decide +kernel, by decide +kernel, by decide +kernel⟩, by decide⟩
set_option maxRecDepth 50000 in
theorem mc_X6_holds : it_mc it_m_X6_holds 1 := ⟨it_in_tb (List.mem_of_getElem? (i := 848) (rfl)) rfl, in_IcedTooSoonModel, ⟨by decide +kernel, by decide +kernel, by decide +kernel⟩, by decide⟩
set_option maxRecDepth 50000 in
theorem mc_X6_opensOne : it_mc it_m_X6_opensOne 1 := ⟨it_in_tb (List.mem_of_getElem? (i := 844) (rfl)) rfl, in_IcedTooSoonModel, ⟨by decide +kernel, by decide +kernel, by decide +kernel⟩, by decide⟩
set_option maxRecDepth 50000 in
theorem mc_X6_between : it_mc it_m_X6_between 1 := ⟨it_in_tb (List.mem_of_getElem? (i := 856) (rfl)) rfl, in_IcedTooSoonModel, ⟨by decide +kernel, by decide +kernel, by decide +kernel⟩, by decide⟩
set_option maxRecDepth 50000 in
theorem mc_X6_signOf : it_mc it_m_X6_signOf 0 := ⟨it_in_tb (List.mem_of_getElem? (i := 852) (rfl)) rfl, in_IcedTooSoonModel, ⟨by decide +kernel, by decide +kernel, by decide +kernel⟩, by decide⟩
set_option maxRecDepth 50000 in
theorem mc_X6_eRead : it_mc it_m_X6_eRead 0 := ⟨it_in_tb (List.mem_of_getElem? (i := 828) (rfl)) rfl, in_IcedTooSoonModel, ⟨by decide +kernel, by decide +kernel, by decide +kernel⟩, by decide⟩
set_option maxRecDepth 50000 in
theorem mc_X6_text : it_mc it_m_X6_text 0 := ⟨it_in_tb (List.mem_of_getElem? (i := 813) (rfl)) rfl, in_IcedTooSoonModel, ⟨by decide +kernel, by decide +kernel, by decide +kernel⟩, by decide⟩
set_option maxRecDepth 50000 in
theorem mc_X6_two : it_mc it_m_X6_two 3 := ⟨it_in_tb (List.mem_of_getElem? (i := 1005) (rfl)) rfl, in_IcedTooSoonModel, ⟨by decide +kernel, by decide +kernel, by decide +kernel⟩, by decide⟩
set_option maxRecDepth 50000 in
theorem mc_X6_says : it_mc it_m_X6_says 1 := ⟨it_in_tb (List.mem_of_getElem? (i := 1002) (rfl)) rfl, in_IcedTooSoonModel, ⟨by decide +kernel, by decide +kernel, by decide +kernel⟩, by decide⟩
set_option maxRecDepth 50000 in
theorem mc_X6_force : it_mc it_m_X6_force 1 := ⟨it_in_tb (List.mem_of_getElem? (i := 990) (rfl)) rfl, in_IcedTooSoonModel, ⟨by decide +kernel, by decide +kernel, by decide +kernel⟩, by decide⟩
set_option maxRecDepth 50000 in
theorem mc_X6_asksOf : it_mc it_m_X6_asksOf 2 := ⟨it_in_tb (List.mem_of_getElem? (i := 998) (rfl)) rfl, in_IcedTooSoonModel, ⟨by decide +kernel, by decide +kernel, by decide +kernel⟩, by decide⟩
set_option maxRecDepth 50000 in
theorem mc_X6_asks : it_mc it_m_X6_asks 2 := ⟨it_in_tb (List.mem_of_getElem? (i := 994) (rfl)) rfl, in_IcedTooSoonModel, ⟨by decide +kernel, by decide +kernel, by decide +kernel⟩, by decide⟩
set_option maxRecDepth 50000 in
theorem mc_X6_guest : it_mc it_m_X6_guest 2 := ⟨it_in_tb (List.mem_of_getElem? (i := 1009) (rfl)) rfl, in_IcedTooSoonModel, ⟨by decide +kernel, by decide +kernel, by decide +kernel⟩, by decide⟩
set_option maxRecDepth 50000 in
theorem mc_X6_meltsOf : it_mc it_m_X6_meltsOf 1 := ⟨it_in_tb (List.mem_of_getElem? (i := 1053) (rfl)) rfl, in_IcedTooSoonModel, ⟨by decide +kernel, by decide +kernel, by decide +kernel⟩, by decide⟩
set_option maxRecDepth 50000 in
theorem mc_X6_feelsOf : it_mc it_m_X6_feelsOf 1 := ⟨it_in_tb (List.mem_of_getElem? (i := 1057) (rfl)) rfl, in_IcedTooSoonModel, ⟨by decide +kernel, by decide +kernel, by decide +kernel⟩, by decide⟩
set_option maxRecDepth 50000 in
theorem mc_X6_chillsOf : it_mc it_m_X6_chillsOf 1 := ⟨it_in_tb (List.mem_of_getElem? (i := 1025) (rfl)) rfl, in_IcedTooSoonModel, ⟨by decide +kernel, by decide +kernel, by decide +kernel⟩, by decide⟩
set_option maxRecDepth 50000 in
theorem mc_X6_ordered : it_mc it_m_X6_ordered 3 := ⟨it_in_tb (List.mem_of_getElem? (i := 1021) (rfl)) rfl, in_IcedTooSoonModel, ⟨by decide +kernel, by decide +kernel, by decide +kernel⟩, by decide⟩
set_option maxRecDepth 50000 in
theorem mc_X6_order : it_mc it_m_X6_order 3 := ⟨it_in_tb (List.mem_of_getElem? (i := 1013) (rfl)) rfl, in_IcedTooSoonModel, ⟨by decide +kernel, by decide +kernel, by decide +kernel⟩, by decide⟩
set_option maxRecDepth 50000 in
theorem mc_X6_put : it_mc it_m_X6_put 3 := ⟨it_in_tb (List.mem_of_getElem? (i := 1029) (rfl)) rfl, in_IcedTooSoonModel, ⟨by decide +kernel, by decide +kernel, by decide +kernel⟩, by decide⟩
set_option maxRecDepth 50000 in
theorem mc_X6_glassesOf : it_mc it_m_X6_glassesOf 1 := ⟨it_in_tb (List.mem_of_getElem? (i := 1037) (rfl)) rfl, in_IcedTooSoonModel, ⟨by decide +kernel, by decide +kernel, by decide +kernel⟩, by decide⟩
set_option maxRecDepth 50000 in
theorem mc_X6_told : it_mc it_m_X6_told 2 := ⟨it_in_tb (List.mem_of_getElem? (i := 1033) (rfl)) rfl, in_IcedTooSoonModel, ⟨by decide +kernel, by decide +kernel, by decide +kernel⟩, by decide⟩
set_option maxRecDepth 50000 in
theorem mc_X6_glass : it_mc it_m_X6_glass 2 := ⟨it_in_tb (List.mem_of_getElem? (i := 1065) (rfl)) rfl, in_IcedTooSoonModel, ⟨by decide +kernel, by decide +kernel, by decide +kernel⟩, by decide⟩
set_option maxRecDepth 50000 in
theorem mc_X6_dayOf : it_mc it_m_X6_dayOf 0 := ⟨it_in_tb (List.mem_of_getElem? (i := 1049) (rfl)) rfl, in_IcedTooSoonModel, ⟨by decide +kernel, by decide +kernel, by decide +kernel⟩, by decide⟩
set_option maxRecDepth 50000 in
theorem mc_X6_day : it_mc it_m_X6_day 0 := ⟨it_in_tb (List.mem_of_getElem? (i := 1069) (rfl)) rfl, in_IcedTooSoonModel, ⟨by decide +kernel, by decide +kernel, by decide +kernel⟩, by decide⟩
set_option maxRecDepth 50000 in
theorem mc_X6_iced : it_mc it_m_X6_iced 2 := ⟨it_in_tb (List.mem_of_getElem? (i := 1073) (rfl)) rfl, in_IcedTooSoonModel, ⟨by decide +kernel, by decide +kernel, by decide +kernel⟩, by decide⟩
set_option maxRecDepth 50000 in
theorem mc_X6_spill : it_mc it_m_X6_spill 1 := ⟨it_in_tb (List.mem_of_getElem? (i := 1077) (rfl)) rfl, in_IcedTooSoonModel, ⟨by decide +kernel, by decide +kernel, by decide +kernel⟩, by decide⟩
set_option maxRecDepth 50000 in
theorem mc_X6_keeps : it_mc it_m_X6_keeps 0 := ⟨it_in_tb (List.mem_of_getElem? (i := 1045) (rfl)) rfl, in_IcedTooSoonModel, ⟨by decide +kernel, by decide +kernel, by decide +kernel⟩, by decide⟩
set_option maxRecDepth 50000 in
theorem mc_X6_lays : it_mc it_m_X6_lays 0 := ⟨it_in_tb (List.mem_of_getElem? (i := 1061) (rfl)) rfl, in_IcedTooSoonModel, ⟨by decide +kernel, by decide +kernel, by decide +kernel⟩, by decide⟩
set_option maxRecDepth 50000 in
theorem mc_X6_goes : it_mc it_m_X6_goes 1 := ⟨it_in_tb (List.mem_of_getElem? (i := 1086) (rfl)) rfl, in_IcedTooSoonModel, ⟨by decide +kernel, by decide +kernel, by decide +kernel⟩, by decide⟩
set_option maxRecDepth 50000 in
theorem mc_X6_firstOff : it_mc it_m_X6_firstOff 1 := ⟨it_in_tb (List.mem_of_getElem? (i := 1041) (rfl)) rfl, in_IcedTooSoonModel, ⟨by decide +kernel, by decide +kernel, by decide +kernel⟩, by decide⟩
set_option maxRecDepth 50000 in
theorem mc_X6_toldBehind : it_mc it_m_X6_toldBehind 1 := ⟨it_in_tb (List.mem_of_getElem? (i := 1090) (rfl)) rfl, in_IcedTooSoonModel, ⟨by decide +kernel, by decide +kernel, by decide +kernel⟩, by decide⟩
set_option maxRecDepth 50000 in
theorem mc_X6_run : it_mc it_m_X6_run 2 := ⟨it_in_tb (List.mem_of_getElem? (i := 1081) (rfl)) rfl, in_IcedTooSoonModel, ⟨by decide +kernel, by decide +kernel, by decide +kernel⟩, by decide⟩
set_option maxRecDepth 50000 in
theorem mc_X6_goesOff : it_mc it_m_X6_goesOff 1 := ⟨it_in_tb (List.mem_of_getElem? (i := 1098) (rfl)) rfl, in_IcedTooSoonModel, ⟨by decide +kernel, by decide +kernel, by decide +kernel⟩, by decide⟩
set_option maxRecDepth 50000 in
theorem mc_X6_worst : it_mc it_m_X6_worst 3 := ⟨it_in_tb (List.mem_of_getElem? (i := 1102) (rfl)) rfl, in_IcedTooSoonModel, ⟨by decide +kernel, by decide +kernel, by decide +kernel⟩, by decide⟩
set_option maxRecDepth 50000 in
theorem mc_X6_belowSet : it_mc it_m_X6_belowSet 1 := ⟨it_in_tb (List.mem_of_getElem? (i := 1110) (rfl)) rfl, in_IcedTooSoonModel, ⟨by decide +kernel, by decide +kernel, by decide +kernel⟩, by decide⟩
set_option maxRecDepth 50000 in
theorem mc_X6_falls : it_mc it_m_X6_falls 2 := ⟨it_in_tb (List.mem_of_getElem? (i := 1106) (rfl)) rfl, in_IcedTooSoonModel, ⟨by decide +kernel, by decide +kernel, by decide +kernel⟩, by decide⟩
set_option maxRecDepth 50000 in
theorem mc_X6_moodBehind : it_mc it_m_X6_moodBehind 1 := ⟨it_in_tb (List.mem_of_getElem? (i := 1118) (rfl)) rfl, in_IcedTooSoonModel, ⟨by decide +kernel, by decide +kernel, by decide +kernel⟩, by decide⟩
set_option maxRecDepth 50000 in
theorem mc_X6_again : it_mc it_m_X6_again 3 := ⟨it_in_tb (List.mem_of_getElem? (i := 1114) (rfl)) rfl, in_IcedTooSoonModel, ⟨by decide +kernel, by decide +kernel, by decide +kernel⟩, by decide⟩
set_option maxRecDepth 50000 in
theorem mc_X6_spilt : it_mc it_m_X6_spilt 2 := ⟨it_in_tb (List.mem_of_getElem? (i := 1122) (rfl)) rfl, in_IcedTooSoonModel, ⟨by decide +kernel, by decide +kernel, by decide +kernel⟩, by decide⟩
set_option maxRecDepth 50000 in
theorem mc_X6_ices : it_mc it_m_X6_ices 2 := ⟨it_in_tb (List.mem_of_getElem? (i := 1130) (rfl)) rfl, in_IcedTooSoonModel, ⟨by decide +kernel, by decide +kernel, by decide +kernel⟩, by decide⟩
set_option maxRecDepth 50000 in
theorem mc_X6_laysIce : it_mc it_m_X6_laysIce 0 := ⟨it_in_tb (List.mem_of_getElem? (i := 1134) (rfl)) rfl, in_IcedTooSoonModel, ⟨by decide +kernel, by decide +kernel, by decide +kernel⟩, by decide⟩
set_option maxRecDepth 50000 in
theorem mc_X6_round : it_mc it_m_X6_round 3 := ⟨it_in_tb (List.mem_of_getElem? (i := 1126) (rfl)) rfl, in_IcedTooSoonModel, ⟨by decide +kernel, by decide +kernel, by decide +kernel⟩, by decide⟩
set_option maxRecDepth 50000 in
theorem mc_X6_lowest : it_mc it_m_X6_lowest 3 := ⟨it_in_tb (List.mem_of_getElem? (i := 1142) (rfl)) rfl, in_IcedTooSoonModel, ⟨by decide +kernel, by decide +kernel, by decide +kernel⟩, by decide⟩
set_option maxRecDepth 50000 in
theorem mc_X6_mean : it_mc it_m_X6_mean 1 := ⟨it_in_tb (List.mem_of_getElem? (i := 1138) (rfl)) rfl, in_IcedTooSoonModel, ⟨by decide +kernel, by decide +kernel, by decide +kernel⟩, by decide⟩
set_option maxRecDepth 50000 in
theorem mc_X6_sheetWrong : it_mc it_m_X6_sheetWrong 1 := ⟨it_in_tb (List.mem_of_getElem? (i := 1154) (rfl)) rfl, in_IcedTooSoonModel, ⟨by decide +kernel, by decide +kernel, by decide +kernel⟩, by decide⟩
set_option maxRecDepth 50000 in
theorem mc_X6_toldWrong : it_mc it_m_X6_toldWrong 2 := ⟨it_in_tb (List.mem_of_getElem? (i := 1150) (rfl)) rfl, in_IcedTooSoonModel, ⟨by decide +kernel, by decide +kernel, by decide +kernel⟩, by decide⟩
set_option maxRecDepth 50000 in
theorem mc_X6_unlike : it_mc it_m_X6_unlike 2 := ⟨it_in_tb (List.mem_of_getElem? (i := 1158) (rfl)) rfl, in_IcedTooSoonModel, ⟨by decide +kernel, by decide +kernel, by decide +kernel⟩, by decide⟩
set_option maxRecDepth 50000 in
theorem mc_X6_judge : it_mc it_m_X6_judge 2 := ⟨it_in_tb (List.mem_of_getElem? (i := 1146) (rfl)) rfl, in_IcedTooSoonModel, ⟨by decide +kernel, by decide +kernel, by decide +kernel⟩, by decide⟩
set_option maxRecDepth 50000 in
theorem mc_X6_kinds : it_mc it_m_X6_kinds 3 := ⟨it_in_tb (List.mem_of_getElem? (i := 1162) (rfl)) rfl, in_IcedTooSoonModel, ⟨by decide +kernel, by decide +kernel, by decide +kernel⟩, by decide⟩
set_option maxRecDepth 50000 in
theorem mc_X6_states : it_mc it_m_X6_states 4 := ⟨it_in_tb (List.mem_of_getElem? (i := 1166) (rfl)) rfl, in_IcedTooSoonModel, ⟨by decide +kernel, by decide +kernel, by decide +kernel⟩, by decide⟩
set_option maxRecDepth 50000 in
theorem mc_X6_owners : it_mc it_m_X6_owners 2 := ⟨it_in_tb (List.mem_of_getElem? (i := 1170) (rfl)) rfl, in_IcedTooSoonModel, ⟨by decide +kernel, by decide +kernel, by decide +kernel⟩, by decide⟩
set_option maxRecDepth 50000 in
theorem mc_X6_who : it_mc it_m_X6_who 1 := ⟨it_in_tb (List.mem_of_getElem? (i := 1174) (rfl)) rfl, in_IcedTooSoonModel, ⟨by decide +kernel, by decide +kernel, by decide +kernel⟩, by decide⟩
set_option maxRecDepth 50000 in
theorem mc_X6_laws : it_mc it_m_X6_laws 2 := ⟨it_in_tb (List.mem_of_getElem? (i := 1178) (rfl)) rfl, in_IcedTooSoonModel, ⟨by decide +kernel, by decide +kernel, by decide +kernel⟩, by decide⟩
set_option maxRecDepth 50000 in
theorem mc_X6_film : it_mc it_m_X6_film 3 := ⟨it_in_tb (List.mem_of_getElem? (i := 1182) (rfl)) rfl, in_IcedTooSoonModel, ⟨by decide +kernel, by decide +kernel, by decide +kernel⟩, by decide⟩
set_option maxRecDepth 50000 in
theorem mc_X6_lotOrders : it_mc it_m_X6_lotOrders 1 := ⟨it_in_tb (List.mem_of_getElem? (i := 1191) (rfl)) rfl, in_IcedTooSoonModel, ⟨by decide +kernel, by decide +kernel, by decide +kernel⟩, by decide⟩
set_option maxRecDepth 50000 in
theorem mc_X6_drawn : it_mc it_m_X6_drawn 2 := ⟨it_in_tb (List.mem_of_getElem? (i := 1186) (rfl)) rfl, in_IcedTooSoonModel, ⟨by decide +kernel, by decide +kernel, by decide +kernel⟩, by decide⟩
set_option maxRecDepth 50000 in
theorem mc_X6_odds : it_mc it_m_X6_odds 4 := ⟨it_in_tb (List.mem_of_getElem? (i := 1200) (rfl)) rfl, in_IcedTooSoonModel, ⟨by decide +kernel, by decide +kernel, by decide +kernel⟩, by decide⟩
set_option maxRecDepth 50000 in
theorem mc_X6_image : it_mc it_m_X6_image 0 := ⟨it_in_tb (List.mem_of_getElem? (i := 1204) (rfl)) rfl, in_IcedTooSoonModel, ⟨by decide +kernel, by decide +kernel, by decide +kernel⟩, by decide⟩
set_option maxRecDepth 50000 in
theorem mc_X6_back : it_mc it_m_X6_back 0 := ⟨it_in_tb (List.mem_of_getElem? (i := 1208) (rfl)) rfl, in_IcedTooSoonModel, ⟨by decide +kernel, by decide +kernel, by decide +kernel⟩, by decide⟩
set_option maxRecDepth 50000 in
theorem mc_X6_sheet : it_mc it_m_X6_sheet 3 := ⟨it_in_tb (List.mem_of_getElem? (i := 1212) (rfl)) rfl, in_IcedTooSoonModel, ⟨by decide +kernel, by decide +kernel, by decide +kernel⟩, by decide⟩
set_option maxRecDepth 50000 in
theorem mc_X6_cell : it_mc it_m_X6_cell 3 := ⟨it_in_tb (List.mem_of_getElem? (i := 1216) (rfl)) rfl, in_IcedTooSoonModel, ⟨by decide +kernel, by decide +kernel, by decide +kernel⟩, by decide⟩
set_option maxRecDepth 50000 in
theorem mc_X6_copy : it_mc it_m_X6_copy 5 := ⟨it_in_tb (List.mem_of_getElem? (i := 1220) (rfl)) rfl, in_IcedTooSoonModel, ⟨by decide +kernel, by decide +kernel, by decide +kernel⟩, by decide⟩
set_option maxRecDepth 50000 in
theorem mc_X6_guestsBy : it_mc it_m_X6_guestsBy 4 := ⟨it_in_tb (List.mem_of_getElem? (i := 1224) (rfl)) rfl, in_IcedTooSoonModel, ⟨by decide +kernel, by decide +kernel, by decide +kernel⟩, by decide⟩
set_option maxRecDepth 50000 in
theorem mc_X6_isUnder : it_mc it_m_X6_isUnder 2 := ⟨it_in_tb (List.mem_of_getElem? (i := 1232) (rfl)) rfl, in_IcedTooSoonModel, ⟨by decide +kernel, by decide +kernel, by decide +kernel⟩, by decide⟩
set_option maxRecDepth 50000 in
theorem mc_X6_taken : it_mc it_m_X6_taken 2 := ⟨it_in_tb (List.mem_of_getElem? (i := 1229) (rfl)) rfl, in_IcedTooSoonModel, ⟨by decide +kernel, by decide +kernel, by decide +kernel⟩, by decide⟩
set_option maxRecDepth 50000 in
theorem mc_J6_numberOfTrailingZeros_0f7a4 : it_mc it_m_J6_numberOfTrailingZeros_0f7a4 1 := ⟨it_in_tb (List.mem_of_getElem? (i := 587) (rfl)) rfl, in_java_lang_Integer, ⟨by decide +kernel, by decide +kernel, by decide +kernel⟩, by decide⟩
set_option maxRecDepth 50000 in
theorem mc_J6_bitCount_0f7a4 : it_mc it_m_J6_bitCount_0f7a4 1 := ⟨it_in_tb (List.mem_of_getElem? (i := 670) (rfl)) rfl, in_java_lang_Integer, ⟨by decide +kernel, by decide +kernel, by decide +kernel⟩, by decide⟩
set_option maxRecDepth 50000 in
theorem mc_J9_abs_0f7a4 : it_mc it_m_J9_abs_0f7a4 1 := ⟨it_in_tb (List.mem_of_getElem? (i := 688) (rfl)) rfl, in_java_lang_Math, ⟨by decide +kernel, by decide +kernel, by decide +kernel⟩, by decide⟩
set_option maxRecDepth 50000 in
theorem mc_J9_max_7cf53 : it_mc it_m_J9_max_7cf53 2 := ⟨it_in_tb (List.mem_of_getElem? (i := 311) (rfl)) rfl, in_java_lang_Math, ⟨by decide +kernel, by decide +kernel, by decide +kernel⟩, by decide⟩
set_option maxRecDepth 50000 in
theorem mc_J9_min_7cf53 : it_mc it_m_J9_min_7cf53 2 := ⟨it_in_tb (List.mem_of_getElem? (i := 314) (rfl)) rfl, in_java_lang_Math, ⟨by decide +kernel, by decide +kernel, by decide +kernel⟩, by decide⟩
set_option maxRecDepth 50000 in
theorem mc_J0_length_8abf5 : it_mc it_m_J0_length_8abf5 0 := ⟨it_in_tb (List.mem_of_getElem? (i := 214) (rfl)) rfl, in_java_lang_String, ⟨by decide +kernel, by decide +kernel, by decide +kernel⟩, by decide⟩
set_option maxRecDepth 50000 in
theorem mc_J0_charAt_5068e : it_mc it_m_J0_charAt_5068e 1 := ⟨it_in_tb (List.mem_of_getElem? (i := 224) (rfl)) rfl, in_java_lang_String, ⟨by decide +kernel, by decide +kernel, by decide +kernel⟩, by decide⟩
set_option maxRecDepth 50000 in
theorem mc_J0_indexOf_0f7a4 : it_mc it_m_J0_indexOf_0f7a4 1 := ⟨it_in_tb (List.mem_of_getElem? (i := 297) (rfl)) rfl, in_java_lang_String, ⟨by decide +kernel, by decide +kernel, by decide +kernel⟩, by decide⟩
set_option maxRecDepth 50000 in
theorem mc_J0_indexOf_7cf53 : it_mc it_m_J0_indexOf_7cf53 2 := ⟨it_in_tb (List.mem_of_getElem? (i := 301) (rfl)) rfl, in_java_lang_String, ⟨by decide +kernel, by decide +kernel, by decide +kernel⟩, by decide⟩
set_option maxRecDepth 50000 in
theorem mc_J0_coder_7d493 : it_mc it_m_J0_coder_7d493 0 := ⟨it_in_tb (List.mem_of_getElem? (i := 218) (rfl)) rfl, in_java_lang_String, ⟨by decide +kernel, by decide +kernel, by decide +kernel⟩, by decide⟩
set_option maxRecDepth 50000 in
theorem mc_J0_isLatin1_aae02 : it_mc it_m_J0_isLatin1_aae02 0 := ⟨it_in_tb (List.mem_of_getElem? (i := 228) (rfl)) rfl, in_java_lang_String, ⟨by decide +kernel, by decide +kernel, by decide +kernel⟩, by decide⟩
set_option maxRecDepth 50000 in
theorem mc_J0_checkIndex_df160 : it_mc it_m_J0_checkIndex_df160 2 := ⟨it_in_tb (List.mem_of_getElem? (i := 234) (rfl)) rfl, in_java_lang_String, ⟨by decide +kernel, by decide +kernel, by decide +kernel⟩, by decide⟩
set_option maxRecDepth 50000 in
theorem mc_J1_charAt_3b067 : it_mc it_m_J1_charAt_3b067 2 := ⟨it_in_tb (List.mem_of_getElem? (i := 231) (rfl)) rfl, in_java_lang_StringLatin1, ⟨by decide +kernel, by decide +kernel, by decide +kernel⟩, by decide⟩
set_option maxRecDepth 50000 in
theorem mc_J1_canEncode_9a6ad : it_mc it_m_J1_canEncode_9a6ad 1 := ⟨it_in_tb (List.mem_of_getElem? (i := 308) (rfl)) rfl, in_java_lang_StringLatin1, ⟨by decide +kernel, by decide +kernel, by decide +kernel⟩, by decide⟩
set_option maxRecDepth 50000 in
theorem mc_J1_indexOf_4cfef : it_mc it_m_J1_indexOf_4cfef 4 := ⟨it_in_tb (List.mem_of_getElem? (i := 305) (rfl)) rfl, in_java_lang_StringLatin1, ⟨by decide +kernel, by decide +kernel, by decide +kernel⟩, by decide⟩
set_option maxRecDepth 50000 in
theorem mc_J1_indexOfChar_4cfef : it_mc it_m_J1_indexOfChar_4cfef 4 := ⟨it_in_tb (List.mem_of_getElem? (i := 317) (rfl)) rfl, in_java_lang_StringLatin1, ⟨by decide +kernel, by decide +kernel, by decide +kernel⟩, by decide⟩
set_option maxRecDepth 50000 in
theorem mc_J7_fill_53178 : it_mc it_m_J7_fill_53178 2 := ⟨it_in_tb (List.mem_of_getElem? (i := 145) (rfl)) rfl, in_java_util_Arrays, ⟨by decide +kernel, by decide +kernel, by decide +kernel⟩, by decide⟩
set_option maxRecDepth 50000 in
theorem mc_J7_copyOf_59c91 : it_mc it_m_J7_copyOf_59c91 2 := ⟨it_in_tb (List.mem_of_getElem? (i := 388) (rfl)) rfl, in_java_util_Arrays, ⟨by decide +kernel, by decide +kernel, by decide +kernel⟩, by decide⟩
set_option maxRecDepth 50000 in
theorem mc_J3_checkIndex_8e157 : it_mc it_m_J3_checkIndex_8e157 3 := ⟨it_in_tb (List.mem_of_getElem? (i := 239) (rfl)) rfl, in_jdk_internal_util_Preconditions, ⟨by decide +kernel, by decide +kernel, by decide +kernel⟩, by decide⟩
theorem fl_IcedTooSoon_10 : it_fl "IcedTooSoon" 10 5 0 := ⟨it_R5, it_F5, 7, rfl, by decide, it_j5, it_in_tb (List.mem_of_getElem? (i := 422) (by decide +kernel)) rfl, rfl⟩
theorem fl_IcedTooSoon_19 : it_fl "IcedTooSoon" 19 5 1 := ⟨it_R5, it_F5, 7, rfl, by decide, it_j5, it_in_tb (List.mem_of_getElem? (i := 423) (by decide +kernel)) rfl, rfl⟩
theorem fl_IcedTooSoon_28 : it_fl "IcedTooSoon" 28 5 2 := ⟨it_R5, it_F5, 7, rfl, by decide, it_j5, it_in_tb (List.mem_of_getElem? (i := 424) (by decide +kernel)) rfl, rfl⟩
theorem fl_IcedTooSoon_32 : it_fl "IcedTooSoon" 32 5 3 := ⟨it_R5, it_F5, 7, rfl, by decide, it_j5, it_in_tb (List.mem_of_getElem? (i := 425) (by decide +kernel)) rfl, rfl⟩
theorem fl_IcedTooSoon_35 : it_fl "IcedTooSoon" 35 5 4 := ⟨it_R5, it_F5, 7, rfl, by decide, it_j5, it_in_tb (List.mem_of_getElem? (i := 426) (by decide +kernel)) rfl, rfl⟩
theorem fl_IcedTooSoon_38 : it_fl "IcedTooSoon" 38 5 5 := ⟨it_R5, it_F5, 7, rfl, by decide, it_j5, it_in_tb (List.mem_of_getElem? (i := 427) (by decide +kernel)) rfl, rfl⟩
theorem fl_IcedTooSoon_44 : it_fl "IcedTooSoon" 44 5 6 := ⟨it_R5, it_F5, 7, rfl, by decide, it_j5, it_in_tb (List.mem_of_getElem? (i := 428) (by decide +kernel)) rfl, rfl⟩
theorem fl_IcedTooSoon_79 : it_fl "IcedTooSoon" 79 0 1 := ⟨it_R0, it_F0, 11, rfl, by decide, it_j0, it_in_tb (List.mem_of_getElem? (i := 148) (by decide +kernel)) rfl, rfl⟩
theorem fl_IcedTooSoon_86 : it_fl "IcedTooSoon" 86 0 9 := ⟨it_R0, it_F0, 11, rfl, by decide, it_j0, it_in_tb (List.mem_of_getElem? (i := 163) (by decide +kernel)) rfl, rfl⟩
theorem fl_IcedTooSoon_89 : it_fl "IcedTooSoon" 89 1 3 := ⟨it_R1, it_F1, 4, rfl, by decide, it_j1, it_in_tb (List.mem_of_getElem? (i := 90) (by decide +kernel)) rfl, rfl⟩
theorem fl_IcedTooSoon_92 : it_fl "IcedTooSoon" 92 0 10 := ⟨it_R0, it_F0, 11, rfl, by decide, it_j0, it_in_tb (List.mem_of_getElem? (i := 165) (by decide +kernel)) rfl, rfl⟩
theorem fl_IcedTooSoon_95 : it_fl "IcedTooSoon" 95 3 1 := ⟨it_R3, it_F3, 9, rfl, by decide, it_j3, it_in_tb (List.mem_of_getElem? (i := 109) (by decide +kernel)) rfl, rfl⟩
theorem fl_IcedTooSoon_104 : it_fl "IcedTooSoon" 104 3 5 := ⟨it_R3, it_F3, 9, rfl, by decide, it_j3, it_in_tb (List.mem_of_getElem? (i := 113) (by decide +kernel)) rfl, rfl⟩
theorem fl_IcedTooSoon_124 : it_fl "IcedTooSoon" 124 0 4 := ⟨it_R0, it_F0, 11, rfl, by decide, it_j0, it_in_tb (List.mem_of_getElem? (i := 154) (by decide +kernel)) rfl, rfl⟩
theorem fl_IcedTooSoon_128 : it_fl "IcedTooSoon" 128 0 5 := ⟨it_R0, it_F0, 11, rfl, by decide, it_j0, it_in_tb (List.mem_of_getElem? (i := 156) (by decide +kernel)) rfl, rfl⟩
theorem fl_IcedTooSoon_135 : it_fl "IcedTooSoon" 135 0 2 := ⟨it_R0, it_F0, 11, rfl, by decide, it_j0, it_in_tb (List.mem_of_getElem? (i := 150) (by decide +kernel)) rfl, rfl⟩
theorem fl_IcedTooSoon_138 : it_fl "IcedTooSoon" 138 0 3 := ⟨it_R0, it_F0, 11, rfl, by decide, it_j0, it_in_tb (List.mem_of_getElem? (i := 152) (by decide +kernel)) rfl, rfl⟩
theorem fl_IcedTooSoon_148 : it_fl "IcedTooSoon" 148 0 6 := ⟨it_R0, it_F0, 11, rfl, by decide, it_j0, it_in_tb (List.mem_of_getElem? (i := 158) (by decide +kernel)) rfl, rfl⟩
theorem fl_IcedTooSoon_151 : it_fl "IcedTooSoon" 151 0 7 := ⟨it_R0, it_F0, 11, rfl, by decide, it_j0, it_in_tb (List.mem_of_getElem? (i := 160) (by decide +kernel)) rfl, rfl⟩
theorem fl_IcedTooSoon_154 : it_fl "IcedTooSoon" 154 0 8 := ⟨it_R0, it_F0, 11, rfl, by decide, it_j0, it_in_tb (List.mem_of_getElem? (i := 162) (by decide +kernel)) rfl, rfl⟩
theorem fl_IcedTooSoon_236 : it_fl "IcedTooSoon" 236 2 0 := ⟨it_R2, it_F2, 3, rfl, by decide, it_j2, it_in_tb (List.mem_of_getElem? (i := 198) (by decide +kernel)) rfl, rfl⟩
theorem fl_IcedTooSoon_242 : it_fl "IcedTooSoon" 242 2 1 := ⟨it_R2, it_F2, 3, rfl, by decide, it_j2, it_in_tb (List.mem_of_getElem? (i := 200) (by decide +kernel)) rfl, rfl⟩
theorem fl_IcedTooSoon_243 : it_fl "IcedTooSoon" 243 2 2 := ⟨it_R2, it_F2, 3, rfl, by decide, it_j2, it_in_tb (List.mem_of_getElem? (i := 202) (by decide +kernel)) rfl, rfl⟩
theorem fl_IcedTooSoon_House_9 : it_fl "IcedTooSoon$House" 9 0 2 := ⟨it_R0, it_F0, 11, rfl, by decide, it_j0, it_in_tb (List.mem_of_getElem? (i := 149) (by decide +kernel)) rfl, rfl⟩
theorem fl_IcedTooSoon_House_15 : it_fl "IcedTooSoon$House" 15 0 3 := ⟨it_R0, it_F0, 11, rfl, by decide, it_j0, it_in_tb (List.mem_of_getElem? (i := 151) (by decide +kernel)) rfl, rfl⟩
theorem fl_IcedTooSoon_House_18 : it_fl "IcedTooSoon$House" 18 0 4 := ⟨it_R0, it_F0, 11, rfl, by decide, it_j0, it_in_tb (List.mem_of_getElem? (i := 153) (by decide +kernel)) rfl, rfl⟩
theorem fl_IcedTooSoon_House_21 : it_fl "IcedTooSoon$House" 21 0 5 := ⟨it_R0, it_F0, 11, rfl, by decide, it_j0, it_in_tb (List.mem_of_getElem? (i := 155) (by decide +kernel)) rfl, rfl⟩
theorem fl_IcedTooSoon_House_24 : it_fl "IcedTooSoon$House" 24 0 6 := ⟨it_R0, it_F0, 11, rfl, by decide, it_j0, it_in_tb (List.mem_of_getElem? (i := 157) (by decide +kernel)) rfl, rfl⟩
theorem fl_IcedTooSoon_House_27 : it_fl "IcedTooSoon$House" 27 0 7 := ⟨it_R0, it_F0, 11, rfl, by decide, it_j0, it_in_tb (List.mem_of_getElem? (i := 159) (by decide +kernel)) rfl, rfl⟩
theorem fl_IcedTooSoon_House_30 : it_fl "IcedTooSoon$House" 30 0 8 := ⟨it_R0, it_F0, 11, rfl, by decide, it_j0, it_in_tb (List.mem_of_getElem? (i := 161) (by decide +kernel)) rfl, rfl⟩
theorem fl_IcedTooSoon_House_33 : it_fl "IcedTooSoon$House" 33 0 0 := ⟨it_R0, it_F0, 11, rfl, by decide, it_j0, it_in_tb (List.mem_of_getElem? (i := 146) (by decide +kernel)) rfl, rfl⟩
theorem fl_IcedTooSoon_House_43 : it_fl "IcedTooSoon$House" 43 0 1 := ⟨it_R0, it_F0, 11, rfl, by decide, it_j0, it_in_tb (List.mem_of_getElem? (i := 147) (by decide +kernel)) rfl, rfl⟩
theorem fl_IcedTooSoon_House_53 : it_fl "IcedTooSoon$House" 53 0 9 := ⟨it_R0, it_F0, 11, rfl, by decide, it_j0, it_in_tb (List.mem_of_getElem? (i := 164) (by decide +kernel)) rfl, rfl⟩
theorem fl_IcedTooSoon_House_56 : it_fl "IcedTooSoon$House" 56 0 10 := ⟨it_R0, it_F0, 11, rfl, by decide, it_j0, it_in_tb (List.mem_of_getElem? (i := 166) (by decide +kernel)) rfl, rfl⟩
theorem fl_IcedTooSoon_Lawbook_11 : it_fl "IcedTooSoon$Lawbook" 11 1 0 := ⟨it_R1, it_F1, 4, rfl, by decide, it_j1, it_in_tb (List.mem_of_getElem? (i := 86) (by decide +kernel)) rfl, rfl⟩
theorem fl_IcedTooSoon_Lawbook_19 : it_fl "IcedTooSoon$Lawbook" 19 1 1 := ⟨it_R1, it_F1, 4, rfl, by decide, it_j1, it_in_tb (List.mem_of_getElem? (i := 87) (by decide +kernel)) rfl, rfl⟩
theorem fl_IcedTooSoon_Lawbook_23 : it_fl "IcedTooSoon$Lawbook" 23 1 2 := ⟨it_R1, it_F1, 4, rfl, by decide, it_j1, it_in_tb (List.mem_of_getElem? (i := 88) (by decide +kernel)) rfl, rfl⟩
theorem fl_IcedTooSoon_Lawbook_26 : it_fl "IcedTooSoon$Lawbook" 26 1 3 := ⟨it_R1, it_F1, 4, rfl, by decide, it_j1, it_in_tb (List.mem_of_getElem? (i := 89) (by decide +kernel)) rfl, rfl⟩
theorem fl_IcedTooSoon_Lawbook_34 : it_fl "IcedTooSoon$Lawbook" 34 4 0 := ⟨it_R4, it_F4, 2, rfl, by decide, it_j4, it_in_tb (List.mem_of_getElem? (i := 405) (by decide +kernel)) rfl, rfl⟩
theorem fl_IcedTooSoon_Lawbook_37 : it_fl "IcedTooSoon$Lawbook" 37 4 1 := ⟨it_R4, it_F4, 2, rfl, by decide, it_j4, it_in_tb (List.mem_of_getElem? (i := 407) (by decide +kernel)) rfl, rfl⟩
theorem fl_IcedTooSoon_Sheet_9 : it_fl "IcedTooSoon$Sheet" 9 2 0 := ⟨it_R2, it_F2, 3, rfl, by decide, it_j2, it_in_tb (List.mem_of_getElem? (i := 197) (by decide +kernel)) rfl, rfl⟩
theorem fl_IcedTooSoon_Sheet_15 : it_fl "IcedTooSoon$Sheet" 15 2 2 := ⟨it_R2, it_F2, 3, rfl, by decide, it_j2, it_in_tb (List.mem_of_getElem? (i := 201) (by decide +kernel)) rfl, rfl⟩
theorem fl_IcedTooSoon_Sheet_19 : it_fl "IcedTooSoon$Sheet" 19 2 1 := ⟨it_R2, it_F2, 3, rfl, by decide, it_j2, it_in_tb (List.mem_of_getElem? (i := 199) (by decide +kernel)) rfl, rfl⟩
theorem fl_IcedTooSoon_Tape_9 : it_fl "IcedTooSoon$Tape" 9 3 0 := ⟨it_R3, it_F3, 9, rfl, by decide, it_j3, it_in_tb (List.mem_of_getElem? (i := 107) (by decide +kernel)) rfl, rfl⟩
theorem fl_IcedTooSoon_Tape_15 : it_fl "IcedTooSoon$Tape" 15 3 6 := ⟨it_R3, it_F3, 9, rfl, by decide, it_j3, it_in_tb (List.mem_of_getElem? (i := 115) (by decide +kernel)) rfl, rfl⟩
theorem fl_IcedTooSoon_Tape_18 : it_fl "IcedTooSoon$Tape" 18 3 8 := ⟨it_R3, it_F3, 9, rfl, by decide, it_j3, it_in_tb (List.mem_of_getElem? (i := 117) (by decide +kernel)) rfl, rfl⟩
theorem fl_IcedTooSoon_Tape_21 : it_fl "IcedTooSoon$Tape" 21 3 1 := ⟨it_R3, it_F3, 9, rfl, by decide, it_j3, it_in_tb (List.mem_of_getElem? (i := 108) (by decide +kernel)) rfl, rfl⟩
theorem fl_IcedTooSoon_Tape_27 : it_fl "IcedTooSoon$Tape" 27 3 7 := ⟨it_R3, it_F3, 9, rfl, by decide, it_j3, it_in_tb (List.mem_of_getElem? (i := 116) (by decide +kernel)) rfl, rfl⟩
theorem fl_IcedTooSoon_Tape_39 : it_fl "IcedTooSoon$Tape" 39 3 2 := ⟨it_R3, it_F3, 9, rfl, by decide, it_j3, it_in_tb (List.mem_of_getElem? (i := 110) (by decide +kernel)) rfl, rfl⟩
theorem fl_IcedTooSoon_Tape_45 : it_fl "IcedTooSoon$Tape" 45 3 3 := ⟨it_R3, it_F3, 9, rfl, by decide, it_j3, it_in_tb (List.mem_of_getElem? (i := 111) (by decide +kernel)) rfl, rfl⟩
theorem fl_IcedTooSoon_Tape_72 : it_fl "IcedTooSoon$Tape" 72 3 4 := ⟨it_R3, it_F3, 9, rfl, by decide, it_j3, it_in_tb (List.mem_of_getElem? (i := 112) (by decide +kernel)) rfl, rfl⟩
theorem fl_IcedTooSoon_Tape_75 : it_fl "IcedTooSoon$Tape" 75 3 5 := ⟨it_R3, it_F3, 9, rfl, by decide, it_j3, it_in_tb (List.mem_of_getElem? (i := 114) (by decide +kernel)) rfl, rfl⟩
theorem fl_IcedTooSoon_Text_7 : it_fl "IcedTooSoon$Text" 7 4 0 := ⟨it_R4, it_F4, 2, rfl, by decide, it_j4, it_in_tb (List.mem_of_getElem? (i := 404) (by decide +kernel)) rfl, rfl⟩
theorem fl_IcedTooSoon_Text_13 : it_fl "IcedTooSoon$Text" 13 4 1 := ⟨it_R4, it_F4, 2, rfl, by decide, it_j4, it_in_tb (List.mem_of_getElem? (i := 406) (by decide +kernel)) rfl, rfl⟩
theorem fl_IcedTooSoonModel_7 : it_fl "IcedTooSoonModel" 7 6 1 := ⟨it_R6, it_F6, 34, rfl, by decide, it_j6, it_in_tb (List.mem_of_getElem? (i := 858) (by decide +kernel)) rfl, rfl⟩
theorem fl_IcedTooSoonModel_13 : it_fl "IcedTooSoonModel" 13 6 2 := ⟨it_R6, it_F6, 34, rfl, by decide, it_j6, it_in_tb (List.mem_of_getElem? (i := 859) (by decide +kernel)) rfl, rfl⟩
theorem fl_IcedTooSoonModel_16 : it_fl "IcedTooSoonModel" 16 6 3 := ⟨it_R6, it_F6, 34, rfl, by decide, it_j6, it_in_tb (List.mem_of_getElem? (i := 860) (by decide +kernel)) rfl, rfl⟩
theorem fl_IcedTooSoonModel_19 : it_fl "IcedTooSoonModel" 19 6 4 := ⟨it_R6, it_F6, 34, rfl, by decide, it_j6, it_in_tb (List.mem_of_getElem? (i := 861) (by decide +kernel)) rfl, rfl⟩
theorem fl_IcedTooSoonModel_22 : it_fl "IcedTooSoonModel" 22 6 6 := ⟨it_R6, it_F6, 34, rfl, by decide, it_j6, it_in_tb (List.mem_of_getElem? (i := 863) (by decide +kernel)) rfl, rfl⟩
theorem fl_IcedTooSoonModel_25 : it_fl "IcedTooSoonModel" 25 6 8 := ⟨it_R6, it_F6, 34, rfl, by decide, it_j6, it_in_tb (List.mem_of_getElem? (i := 865) (by decide +kernel)) rfl, rfl⟩
theorem fl_IcedTooSoonModel_28 : it_fl "IcedTooSoonModel" 28 6 9 := ⟨it_R6, it_F6, 34, rfl, by decide, it_j6, it_in_tb (List.mem_of_getElem? (i := 866) (by decide +kernel)) rfl, rfl⟩
theorem fl_IcedTooSoonModel_31 : it_fl "IcedTooSoonModel" 31 6 13 := ⟨it_R6, it_F6, 34, rfl, by decide, it_j6, it_in_tb (List.mem_of_getElem? (i := 870) (by decide +kernel)) rfl, rfl⟩
theorem fl_IcedTooSoonModel_34 : it_fl "IcedTooSoonModel" 34 6 14 := ⟨it_R6, it_F6, 34, rfl, by decide, it_j6, it_in_tb (List.mem_of_getElem? (i := 871) (by decide +kernel)) rfl, rfl⟩
theorem fl_IcedTooSoonModel_37 : it_fl "IcedTooSoonModel" 37 6 15 := ⟨it_R6, it_F6, 34, rfl, by decide, it_j6, it_in_tb (List.mem_of_getElem? (i := 872) (by decide +kernel)) rfl, rfl⟩
theorem fl_IcedTooSoonModel_40 : it_fl "IcedTooSoonModel" 40 6 16 := ⟨it_R6, it_F6, 34, rfl, by decide, it_j6, it_in_tb (List.mem_of_getElem? (i := 873) (by decide +kernel)) rfl, rfl⟩
theorem fl_IcedTooSoonModel_43 : it_fl "IcedTooSoonModel" 43 6 17 := ⟨it_R6, it_F6, 34, rfl, by decide, it_j6, it_in_tb (List.mem_of_getElem? (i := 874) (by decide +kernel)) rfl, rfl⟩
theorem fl_IcedTooSoonModel_46 : it_fl "IcedTooSoonModel" 46 6 18 := ⟨it_R6, it_F6, 34, rfl, by decide, it_j6, it_in_tb (List.mem_of_getElem? (i := 875) (by decide +kernel)) rfl, rfl⟩
theorem fl_IcedTooSoonModel_49 : it_fl "IcedTooSoonModel" 49 6 23 := ⟨it_R6, it_F6, 34, rfl, by decide, it_j6, it_in_tb (List.mem_of_getElem? (i := 880) (by decide +kernel)) rfl, rfl⟩
theorem fl_IcedTooSoonModel_52 : it_fl "IcedTooSoonModel" 52 6 24 := ⟨it_R6, it_F6, 34, rfl, by decide, it_j6, it_in_tb (List.mem_of_getElem? (i := 881) (by decide +kernel)) rfl, rfl⟩
theorem fl_IcedTooSoonModel_55 : it_fl "IcedTooSoonModel" 55 6 28 := ⟨it_R6, it_F6, 34, rfl, by decide, it_j6, it_in_tb (List.mem_of_getElem? (i := 885) (by decide +kernel)) rfl, rfl⟩
theorem fl_IcedTooSoonModel_58 : it_fl "IcedTooSoonModel" 58 6 29 := ⟨it_R6, it_F6, 34, rfl, by decide, it_j6, it_in_tb (List.mem_of_getElem? (i := 886) (by decide +kernel)) rfl, rfl⟩
theorem fl_IcedTooSoonModel_61 : it_fl "IcedTooSoonModel" 61 6 30 := ⟨it_R6, it_F6, 34, rfl, by decide, it_j6, it_in_tb (List.mem_of_getElem? (i := 887) (by decide +kernel)) rfl, rfl⟩
theorem fl_IcedTooSoonModel_64 : it_fl "IcedTooSoonModel" 64 6 32 := ⟨it_R6, it_F6, 34, rfl, by decide, it_j6, it_in_tb (List.mem_of_getElem? (i := 889) (by decide +kernel)) rfl, rfl⟩
theorem fl_IcedTooSoonModel_67 : it_fl "IcedTooSoonModel" 67 6 7 := ⟨it_R6, it_F6, 34, rfl, by decide, it_j6, it_in_tb (List.mem_of_getElem? (i := 864) (by decide +kernel)) rfl, rfl⟩
theorem fl_IcedTooSoonModel_75 : it_fl "IcedTooSoonModel" 75 6 0 := ⟨it_R6, it_F6, 34, rfl, by decide, it_j6, it_in_tb (List.mem_of_getElem? (i := 857) (by decide +kernel)) rfl, rfl⟩
theorem fl_IcedTooSoonModel_93 : it_fl "IcedTooSoonModel" 93 6 5 := ⟨it_R6, it_F6, 34, rfl, by decide, it_j6, it_in_tb (List.mem_of_getElem? (i := 862) (by decide +kernel)) rfl, rfl⟩
theorem fl_IcedTooSoonModel_96 : it_fl "IcedTooSoonModel" 96 6 10 := ⟨it_R6, it_F6, 34, rfl, by decide, it_j6, it_in_tb (List.mem_of_getElem? (i := 867) (by decide +kernel)) rfl, rfl⟩
theorem fl_IcedTooSoonModel_99 : it_fl "IcedTooSoonModel" 99 6 11 := ⟨it_R6, it_F6, 34, rfl, by decide, it_j6, it_in_tb (List.mem_of_getElem? (i := 868) (by decide +kernel)) rfl, rfl⟩
theorem fl_IcedTooSoonModel_105 : it_fl "IcedTooSoonModel" 105 6 19 := ⟨it_R6, it_F6, 34, rfl, by decide, it_j6, it_in_tb (List.mem_of_getElem? (i := 876) (by decide +kernel)) rfl, rfl⟩
theorem fl_IcedTooSoonModel_108 : it_fl "IcedTooSoonModel" 108 6 20 := ⟨it_R6, it_F6, 34, rfl, by decide, it_j6, it_in_tb (List.mem_of_getElem? (i := 877) (by decide +kernel)) rfl, rfl⟩
theorem fl_IcedTooSoonModel_111 : it_fl "IcedTooSoonModel" 111 6 21 := ⟨it_R6, it_F6, 34, rfl, by decide, it_j6, it_in_tb (List.mem_of_getElem? (i := 878) (by decide +kernel)) rfl, rfl⟩
theorem fl_IcedTooSoonModel_114 : it_fl "IcedTooSoonModel" 114 6 22 := ⟨it_R6, it_F6, 34, rfl, by decide, it_j6, it_in_tb (List.mem_of_getElem? (i := 879) (by decide +kernel)) rfl, rfl⟩
theorem fl_IcedTooSoonModel_121 : it_fl "IcedTooSoonModel" 121 6 27 := ⟨it_R6, it_F6, 34, rfl, by decide, it_j6, it_in_tb (List.mem_of_getElem? (i := 884) (by decide +kernel)) rfl, rfl⟩
theorem fl_IcedTooSoonModel_124 : it_fl "IcedTooSoonModel" 124 6 25 := ⟨it_R6, it_F6, 34, rfl, by decide, it_j6, it_in_tb (List.mem_of_getElem? (i := 882) (by decide +kernel)) rfl, rfl⟩
theorem fl_IcedTooSoonModel_131 : it_fl "IcedTooSoonModel" 131 6 26 := ⟨it_R6, it_F6, 34, rfl, by decide, it_j6, it_in_tb (List.mem_of_getElem? (i := 883) (by decide +kernel)) rfl, rfl⟩
theorem fl_IcedTooSoonModel_216 : it_fl "IcedTooSoonModel" 216 6 31 := ⟨it_R6, it_F6, 34, rfl, by decide, it_j6, it_in_tb (List.mem_of_getElem? (i := 888) (by decide +kernel)) rfl, rfl⟩
theorem fl_IcedTooSoonModel_250 : it_fl "IcedTooSoonModel" 250 6 33 := ⟨it_R6, it_F6, 34, rfl, by decide, it_j6, it_in_tb (List.mem_of_getElem? (i := 890) (by decide +kernel)) rfl, rfl⟩
theorem fl_IcedTooSoonModel_257 : it_fl "IcedTooSoonModel" 257 6 12 := ⟨it_R6, it_F6, 34, rfl, by decide, it_j6, it_in_tb (List.mem_of_getElem? (i := 869) (by decide +kernel)) rfl, rfl⟩
theorem fw_0_0 : it_fw 0 0 true (.object "IcedTooSoon$Lawbook") := ⟨_, _, _, it_t0, rfl, it_y0, it_n0, rfl, rfl, rfl⟩
theorem fw_0_1 : it_fw 0 1 false .int := ⟨_, _, _, it_t0, rfl, it_y0, it_n0, rfl, rfl, rfl⟩
theorem fw_0_2 : it_fw 0 2 true (.array .int) := ⟨_, _, _, it_t0, rfl, it_y0, it_n0, rfl, rfl, rfl⟩
theorem fw_0_3 : it_fw 0 3 true (.array .int) := ⟨_, _, _, it_t0, rfl, it_y0, it_n0, rfl, rfl, rfl⟩
theorem fw_0_4 : it_fw 0 4 true (.array .int) := ⟨_, _, _, it_t0, rfl, it_y0, it_n0, rfl, rfl, rfl⟩
theorem fw_0_5 : it_fw 0 5 true (.array .int) := ⟨_, _, _, it_t0, rfl, it_y0, it_n0, rfl, rfl, rfl⟩
theorem fw_0_6 : it_fw 0 6 true (.array .int) := ⟨_, _, _, it_t0, rfl, it_y0, it_n0, rfl, rfl, rfl⟩
theorem fw_0_7 : it_fw 0 7 true (.array .int) := ⟨_, _, _, it_t0, rfl, it_y0, it_n0, rfl, rfl, rfl⟩
theorem fw_0_8 : it_fw 0 8 true (.array .int) := ⟨_, _, _, it_t0, rfl, it_y0, it_n0, rfl, rfl, rfl⟩
theorem fw_0_9 : it_fw 0 9 false .int := ⟨_, _, _, it_t0, rfl, it_y0, it_n0, rfl, rfl, rfl⟩
theorem fw_0_10 : it_fw 0 10 false .int := ⟨_, _, _, it_t0, rfl, it_y0, it_n0, rfl, rfl, rfl⟩
theorem fw_1_0 : it_fw 1 0 true (.array (.object "IcedTooSoon$Text")) := ⟨_, _, _, it_t1, rfl, it_y1, it_n1, rfl, rfl, rfl⟩
theorem fw_1_1 : it_fw 1 1 true (.array .int) := ⟨_, _, _, it_t1, rfl, it_y1, it_n1, rfl, rfl, rfl⟩
theorem fw_1_2 : it_fw 1 2 true (.array .int) := ⟨_, _, _, it_t1, rfl, it_y1, it_n1, rfl, rfl, rfl⟩
theorem fw_1_3 : it_fw 1 3 false .int := ⟨_, _, _, it_t1, rfl, it_y1, it_n1, rfl, rfl, rfl⟩
theorem fw_2_0 : it_fw 2 0 false .int := ⟨_, _, _, it_t2, rfl, it_y2, it_n2, rfl, rfl, rfl⟩
theorem fw_2_1 : it_fw 2 1 false .int := ⟨_, _, _, it_t2, rfl, it_y2, it_n2, rfl, rfl, rfl⟩
theorem fw_2_2 : it_fw 2 2 true (.array .int) := ⟨_, _, _, it_t2, rfl, it_y2, it_n2, rfl, rfl, rfl⟩
theorem fw_3_0 : it_fw 3 0 true (.array .int) := ⟨_, _, _, it_t3, rfl, it_y3, it_n3, rfl, rfl, rfl⟩
theorem fw_3_1 : it_fw 3 1 false .int := ⟨_, _, _, it_t3, rfl, it_y3, it_n3, rfl, rfl, rfl⟩
theorem fw_3_2 : it_fw 3 2 false .int := ⟨_, _, _, it_t3, rfl, it_y3, it_n3, rfl, rfl, rfl⟩
theorem fw_3_3 : it_fw 3 3 false .int := ⟨_, _, _, it_t3, rfl, it_y3, it_n3, rfl, rfl, rfl⟩
theorem fw_3_4 : it_fw 3 4 false .int := ⟨_, _, _, it_t3, rfl, it_y3, it_n3, rfl, rfl, rfl⟩
theorem fw_3_5 : it_fw 3 5 false .int := ⟨_, _, _, it_t3, rfl, it_y3, it_n3, rfl, rfl, rfl⟩
theorem fw_3_6 : it_fw 3 6 true (.array .int) := ⟨_, _, _, it_t3, rfl, it_y3, it_n3, rfl, rfl, rfl⟩
theorem fw_3_7 : it_fw 3 7 false .int := ⟨_, _, _, it_t3, rfl, it_y3, it_n3, rfl, rfl, rfl⟩
theorem fw_3_8 : it_fw 3 8 true (.array .int) := ⟨_, _, _, it_t3, rfl, it_y3, it_n3, rfl, rfl, rfl⟩
theorem fw_4_0 : it_fw 4 0 true (.array .int) := ⟨_, _, _, it_t4, rfl, it_y4, it_n4, rfl, rfl, rfl⟩
theorem fw_4_1 : it_fw 4 1 true (.array .int) := ⟨_, _, _, it_t4, rfl, it_y4, it_n4, rfl, rfl, rfl⟩
theorem fw_5_0 : it_fw 5 0 true (.object "IcedTooSoon$Lawbook") := ⟨_, _, _, it_t5, rfl, it_y5, it_n5, rfl, rfl, rfl⟩
theorem fw_5_1 : it_fw 5 1 true (.object "IcedTooSoon$Tape") := ⟨_, _, _, it_t5, rfl, it_y5, it_n5, rfl, rfl, rfl⟩
theorem fw_5_2 : it_fw 5 2 true (.object "IcedTooSoon$House") := ⟨_, _, _, it_t5, rfl, it_y5, it_n5, rfl, rfl, rfl⟩
theorem fw_5_3 : it_fw 5 3 true (.object "IcedTooSoon$House") := ⟨_, _, _, it_t5, rfl, it_y5, it_n5, rfl, rfl, rfl⟩
theorem fw_5_4 : it_fw 5 4 true (.object "IcedTooSoon$House") := ⟨_, _, _, it_t5, rfl, it_y5, it_n5, rfl, rfl, rfl⟩
theorem fw_5_5 : it_fw 5 5 false .boolean := ⟨_, _, _, it_t5, rfl, it_y5, it_n5, rfl, rfl, rfl⟩
theorem fw_5_6 : it_fw 5 6 true (.array (.object "IcedTooSoon$Sheet")) := ⟨_, _, _, it_t5, rfl, it_y5, it_n5, rfl, rfl, rfl⟩
theorem fw_6_0 : it_fw 6 0 false .int := ⟨_, _, _, it_t6, rfl, it_y6, it_n6, rfl, rfl, rfl⟩
theorem fw_6_1 : it_fw 6 1 true (.array .int) := ⟨_, _, _, it_t6, rfl, it_y6, it_n6, rfl, rfl, rfl⟩
theorem fw_6_2 : it_fw 6 2 true (.array .int) := ⟨_, _, _, it_t6, rfl, it_y6, it_n6, rfl, rfl, rfl⟩
theorem fw_6_3 : it_fw 6 3 true (.array .int) := ⟨_, _, _, it_t6, rfl, it_y6, it_n6, rfl, rfl, rfl⟩
theorem fw_6_4 : it_fw 6 4 true (.array .int) := ⟨_, _, _, it_t6, rfl, it_y6, it_n6, rfl, rfl, rfl⟩
theorem fw_6_5 : it_fw 6 5 false .int := ⟨_, _, _, it_t6, rfl, it_y6, it_n6, rfl, rfl, rfl⟩
theorem fw_6_6 : it_fw 6 6 true (.array .int) := ⟨_, _, _, it_t6, rfl, it_y6, it_n6, rfl, rfl, rfl⟩
theorem fw_6_7 : it_fw 6 7 false .int := ⟨_, _, _, it_t6, rfl, it_y6, it_n6, rfl, rfl, rfl⟩
theorem fw_6_8 : it_fw 6 8 true (.array .int) := ⟨_, _, _, it_t6, rfl, it_y6, it_n6, rfl, rfl, rfl⟩
theorem fw_6_9 : it_fw 6 9 true (.array .int) := ⟨_, _, _, it_t6, rfl, it_y6, it_n6, rfl, rfl, rfl⟩
theorem fw_6_10 : it_fw 6 10 false .int := ⟨_, _, _, it_t6, rfl, it_y6, it_n6, rfl, rfl, rfl⟩
theorem fw_6_11 : it_fw 6 11 false .int := ⟨_, _, _, it_t6, rfl, it_y6, it_n6, rfl, rfl, rfl⟩
theorem fw_6_12 : it_fw 6 12 false .boolean := ⟨_, _, _, it_t6, rfl, it_y6, it_n6, rfl, rfl, rfl⟩
theorem fw_6_13 : it_fw 6 13 true (.array .int) := ⟨_, _, _, it_t6, rfl, it_y6, it_n6, rfl, rfl, rfl⟩
theorem fw_6_14 : it_fw 6 14 true (.array .int) := ⟨_, _, _, it_t6, rfl, it_y6, it_n6, rfl, rfl, rfl⟩
theorem fw_6_15 : it_fw 6 15 true (.array .int) := ⟨_, _, _, it_t6, rfl, it_y6, it_n6, rfl, rfl, rfl⟩
theorem fw_6_16 : it_fw 6 16 true (.array .int) := ⟨_, _, _, it_t6, rfl, it_y6, it_n6, rfl, rfl, rfl⟩
theorem fw_6_17 : it_fw 6 17 true (.array .int) := ⟨_, _, _, it_t6, rfl, it_y6, it_n6, rfl, rfl, rfl⟩
theorem fw_6_18 : it_fw 6 18 true (.array .int) := ⟨_, _, _, it_t6, rfl, it_y6, it_n6, rfl, rfl, rfl⟩
theorem fw_6_19 : it_fw 6 19 false .int := ⟨_, _, _, it_t6, rfl, it_y6, it_n6, rfl, rfl, rfl⟩
theorem fw_6_20 : it_fw 6 20 false .int := ⟨_, _, _, it_t6, rfl, it_y6, it_n6, rfl, rfl, rfl⟩
theorem fw_6_21 : it_fw 6 21 false .int := ⟨_, _, _, it_t6, rfl, it_y6, it_n6, rfl, rfl, rfl⟩
theorem fw_6_22 : it_fw 6 22 false .int := ⟨_, _, _, it_t6, rfl, it_y6, it_n6, rfl, rfl, rfl⟩
theorem fw_6_23 : it_fw 6 23 true (.array .int) := ⟨_, _, _, it_t6, rfl, it_y6, it_n6, rfl, rfl, rfl⟩
theorem fw_6_24 : it_fw 6 24 true (.array .int) := ⟨_, _, _, it_t6, rfl, it_y6, it_n6, rfl, rfl, rfl⟩
theorem fw_6_25 : it_fw 6 25 false .int := ⟨_, _, _, it_t6, rfl, it_y6, it_n6, rfl, rfl, rfl⟩
theorem fw_6_26 : it_fw 6 26 false .int := ⟨_, _, _, it_t6, rfl, it_y6, it_n6, rfl, rfl, rfl⟩
theorem fw_6_27 : it_fw 6 27 false .int := ⟨_, _, _, it_t6, rfl, it_y6, it_n6, rfl, rfl, rfl⟩
theorem fw_6_28 : it_fw 6 28 true (.array .int) := ⟨_, _, _, it_t6, rfl, it_y6, it_n6, rfl, rfl, rfl⟩
theorem fw_6_29 : it_fw 6 29 true (.array .int) := ⟨_, _, _, it_t6, rfl, it_y6, it_n6, rfl, rfl, rfl⟩
theorem fw_6_30 : it_fw 6 30 true (.array .int) := ⟨_, _, _, it_t6, rfl, it_y6, it_n6, rfl, rfl, rfl⟩
theorem fw_6_31 : it_fw 6 31 false .int := ⟨_, _, _, it_t6, rfl, it_y6, it_n6, rfl, rfl, rfl⟩
theorem fw_6_32 : it_fw 6 32 true (.array .int) := ⟨_, _, _, it_t6, rfl, it_y6, it_n6, rfl, rfl, rfl⟩
theorem fw_6_33 : it_fw 6 33 false .int := ⟨_, _, _, it_t6, rfl, it_y6, it_n6, rfl, rfl, rfl⟩
theorem ml_IcedTooSoon_9 : it_miN "IcedTooSoon" 9 it_m_X1_init 0 := ⟨mc_X1_init, by decide +kernel, it_in_tb (List.mem_of_getElem? (i := 81) (by decide +kernel)) rfl, rfl, rfl⟩
theorem ml_IcedTooSoon_18 : it_miN "IcedTooSoon" 18 it_m_X3_init 0 := ⟨mc_X3_init, by decide +kernel, it_in_tb (List.mem_of_getElem? (i := 104) (by decide +kernel)) rfl, rfl, rfl⟩
theorem ml_IcedTooSoon_25 : it_mi "IcedTooSoon" 25 it_m_X0_init 1 := ⟨mc_X0_init, it_in_tb (List.mem_of_getElem? (i := 139) (by decide +kernel)) rfl, it_in_tb (List.mem_of_getElem? (i := 140) (by decide +kernel)) rfl, rfl, rfl⟩
theorem ml_IcedTooSoon_48 : it_miN "IcedTooSoon" 48 it_m_X2_init 0 := ⟨mc_X2_init, by decide +kernel, it_in_tb (List.mem_of_getElem? (i := 194) (by decide +kernel)) rfl, rfl, rfl⟩
theorem ml_IcedTooSoon_51 : it_mv "IcedTooSoon" 51 it_m_J0_length_8abf5 0 := ⟨mc_J0_length_8abf5, it_in_tb (List.mem_of_getElem? (i := 211) (by decide +kernel)) rfl, it_in_tb (List.mem_of_getElem? (i := 212) (by decide +kernel)) rfl, it_in_tb (List.mem_of_getElem? (i := 213) (by decide +kernel)) rfl⟩
theorem ml_IcedTooSoon_57 : it_mv "IcedTooSoon" 57 it_m_J0_charAt_5068e 1 := ⟨mc_J0_charAt_5068e, it_in_tb (List.mem_of_getElem? (i := 221) (by decide +kernel)) rfl, it_in_tb (List.mem_of_getElem? (i := 222) (by decide +kernel)) rfl, it_in_tb (List.mem_of_getElem? (i := 223) (by decide +kernel)) rfl⟩
theorem ml_IcedTooSoon_61 : it_mv "IcedTooSoon" 61 it_m_X3_add 1 := ⟨mc_X3_add, it_in_tb (List.mem_of_getElem? (i := 259) (by decide +kernel)) rfl, it_in_tb (List.mem_of_getElem? (i := 260) (by decide +kernel)) rfl, it_in_tb (List.mem_of_getElem? (i := 261) (by decide +kernel)) rfl⟩
theorem ml_IcedTooSoon_65 : it_mv "IcedTooSoon" 65 it_m_X3_isRead 0 := ⟨mc_X3_isRead, it_in_tb (List.mem_of_getElem? (i := 263) (by decide +kernel)) rfl, it_in_tb (List.mem_of_getElem? (i := 264) (by decide +kernel)) rfl, it_in_tb (List.mem_of_getElem? (i := 265) (by decide +kernel)) rfl⟩
theorem ml_IcedTooSoon_69 : it_mv "IcedTooSoon" 69 it_m_X3_written 0 := ⟨mc_X3_written, it_in_tb (List.mem_of_getElem? (i := 380) (by decide +kernel)) rfl, it_in_tb (List.mem_of_getElem? (i := 381) (by decide +kernel)) rfl, it_in_tb (List.mem_of_getElem? (i := 382) (by decide +kernel)) rfl⟩
theorem ml_IcedTooSoon_73 : it_mv "IcedTooSoon" 73 it_m_X1_add 1 := ⟨mc_X1_add, it_in_tb (List.mem_of_getElem? (i := 414) (by decide +kernel)) rfl, it_in_tb (List.mem_of_getElem? (i := 415) (by decide +kernel)) rfl, it_in_tb (List.mem_of_getElem? (i := 416) (by decide +kernel)) rfl⟩
theorem ml_IcedTooSoon_76 : it_mv "IcedTooSoon" 76 it_m_X3_empty 0 := ⟨mc_X3_empty, it_in_tb (List.mem_of_getElem? (i := 418) (by decide +kernel)) rfl, it_in_tb (List.mem_of_getElem? (i := 419) (by decide +kernel)) rfl, it_in_tb (List.mem_of_getElem? (i := 420) (by decide +kernel)) rfl⟩
theorem ml_IcedTooSoon_83 : it_mv "IcedTooSoon" 83 it_m_X0_glassesThere 0 := ⟨mc_X0_glassesThere, it_in_tb (List.mem_of_getElem? (i := 448) (by decide +kernel)) rfl, it_in_tb (List.mem_of_getElem? (i := 449) (by decide +kernel)) rfl, it_in_tb (List.mem_of_getElem? (i := 450) (by decide +kernel)) rfl⟩
theorem ml_IcedTooSoon_96 : it_ms "IcedTooSoon" 96 it_m_X5_isOutside 3 := ⟨mc_X5_isOutside, it_in_tb (List.mem_of_getElem? (i := 464) (by decide +kernel)) rfl, it_in_tb (List.mem_of_getElem? (i := 465) (by decide +kernel)) rfl⟩
theorem ml_IcedTooSoon_100 : it_ms "IcedTooSoon" 100 it_m_X5_isNoByte 1 := ⟨mc_X5_isNoByte, it_in_tb (List.mem_of_getElem? (i := 471) (by decide +kernel)) rfl, it_in_tb (List.mem_of_getElem? (i := 472) (by decide +kernel)) rfl⟩
theorem ml_IcedTooSoon_107 : it_mv "IcedTooSoon" 107 it_m_X0_hasGlass 1 := ⟨mc_X0_hasGlass, it_in_tb (List.mem_of_getElem? (i := 486) (by decide +kernel)) rfl, it_in_tb (List.mem_of_getElem? (i := 453) (by decide +kernel)) rfl, it_in_tb (List.mem_of_getElem? (i := 454) (by decide +kernel)) rfl⟩
theorem ml_IcedTooSoon_110 : it_mv "IcedTooSoon" 110 it_m_X0_saying 2 := ⟨mc_X0_saying, it_in_tb (List.mem_of_getElem? (i := 487) (by decide +kernel)) rfl, it_in_tb (List.mem_of_getElem? (i := 488) (by decide +kernel)) rfl, it_in_tb (List.mem_of_getElem? (i := 489) (by decide +kernel)) rfl⟩
theorem ml_IcedTooSoon_114 : it_mv "IcedTooSoon" 114 it_m_X0_admit 2 := ⟨mc_X0_admit, it_in_tb (List.mem_of_getElem? (i := 519) (by decide +kernel)) rfl, it_in_tb (List.mem_of_getElem? (i := 520) (by decide +kernel)) rfl, it_in_tb (List.mem_of_getElem? (i := 521) (by decide +kernel)) rfl⟩
theorem ml_IcedTooSoon_117 : it_mv "IcedTooSoon" 117 it_m_X0_hasGuest 1 := ⟨mc_X0_hasGuest, it_in_tb (List.mem_of_getElem? (i := 528) (by decide +kernel)) rfl, it_in_tb (List.mem_of_getElem? (i := 457) (by decide +kernel)) rfl, it_in_tb (List.mem_of_getElem? (i := 458) (by decide +kernel)) rfl⟩
theorem ml_IcedTooSoon_120 : it_mv "IcedTooSoon" 120 it_m_X0_serve 3 := ⟨mc_X0_serve, it_in_tb (List.mem_of_getElem? (i := 529) (by decide +kernel)) rfl, it_in_tb (List.mem_of_getElem? (i := 530) (by decide +kernel)) rfl, it_in_tb (List.mem_of_getElem? (i := 531) (by decide +kernel)) rfl⟩
theorem ml_IcedTooSoon_131 : it_mv "IcedTooSoon" 131 it_m_X0_set 3 := ⟨mc_X0_set, it_in_tb (List.mem_of_getElem? (i := 543) (by decide +kernel)) rfl, it_in_tb (List.mem_of_getElem? (i := 544) (by decide +kernel)) rfl, it_in_tb (List.mem_of_getElem? (i := 545) (by decide +kernel)) rfl⟩
theorem ml_IcedTooSoon_141 : it_mv "IcedTooSoon" 141 it_m_X0_glassesOf 1 := ⟨mc_X0_glassesOf, it_in_tb (List.mem_of_getElem? (i := 551) (by decide +kernel)) rfl, it_in_tb (List.mem_of_getElem? (i := 552) (by decide +kernel)) rfl, it_in_tb (List.mem_of_getElem? (i := 553) (by decide +kernel)) rfl⟩
theorem ml_IcedTooSoon_145 : it_mv "IcedTooSoon" 145 it_m_X5_nextOff 1 := ⟨mc_X5_nextOff, it_in_tb (List.mem_of_getElem? (i := 555) (by decide +kernel)) rfl, it_in_tb (List.mem_of_getElem? (i := 557) (by decide +kernel)) rfl, it_in_tb (List.mem_of_getElem? (i := 10) (by decide +kernel)) rfl⟩
theorem ml_IcedTooSoon_157 : it_mv "IcedTooSoon" 157 it_m_X0_melting 1 := ⟨mc_X0_melting, it_in_tb (List.mem_of_getElem? (i := 593) (by decide +kernel)) rfl, it_in_tb (List.mem_of_getElem? (i := 573) (by decide +kernel)) rfl, it_in_tb (List.mem_of_getElem? (i := 574) (by decide +kernel)) rfl⟩
theorem ml_IcedTooSoon_160 : it_mv "IcedTooSoon" 160 it_m_X0_feeling 1 := ⟨mc_X0_feeling, it_in_tb (List.mem_of_getElem? (i := 594) (by decide +kernel)) rfl, it_in_tb (List.mem_of_getElem? (i := 578) (by decide +kernel)) rfl, it_in_tb (List.mem_of_getElem? (i := 579) (by decide +kernel)) rfl⟩
theorem ml_IcedTooSoon_163 : it_mv "IcedTooSoon" 163 it_m_X0_chilling 1 := ⟨mc_X0_chilling, it_in_tb (List.mem_of_getElem? (i := 595) (by decide +kernel)) rfl, it_in_tb (List.mem_of_getElem? (i := 534) (by decide +kernel)) rfl, it_in_tb (List.mem_of_getElem? (i := 535) (by decide +kernel)) rfl⟩
theorem ml_IcedTooSoon_166 : it_mv "IcedTooSoon" 166 it_m_X0_passDay 0 := ⟨mc_X0_passDay, it_in_tb (List.mem_of_getElem? (i := 568) (by decide +kernel)) rfl, it_in_tb (List.mem_of_getElem? (i := 569) (by decide +kernel)) rfl, it_in_tb (List.mem_of_getElem? (i := 570) (by decide +kernel)) rfl⟩
theorem ml_IcedTooSoon_169 : it_mv "IcedTooSoon" 169 it_m_X0_addIce 2 := ⟨mc_X0_addIce, it_in_tb (List.mem_of_getElem? (i := 604) (by decide +kernel)) rfl, it_in_tb (List.mem_of_getElem? (i := 605) (by decide +kernel)) rfl, it_in_tb (List.mem_of_getElem? (i := 606) (by decide +kernel)) rfl⟩
theorem ml_IcedTooSoon_173 : it_mv "IcedTooSoon" 173 it_m_X0_take 1 := ⟨mc_X0_take, it_in_tb (List.mem_of_getElem? (i := 612) (by decide +kernel)) rfl, it_in_tb (List.mem_of_getElem? (i := 582) (by decide +kernel)) rfl, it_in_tb (List.mem_of_getElem? (i := 583) (by decide +kernel)) rfl⟩
theorem ml_IcedTooSoon_176 : it_ms "IcedTooSoon" 176 it_m_X5_oneOf 1 := ⟨mc_X5_oneOf, it_in_tb (List.mem_of_getElem? (i := 617) (by decide +kernel)) rfl, it_in_tb (List.mem_of_getElem? (i := 618) (by decide +kernel)) rfl⟩
theorem ml_IcedTooSoon_180 : it_mv "IcedTooSoon" 180 it_m_X5_think 0 := ⟨mc_X5_think, it_in_tb (List.mem_of_getElem? (i := 559) (by decide +kernel)) rfl, it_in_tb (List.mem_of_getElem? (i := 561) (by decide +kernel)) rfl, it_in_tb (List.mem_of_getElem? (i := 11) (by decide +kernel)) rfl⟩
theorem ml_IcedTooSoon_183 : it_mv "IcedTooSoon" 183 it_m_X0_moodOfAll 0 := ⟨mc_X0_moodOfAll, it_in_tb (List.mem_of_getElem? (i := 621) (by decide +kernel)) rfl, it_in_tb (List.mem_of_getElem? (i := 622) (by decide +kernel)) rfl, it_in_tb (List.mem_of_getElem? (i := 623) (by decide +kernel)) rfl⟩
theorem ml_IcedTooSoon_186 : it_mv "IcedTooSoon" 186 it_m_X0_guestsBelow 1 := ⟨mc_X0_guestsBelow, it_in_tb (List.mem_of_getElem? (i := 637) (by decide +kernel)) rfl, it_in_tb (List.mem_of_getElem? (i := 638) (by decide +kernel)) rfl, it_in_tb (List.mem_of_getElem? (i := 639) (by decide +kernel)) rfl⟩
theorem ml_IcedTooSoon_189 : it_mv "IcedTooSoon" 189 it_m_X5_moodIfIced 3 := ⟨mc_X5_moodIfIced, it_in_tb (List.mem_of_getElem? (i := 645) (by decide +kernel)) rfl, it_in_tb (List.mem_of_getElem? (i := 647) (by decide +kernel)) rfl, it_in_tb (List.mem_of_getElem? (i := 12) (by decide +kernel)) rfl⟩
theorem ml_IcedTooSoon_192 : it_mv "IcedTooSoon" 192 it_m_X5_moodIfSpilt 2 := ⟨mc_X5_moodIfSpilt, it_in_tb (List.mem_of_getElem? (i := 653) (by decide +kernel)) rfl, it_in_tb (List.mem_of_getElem? (i := 655) (by decide +kernel)) rfl, it_in_tb (List.mem_of_getElem? (i := 13) (by decide +kernel)) rfl⟩
theorem ml_IcedTooSoon_195 : it_mv "IcedTooSoon" 195 it_m_X5_roundOf 3 := ⟨mc_X5_roundOf, it_in_tb (List.mem_of_getElem? (i := 661) (by decide +kernel)) rfl, it_in_tb (List.mem_of_getElem? (i := 663) (by decide +kernel)) rfl, it_in_tb (List.mem_of_getElem? (i := 14) (by decide +kernel)) rfl⟩
theorem ml_IcedTooSoon_200 : it_mv "IcedTooSoon" 200 it_m_X0_weightOfAll 0 := ⟨mc_X0_weightOfAll, it_in_tb (List.mem_of_getElem? (i := 679) (by decide +kernel)) rfl, it_in_tb (List.mem_of_getElem? (i := 680) (by decide +kernel)) rfl, it_in_tb (List.mem_of_getElem? (i := 681) (by decide +kernel)) rfl⟩
theorem ml_IcedTooSoon_203 : it_ms "IcedTooSoon" 203 it_m_X5_inLowestTerms 3 := ⟨mc_X5_inLowestTerms, it_in_tb (List.mem_of_getElem? (i := 683) (by decide +kernel)) rfl, it_in_tb (List.mem_of_getElem? (i := 684) (by decide +kernel)) rfl⟩
theorem ml_IcedTooSoon_207 : it_mv "IcedTooSoon" 207 it_m_X5_refusalOfDays 2 := ⟨mc_X5_refusalOfDays, it_in_tb (List.mem_of_getElem? (i := 693) (by decide +kernel)) rfl, it_in_tb (List.mem_of_getElem? (i := 695) (by decide +kernel)) rfl, it_in_tb (List.mem_of_getElem? (i := 15) (by decide +kernel)) rfl⟩
theorem ml_IcedTooSoon_210 : it_mv "IcedTooSoon" 210 it_m_X5_firstOtherwise 2 := ⟨mc_X5_firstOtherwise, it_in_tb (List.mem_of_getElem? (i := 704) (by decide +kernel)) rfl, it_in_tb (List.mem_of_getElem? (i := 706) (by decide +kernel)) rfl, it_in_tb (List.mem_of_getElem? (i := 17) (by decide +kernel)) rfl⟩
theorem ml_IcedTooSoon_213 : it_mv "IcedTooSoon" 213 it_m_X0_setKind 3 := ⟨mc_X0_setKind, it_in_tb (List.mem_of_getElem? (i := 712) (by decide +kernel)) rfl, it_in_tb (List.mem_of_getElem? (i := 713) (by decide +kernel)) rfl, it_in_tb (List.mem_of_getElem? (i := 714) (by decide +kernel)) rfl⟩
theorem ml_IcedTooSoon_216 : it_mv "IcedTooSoon" 216 it_m_X5_refusalOfSheet 1 := ⟨mc_X5_refusalOfSheet, it_in_tb (List.mem_of_getElem? (i := 697) (by decide +kernel)) rfl, it_in_tb (List.mem_of_getElem? (i := 699) (by decide +kernel)) rfl, it_in_tb (List.mem_of_getElem? (i := 16) (by decide +kernel)) rfl⟩
theorem ml_IcedTooSoon_219 : it_ms "IcedTooSoon" 219 it_m_X5_isNoSheet 1 := ⟨mc_X5_isNoSheet, it_in_tb (List.mem_of_getElem? (i := 701) (by decide +kernel)) rfl, it_in_tb (List.mem_of_getElem? (i := 702) (by decide +kernel)) rfl⟩
theorem ml_IcedTooSoon_222 : it_mv "IcedTooSoon" 222 it_m_X2_renew 2 := ⟨mc_X2_renew, it_in_tb (List.mem_of_getElem? (i := 736) (by decide +kernel)) rfl, it_in_tb (List.mem_of_getElem? (i := 737) (by decide +kernel)) rfl, it_in_tb (List.mem_of_getElem? (i := 738) (by decide +kernel)) rfl⟩
theorem ml_IcedTooSoon_225 : it_mv "IcedTooSoon" 225 it_m_X2_write 2 := ⟨mc_X2_write, it_in_tb (List.mem_of_getElem? (i := 741) (by decide +kernel)) rfl, it_in_tb (List.mem_of_getElem? (i := 742) (by decide +kernel)) rfl, it_in_tb (List.mem_of_getElem? (i := 743) (by decide +kernel)) rfl⟩
theorem ml_IcedTooSoon_229 : it_mv "IcedTooSoon" 229 it_m_X5_thinkOfLots 1 := ⟨mc_X5_thinkOfLots, it_in_tb (List.mem_of_getElem? (i := 750) (by decide +kernel)) rfl, it_in_tb (List.mem_of_getElem? (i := 752) (by decide +kernel)) rfl, it_in_tb (List.mem_of_getElem? (i := 18) (by decide +kernel)) rfl⟩
theorem ml_IcedTooSoon_232 : it_mv "IcedTooSoon" 232 it_m_X0_become 1 := ⟨mc_X0_become, it_in_tb (List.mem_of_getElem? (i := 563) (by decide +kernel)) rfl, it_in_tb (List.mem_of_getElem? (i := 564) (by decide +kernel)) rfl, it_in_tb (List.mem_of_getElem? (i := 565) (by decide +kernel)) rfl⟩
theorem ml_IcedTooSoon_239 : it_mv "IcedTooSoon" 239 it_m_X2_has 1 := ⟨mc_X2_has, it_in_tb (List.mem_of_getElem? (i := 782) (by decide +kernel)) rfl, it_in_tb (List.mem_of_getElem? (i := 783) (by decide +kernel)) rfl, it_in_tb (List.mem_of_getElem? (i := 784) (by decide +kernel)) rfl⟩
theorem ml_IcedTooSoon_252 : it_ms "IcedTooSoon" 252 it_m_X5_isOfKind 2 := ⟨mc_X5_isOfKind, it_in_tb (List.mem_of_getElem? (i := 799) (by decide +kernel)) rfl, it_in_tb (List.mem_of_getElem? (i := 800) (by decide +kernel)) rfl⟩
theorem ml_IcedTooSoon_256 : it_ms "IcedTooSoon" 256 it_m_J9_min_7cf53 2 := ⟨mc_J9_min_7cf53, it_in_tb (List.mem_of_getElem? (i := 513) (by decide +kernel)) rfl, it_in_tb (List.mem_of_getElem? (i := 313) (by decide +kernel)) rfl⟩
theorem ml_IcedTooSoon_261 : it_ms "IcedTooSoon" 261 it_m_J9_max_7cf53 2 := ⟨mc_J9_max_7cf53, it_in_tb (List.mem_of_getElem? (i := 514) (by decide +kernel)) rfl, it_in_tb (List.mem_of_getElem? (i := 310) (by decide +kernel)) rfl⟩
theorem ml_IcedTooSoon_267 : it_ms "IcedTooSoon" 267 it_m_J6_bitCount_0f7a4 1 := ⟨mc_J6_bitCount_0f7a4, it_in_tb (List.mem_of_getElem? (i := 668) (by decide +kernel)) rfl, it_in_tb (List.mem_of_getElem? (i := 669) (by decide +kernel)) rfl⟩
theorem ml_IcedTooSoon_272 : it_ms "IcedTooSoon" 272 it_m_J9_abs_0f7a4 1 := ⟨mc_J9_abs_0f7a4, it_in_tb (List.mem_of_getElem? (i := 686) (by decide +kernel)) rfl, it_in_tb (List.mem_of_getElem? (i := 687) (by decide +kernel)) rfl⟩
theorem ml_IcedTooSoon_275 : it_ms "IcedTooSoon" 275 it_m_J6_numberOfTrailingZeros_0f7a4 1 := ⟨mc_J6_numberOfTrailingZeros_0f7a4, it_in_tb (List.mem_of_getElem? (i := 585) (by decide +kernel)) rfl, it_in_tb (List.mem_of_getElem? (i := 586) (by decide +kernel)) rfl⟩
theorem ml_IcedTooSoon_278 : it_ms "IcedTooSoon" 278 it_m_X5_isAhead 2 := ⟨mc_X5_isAhead, it_in_tb (List.mem_of_getElem? (i := 665) (by decide +kernel)) rfl, it_in_tb (List.mem_of_getElem? (i := 666) (by decide +kernel)) rfl⟩
theorem ml_IcedTooSoon_281 : it_ms "IcedTooSoon" 281 it_m_X5_lotBehind 1 := ⟨mc_X5_lotBehind, it_in_tb (List.mem_of_getElem? (i := 754) (by decide +kernel)) rfl, it_in_tb (List.mem_of_getElem? (i := 755) (by decide +kernel)) rfl⟩
theorem ml_IcedTooSoon_House_37 : it_ms "IcedTooSoon$House" 37 it_m_J7_fill_53178 2 := ⟨mc_J7_fill_53178, it_in_tb (List.mem_of_getElem? (i := 143) (by decide +kernel)) rfl, it_in_tb (List.mem_of_getElem? (i := 144) (by decide +kernel)) rfl⟩
theorem ml_IcedTooSoon_House_59 : it_mv "IcedTooSoon$House" 59 it_m_X0_hasGuest 1 := ⟨mc_X0_hasGuest, it_in_tb (List.mem_of_getElem? (i := 456) (by decide +kernel)) rfl, it_in_tb (List.mem_of_getElem? (i := 457) (by decide +kernel)) rfl, it_in_tb (List.mem_of_getElem? (i := 458) (by decide +kernel)) rfl⟩
theorem ml_IcedTooSoon_House_63 : it_mv "IcedTooSoon$House" 63 it_m_X0_hasGlass 1 := ⟨mc_X0_hasGlass, it_in_tb (List.mem_of_getElem? (i := 452) (by decide +kernel)) rfl, it_in_tb (List.mem_of_getElem? (i := 453) (by decide +kernel)) rfl, it_in_tb (List.mem_of_getElem? (i := 454) (by decide +kernel)) rfl⟩
theorem ml_IcedTooSoon_House_66 : it_msN "IcedTooSoon$House" 66 it_m_X5_isOutside 3 := ⟨mc_X5_isOutside, by decide +kernel, it_in_tb (List.mem_of_getElem? (i := 465) (by decide +kernel)) rfl⟩
theorem ml_IcedTooSoon_House_70 : it_mv "IcedTooSoon$House" 70 it_m_X0_chilling 1 := ⟨mc_X0_chilling, it_in_tb (List.mem_of_getElem? (i := 533) (by decide +kernel)) rfl, it_in_tb (List.mem_of_getElem? (i := 534) (by decide +kernel)) rfl, it_in_tb (List.mem_of_getElem? (i := 535) (by decide +kernel)) rfl⟩
theorem ml_IcedTooSoon_House_74 : it_ms "IcedTooSoon$House" 74 it_m_J9_min_7cf53 2 := ⟨mc_J9_min_7cf53, it_in_tb (List.mem_of_getElem? (i := 538) (by decide +kernel)) rfl, it_in_tb (List.mem_of_getElem? (i := 313) (by decide +kernel)) rfl⟩
theorem ml_IcedTooSoon_House_80 : it_mv "IcedTooSoon$House" 80 it_m_X0_melting 1 := ⟨mc_X0_melting, it_in_tb (List.mem_of_getElem? (i := 572) (by decide +kernel)) rfl, it_in_tb (List.mem_of_getElem? (i := 573) (by decide +kernel)) rfl, it_in_tb (List.mem_of_getElem? (i := 574) (by decide +kernel)) rfl⟩
theorem ml_IcedTooSoon_House_83 : it_ms "IcedTooSoon$House" 83 it_m_J9_max_7cf53 2 := ⟨mc_J9_max_7cf53, it_in_tb (List.mem_of_getElem? (i := 576) (by decide +kernel)) rfl, it_in_tb (List.mem_of_getElem? (i := 310) (by decide +kernel)) rfl⟩
theorem ml_IcedTooSoon_House_86 : it_mv "IcedTooSoon$House" 86 it_m_X0_feeling 1 := ⟨mc_X0_feeling, it_in_tb (List.mem_of_getElem? (i := 577) (by decide +kernel)) rfl, it_in_tb (List.mem_of_getElem? (i := 578) (by decide +kernel)) rfl, it_in_tb (List.mem_of_getElem? (i := 579) (by decide +kernel)) rfl⟩
theorem ml_IcedTooSoon_House_89 : it_msN "IcedTooSoon$House" 89 it_m_X5_bounded 3 := ⟨mc_X5_bounded, by decide +kernel, it_in_tb (List.mem_of_getElem? (i := 511) (by decide +kernel)) rfl⟩
theorem ml_IcedTooSoon_House_93 : it_mv "IcedTooSoon$House" 93 it_m_X0_take 1 := ⟨mc_X0_take, it_in_tb (List.mem_of_getElem? (i := 581) (by decide +kernel)) rfl, it_in_tb (List.mem_of_getElem? (i := 582) (by decide +kernel)) rfl, it_in_tb (List.mem_of_getElem? (i := 583) (by decide +kernel)) rfl⟩
theorem ml_IcedTooSoon_House_97 : it_mv "IcedTooSoon$House" 97 it_m_X1_name 6 := ⟨mc_X1_name, it_in_tb (List.mem_of_getElem? (i := 491) (by decide +kernel)) rfl, it_in_tb (List.mem_of_getElem? (i := 492) (by decide +kernel)) rfl, it_in_tb (List.mem_of_getElem? (i := 493) (by decide +kernel)) rfl⟩
theorem ml_IcedTooSoon_House_103 : it_mv "IcedTooSoon$House" 103 it_m_X1_reckon 2 := ⟨mc_X1_reckon, it_in_tb (List.mem_of_getElem? (i := 495) (by decide +kernel)) rfl, it_in_tb (List.mem_of_getElem? (i := 496) (by decide +kernel)) rfl, it_in_tb (List.mem_of_getElem? (i := 497) (by decide +kernel)) rfl⟩
theorem ml_IcedTooSoon_House_106 : it_mv "IcedTooSoon$House" 106 it_m_X0_saying 2 := ⟨mc_X0_saying, it_in_tb (List.mem_of_getElem? (i := 537) (by decide +kernel)) rfl, it_in_tb (List.mem_of_getElem? (i := 488) (by decide +kernel)) rfl, it_in_tb (List.mem_of_getElem? (i := 489) (by decide +kernel)) rfl⟩
theorem ml_IcedTooSoon_Lawbook_30 : it_msN "IcedTooSoon$Lawbook" 30 it_m_X5_isOutside 3 := ⟨mc_X5_isOutside, by decide +kernel, it_in_tb (List.mem_of_getElem? (i := 465) (by decide +kernel)) rfl⟩
theorem ml_IcedTooSoon_Lawbook_40 : it_ms "IcedTooSoon$Lawbook" 40 it_m_X3_isName 1 := ⟨mc_X3_isName, it_in_tb (List.mem_of_getElem? (i := 500) (by decide +kernel)) rfl, it_in_tb (List.mem_of_getElem? (i := 374) (by decide +kernel)) rfl⟩
theorem ml_IcedTooSoon_Lawbook_44 : it_ms "IcedTooSoon$Lawbook" 44 it_m_X3_isTurn 1 := ⟨mc_X3_isTurn, it_in_tb (List.mem_of_getElem? (i := 501) (by decide +kernel)) rfl, it_in_tb (List.mem_of_getElem? (i := 502) (by decide +kernel)) rfl⟩
theorem ml_IcedTooSoon_Lawbook_47 : it_ms "IcedTooSoon$Lawbook" 47 it_m_X1_turned 2 := ⟨mc_X1_turned, it_in_tb (List.mem_of_getElem? (i := 504) (by decide +kernel)) rfl, it_in_tb (List.mem_of_getElem? (i := 505) (by decide +kernel)) rfl⟩
theorem ml_IcedTooSoon_Lawbook_51 : it_ms "IcedTooSoon$Lawbook" 51 it_m_X1_joined 3 := ⟨mc_X1_joined, it_in_tb (List.mem_of_getElem? (i := 507) (by decide +kernel)) rfl, it_in_tb (List.mem_of_getElem? (i := 508) (by decide +kernel)) rfl⟩
theorem ml_IcedTooSoon_Sheet_22 : it_ms "IcedTooSoon$Sheet" 22 it_m_J7_fill_53178 2 := ⟨mc_J7_fill_53178, it_in_tb (List.mem_of_getElem? (i := 740) (by decide +kernel)) rfl, it_in_tb (List.mem_of_getElem? (i := 144) (by decide +kernel)) rfl⟩
theorem ml_IcedTooSoon_Tape_30 : it_ms "IcedTooSoon$Tape" 30 it_m_J7_copyOf_59c91 2 := ⟨mc_J7_copyOf_59c91, it_in_tb (List.mem_of_getElem? (i := 386) (by decide +kernel)) rfl, it_in_tb (List.mem_of_getElem? (i := 387) (by decide +kernel)) rfl⟩
theorem ml_IcedTooSoon_Tape_36 : it_mi "IcedTooSoon$Tape" 36 it_m_X4_init 2 := ⟨mc_X4_init, it_in_tb (List.mem_of_getElem? (i := 400) (by decide +kernel)) rfl, it_in_tb (List.mem_of_getElem? (i := 401) (by decide +kernel)) rfl, rfl, rfl⟩
theorem ml_IcedTooSoon_Tape_42 : it_mv "IcedTooSoon$Tape" 42 it_m_X3_next 0 := ⟨mc_X3_next, it_in_tb (List.mem_of_getElem? (i := 267) (by decide +kernel)) rfl, it_in_tb (List.mem_of_getElem? (i := 269) (by decide +kernel)) rfl, it_in_tb (List.mem_of_getElem? (i := 0) (by decide +kernel)) rfl⟩
theorem ml_IcedTooSoon_Tape_48 : it_mv "IcedTooSoon$Tape" 48 it_m_X3_readLevel 2 := ⟨mc_X3_readLevel, it_in_tb (List.mem_of_getElem? (i := 353) (by decide +kernel)) rfl, it_in_tb (List.mem_of_getElem? (i := 355) (by decide +kernel)) rfl, it_in_tb (List.mem_of_getElem? (i := 4) (by decide +kernel)) rfl⟩
theorem ml_IcedTooSoon_Tape_52 : it_mv "IcedTooSoon$Tape" 52 it_m_X3_readOne 1 := ⟨mc_X3_readOne, it_in_tb (List.mem_of_getElem? (i := 357) (by decide +kernel)) rfl, it_in_tb (List.mem_of_getElem? (i := 359) (by decide +kernel)) rfl, it_in_tb (List.mem_of_getElem? (i := 5) (by decide +kernel)) rfl⟩
theorem ml_IcedTooSoon_Tape_56 : it_mv "IcedTooSoon$Tape" 56 it_m_X3_readTurned 2 := ⟨mc_X3_readTurned, it_in_tb (List.mem_of_getElem? (i := 361) (by decide +kernel)) rfl, it_in_tb (List.mem_of_getElem? (i := 363) (by decide +kernel)) rfl, it_in_tb (List.mem_of_getElem? (i := 6) (by decide +kernel)) rfl⟩
theorem ml_IcedTooSoon_Tape_59 : it_mv "IcedTooSoon$Tape" 59 it_m_X3_joins 1 := ⟨mc_X3_joins, it_in_tb (List.mem_of_getElem? (i := 376) (by decide +kernel)) rfl, it_in_tb (List.mem_of_getElem? (i := 378) (by decide +kernel)) rfl, it_in_tb (List.mem_of_getElem? (i := 9) (by decide +kernel)) rfl⟩
theorem ml_IcedTooSoon_Tape_62 : it_mv "IcedTooSoon$Tape" 62 it_m_X3_write 1 := ⟨mc_X3_write, it_in_tb (List.mem_of_getElem? (i := 365) (by decide +kernel)) rfl, it_in_tb (List.mem_of_getElem? (i := 367) (by decide +kernel)) rfl, it_in_tb (List.mem_of_getElem? (i := 7) (by decide +kernel)) rfl⟩
theorem ml_IcedTooSoon_Tape_66 : it_mv "IcedTooSoon$Tape" 66 it_m_X3_readInner 1 := ⟨mc_X3_readInner, it_in_tb (List.mem_of_getElem? (i := 369) (by decide +kernel)) rfl, it_in_tb (List.mem_of_getElem? (i := 371) (by decide +kernel)) rfl, it_in_tb (List.mem_of_getElem? (i := 8) (by decide +kernel)) rfl⟩
theorem ml_IcedTooSoon_Tape_69 : it_ms "IcedTooSoon$Tape" 69 it_m_X3_isName 1 := ⟨mc_X3_isName, it_in_tb (List.mem_of_getElem? (i := 373) (by decide +kernel)) rfl, it_in_tb (List.mem_of_getElem? (i := 374) (by decide +kernel)) rfl⟩
theorem ml_IcedTooSoon_Tape_78 : it_ms "IcedTooSoon$Tape" 78 it_m_X3_isLetter 1 := ⟨mc_X3_isLetter, it_in_tb (List.mem_of_getElem? (i := 271) (by decide +kernel)) rfl, it_in_tb (List.mem_of_getElem? (i := 272) (by decide +kernel)) rfl⟩
theorem ml_IcedTooSoon_Tape_81 : it_mv "IcedTooSoon$Tape" 81 it_m_X3_nextWord 0 := ⟨mc_X3_nextWord, it_in_tb (List.mem_of_getElem? (i := 274) (by decide +kernel)) rfl, it_in_tb (List.mem_of_getElem? (i := 276) (by decide +kernel)) rfl, it_in_tb (List.mem_of_getElem? (i := 1) (by decide +kernel)) rfl⟩
theorem ml_IcedTooSoon_Tape_84 : it_ms "IcedTooSoon$Tape" 84 it_m_X3_isDigit 1 := ⟨mc_X3_isDigit, it_in_tb (List.mem_of_getElem? (i := 286) (by decide +kernel)) rfl, it_in_tb (List.mem_of_getElem? (i := 287) (by decide +kernel)) rfl⟩
theorem ml_IcedTooSoon_Tape_87 : it_mv "IcedTooSoon$Tape" 87 it_m_X3_nextNumber 0 := ⟨mc_X3_nextNumber, it_in_tb (List.mem_of_getElem? (i := 289) (by decide +kernel)) rfl, it_in_tb (List.mem_of_getElem? (i := 291) (by decide +kernel)) rfl, it_in_tb (List.mem_of_getElem? (i := 3) (by decide +kernel)) rfl⟩
theorem ml_IcedTooSoon_Tape_92 : it_mv "IcedTooSoon$Tape" 92 it_m_J0_indexOf_0f7a4 1 := ⟨mc_J0_indexOf_0f7a4, it_in_tb (List.mem_of_getElem? (i := 294) (by decide +kernel)) rfl, it_in_tb (List.mem_of_getElem? (i := 295) (by decide +kernel)) rfl, it_in_tb (List.mem_of_getElem? (i := 296) (by decide +kernel)) rfl⟩
theorem ml_IcedTooSoon_Tape_98 : it_mv "IcedTooSoon$Tape" 98 it_m_X3_isWord 1 := ⟨mc_X3_isWord, it_in_tb (List.mem_of_getElem? (i := 278) (by decide +kernel)) rfl, it_in_tb (List.mem_of_getElem? (i := 280) (by decide +kernel)) rfl, it_in_tb (List.mem_of_getElem? (i := 2) (by decide +kernel)) rfl⟩
theorem ml_IcedTooSoon_Tape_106 : it_mv "IcedTooSoon$Tape" 106 it_m_J0_charAt_5068e 1 := ⟨mc_J0_charAt_5068e, it_in_tb (List.mem_of_getElem? (i := 285) (by decide +kernel)) rfl, it_in_tb (List.mem_of_getElem? (i := 222) (by decide +kernel)) rfl, it_in_tb (List.mem_of_getElem? (i := 223) (by decide +kernel)) rfl⟩
theorem ml_IcedTooSoonLaw_9 : it_mi "IcedTooSoonLaw" 9 it_m_X5_init 0 := ⟨mc_X5_init, it_in_tb (List.mem_of_getElem? (i := 72) (by decide +kernel)) rfl, it_in_tb (List.mem_of_getElem? (i := 73) (by decide +kernel)) rfl, rfl, rfl⟩
theorem ml_IcedTooSoonLaw_12 : it_mi "IcedTooSoonLaw" 12 it_m_X6_init 0 := ⟨mc_X6_init, it_in_tb (List.mem_of_getElem? (i := 806) (by decide +kernel)) rfl, it_in_tb (List.mem_of_getElem? (i := 807) (by decide +kernel)) rfl, rfl, rfl⟩
theorem ml_IcedTooSoonLaw_13 : it_mv "IcedTooSoonLaw" 13 it_m_X5_count 1 := ⟨mc_X5_count, it_in_tb (List.mem_of_getElem? (i := 444) (by decide +kernel)) rfl, it_in_tb (List.mem_of_getElem? (i := 445) (by decide +kernel)) rfl, it_in_tb (List.mem_of_getElem? (i := 446) (by decide +kernel)) rfl⟩
theorem ml_IcedTooSoonLaw_17 : it_mv "IcedTooSoonLaw" 17 it_m_X6_count 1 := ⟨mc_X6_count, it_in_tb (List.mem_of_getElem? (i := 960) (by decide +kernel)) rfl, it_in_tb (List.mem_of_getElem? (i := 961) (by decide +kernel)) rfl, it_in_tb (List.mem_of_getElem? (i := 962) (by decide +kernel)) rfl⟩
theorem ml_IcedTooSoonLaw_18 : it_mv "IcedTooSoonLaw" 18 it_m_X5_dawn 1 := ⟨mc_X5_dawn, it_in_tb (List.mem_of_getElem? (i := 460) (by decide +kernel)) rfl, it_in_tb (List.mem_of_getElem? (i := 461) (by decide +kernel)) rfl, it_in_tb (List.mem_of_getElem? (i := 462) (by decide +kernel)) rfl⟩
theorem ml_IcedTooSoonLaw_21 : it_mv "IcedTooSoonLaw" 21 it_m_X6_dawn 1 := ⟨mc_X6_dawn, it_in_tb (List.mem_of_getElem? (i := 975) (by decide +kernel)) rfl, it_in_tb (List.mem_of_getElem? (i := 976) (by decide +kernel)) rfl, it_in_tb (List.mem_of_getElem? (i := 977) (by decide +kernel)) rfl⟩
theorem ml_IcedTooSoonLaw_22 : it_mv "IcedTooSoonLaw" 22 it_m_X5_feed 6 := ⟨mc_X5_feed, it_in_tb (List.mem_of_getElem? (i := 467) (by decide +kernel)) rfl, it_in_tb (List.mem_of_getElem? (i := 468) (by decide +kernel)) rfl, it_in_tb (List.mem_of_getElem? (i := 469) (by decide +kernel)) rfl⟩
theorem ml_IcedTooSoonLaw_26 : it_mv "IcedTooSoonLaw" 26 it_m_X6_feed 6 := ⟨mc_X6_feed, it_in_tb (List.mem_of_getElem? (i := 979) (by decide +kernel)) rfl, it_in_tb (List.mem_of_getElem? (i := 980) (by decide +kernel)) rfl, it_in_tb (List.mem_of_getElem? (i := 981) (by decide +kernel)) rfl⟩
theorem ml_IcedTooSoonLaw_27 : it_mv "IcedTooSoonLaw" 27 it_m_X5_text 0 := ⟨mc_X5_text, it_in_tb (List.mem_of_getElem? (i := 474) (by decide +kernel)) rfl, it_in_tb (List.mem_of_getElem? (i := 475) (by decide +kernel)) rfl, it_in_tb (List.mem_of_getElem? (i := 476) (by decide +kernel)) rfl⟩
theorem ml_IcedTooSoonLaw_31 : it_mv "IcedTooSoonLaw" 31 it_m_X6_text 0 := ⟨mc_X6_text, it_in_tb (List.mem_of_getElem? (i := 986) (by decide +kernel)) rfl, it_in_tb (List.mem_of_getElem? (i := 811) (by decide +kernel)) rfl, it_in_tb (List.mem_of_getElem? (i := 812) (by decide +kernel)) rfl⟩
theorem ml_IcedTooSoonLaw_32 : it_mv "IcedTooSoonLaw" 32 it_m_X5_force 1 := ⟨mc_X5_force, it_in_tb (List.mem_of_getElem? (i := 478) (by decide +kernel)) rfl, it_in_tb (List.mem_of_getElem? (i := 479) (by decide +kernel)) rfl, it_in_tb (List.mem_of_getElem? (i := 480) (by decide +kernel)) rfl⟩
theorem ml_IcedTooSoonLaw_35 : it_mv "IcedTooSoonLaw" 35 it_m_X6_force 1 := ⟨mc_X6_force, it_in_tb (List.mem_of_getElem? (i := 987) (by decide +kernel)) rfl, it_in_tb (List.mem_of_getElem? (i := 988) (by decide +kernel)) rfl, it_in_tb (List.mem_of_getElem? (i := 989) (by decide +kernel)) rfl⟩
theorem ml_IcedTooSoonLaw_36 : it_mv "IcedTooSoonLaw" 36 it_m_X5_asks 2 := ⟨mc_X5_asks, it_in_tb (List.mem_of_getElem? (i := 482) (by decide +kernel)) rfl, it_in_tb (List.mem_of_getElem? (i := 483) (by decide +kernel)) rfl, it_in_tb (List.mem_of_getElem? (i := 484) (by decide +kernel)) rfl⟩
theorem ml_IcedTooSoonLaw_40 : it_mv "IcedTooSoonLaw" 40 it_m_X6_asks 2 := ⟨mc_X6_asks, it_in_tb (List.mem_of_getElem? (i := 991) (by decide +kernel)) rfl, it_in_tb (List.mem_of_getElem? (i := 992) (by decide +kernel)) rfl, it_in_tb (List.mem_of_getElem? (i := 993) (by decide +kernel)) rfl⟩
theorem ml_IcedTooSoonLaw_41 : it_mv "IcedTooSoonLaw" 41 it_m_X5_guest 2 := ⟨mc_X5_guest, it_in_tb (List.mem_of_getElem? (i := 515) (by decide +kernel)) rfl, it_in_tb (List.mem_of_getElem? (i := 516) (by decide +kernel)) rfl, it_in_tb (List.mem_of_getElem? (i := 517) (by decide +kernel)) rfl⟩
theorem ml_IcedTooSoonLaw_44 : it_mv "IcedTooSoonLaw" 44 it_m_X6_guest 2 := ⟨mc_X6_guest, it_in_tb (List.mem_of_getElem? (i := 1006) (by decide +kernel)) rfl, it_in_tb (List.mem_of_getElem? (i := 1007) (by decide +kernel)) rfl, it_in_tb (List.mem_of_getElem? (i := 1008) (by decide +kernel)) rfl⟩
theorem ml_IcedTooSoonLaw_45 : it_mv "IcedTooSoonLaw" 45 it_m_X5_order 3 := ⟨mc_X5_order, it_in_tb (List.mem_of_getElem? (i := 524) (by decide +kernel)) rfl, it_in_tb (List.mem_of_getElem? (i := 525) (by decide +kernel)) rfl, it_in_tb (List.mem_of_getElem? (i := 526) (by decide +kernel)) rfl⟩
theorem ml_IcedTooSoonLaw_49 : it_mv "IcedTooSoonLaw" 49 it_m_X6_order 3 := ⟨mc_X6_order, it_in_tb (List.mem_of_getElem? (i := 1010) (by decide +kernel)) rfl, it_in_tb (List.mem_of_getElem? (i := 1011) (by decide +kernel)) rfl, it_in_tb (List.mem_of_getElem? (i := 1012) (by decide +kernel)) rfl⟩
theorem ml_IcedTooSoonLaw_50 : it_mv "IcedTooSoonLaw" 50 it_m_X5_put 3 := ⟨mc_X5_put, it_in_tb (List.mem_of_getElem? (i := 539) (by decide +kernel)) rfl, it_in_tb (List.mem_of_getElem? (i := 540) (by decide +kernel)) rfl, it_in_tb (List.mem_of_getElem? (i := 541) (by decide +kernel)) rfl⟩
theorem ml_IcedTooSoonLaw_53 : it_mv "IcedTooSoonLaw" 53 it_m_X6_put 3 := ⟨mc_X6_put, it_in_tb (List.mem_of_getElem? (i := 1026) (by decide +kernel)) rfl, it_in_tb (List.mem_of_getElem? (i := 1027) (by decide +kernel)) rfl, it_in_tb (List.mem_of_getElem? (i := 1028) (by decide +kernel)) rfl⟩
theorem ml_IcedTooSoonLaw_54 : it_mv "IcedTooSoonLaw" 54 it_m_X5_told 2 := ⟨mc_X5_told, it_in_tb (List.mem_of_getElem? (i := 547) (by decide +kernel)) rfl, it_in_tb (List.mem_of_getElem? (i := 548) (by decide +kernel)) rfl, it_in_tb (List.mem_of_getElem? (i := 549) (by decide +kernel)) rfl⟩
theorem ml_IcedTooSoonLaw_57 : it_mv "IcedTooSoonLaw" 57 it_m_X6_told 2 := ⟨mc_X6_told, it_in_tb (List.mem_of_getElem? (i := 1030) (by decide +kernel)) rfl, it_in_tb (List.mem_of_getElem? (i := 1031) (by decide +kernel)) rfl, it_in_tb (List.mem_of_getElem? (i := 1032) (by decide +kernel)) rfl⟩
theorem ml_IcedTooSoonLaw_58 : it_mv "IcedTooSoonLaw" 58 it_m_X5_glass 2 := ⟨mc_X5_glass, it_in_tb (List.mem_of_getElem? (i := 589) (by decide +kernel)) rfl, it_in_tb (List.mem_of_getElem? (i := 590) (by decide +kernel)) rfl, it_in_tb (List.mem_of_getElem? (i := 591) (by decide +kernel)) rfl⟩
theorem ml_IcedTooSoonLaw_61 : it_mv "IcedTooSoonLaw" 61 it_m_X6_glass 2 := ⟨mc_X6_glass, it_in_tb (List.mem_of_getElem? (i := 1062) (by decide +kernel)) rfl, it_in_tb (List.mem_of_getElem? (i := 1063) (by decide +kernel)) rfl, it_in_tb (List.mem_of_getElem? (i := 1064) (by decide +kernel)) rfl⟩
theorem ml_IcedTooSoonLaw_62 : it_mv "IcedTooSoonLaw" 62 it_m_X5_day 0 := ⟨mc_X5_day, it_in_tb (List.mem_of_getElem? (i := 596) (by decide +kernel)) rfl, it_in_tb (List.mem_of_getElem? (i := 597) (by decide +kernel)) rfl, it_in_tb (List.mem_of_getElem? (i := 598) (by decide +kernel)) rfl⟩
theorem ml_IcedTooSoonLaw_65 : it_mv "IcedTooSoonLaw" 65 it_m_X6_day 0 := ⟨mc_X6_day, it_in_tb (List.mem_of_getElem? (i := 1066) (by decide +kernel)) rfl, it_in_tb (List.mem_of_getElem? (i := 1067) (by decide +kernel)) rfl, it_in_tb (List.mem_of_getElem? (i := 1068) (by decide +kernel)) rfl⟩
theorem ml_IcedTooSoonLaw_66 : it_mv "IcedTooSoonLaw" 66 it_m_X5_iced 2 := ⟨mc_X5_iced, it_in_tb (List.mem_of_getElem? (i := 600) (by decide +kernel)) rfl, it_in_tb (List.mem_of_getElem? (i := 601) (by decide +kernel)) rfl, it_in_tb (List.mem_of_getElem? (i := 602) (by decide +kernel)) rfl⟩
theorem ml_IcedTooSoonLaw_69 : it_mv "IcedTooSoonLaw" 69 it_m_X6_iced 2 := ⟨mc_X6_iced, it_in_tb (List.mem_of_getElem? (i := 1070) (by decide +kernel)) rfl, it_in_tb (List.mem_of_getElem? (i := 1071) (by decide +kernel)) rfl, it_in_tb (List.mem_of_getElem? (i := 1072) (by decide +kernel)) rfl⟩
theorem ml_IcedTooSoonLaw_70 : it_mv "IcedTooSoonLaw" 70 it_m_X5_spill 1 := ⟨mc_X5_spill, it_in_tb (List.mem_of_getElem? (i := 608) (by decide +kernel)) rfl, it_in_tb (List.mem_of_getElem? (i := 609) (by decide +kernel)) rfl, it_in_tb (List.mem_of_getElem? (i := 610) (by decide +kernel)) rfl⟩
theorem ml_IcedTooSoonLaw_73 : it_mv "IcedTooSoonLaw" 73 it_m_X6_spill 1 := ⟨mc_X6_spill, it_in_tb (List.mem_of_getElem? (i := 1074) (by decide +kernel)) rfl, it_in_tb (List.mem_of_getElem? (i := 1075) (by decide +kernel)) rfl, it_in_tb (List.mem_of_getElem? (i := 1076) (by decide +kernel)) rfl⟩
theorem ml_IcedTooSoonLaw_74 : it_mv "IcedTooSoonLaw" 74 it_m_X5_run 2 := ⟨mc_X5_run, it_in_tb (List.mem_of_getElem? (i := 613) (by decide +kernel)) rfl, it_in_tb (List.mem_of_getElem? (i := 614) (by decide +kernel)) rfl, it_in_tb (List.mem_of_getElem? (i := 615) (by decide +kernel)) rfl⟩
theorem ml_IcedTooSoonLaw_77 : it_mv "IcedTooSoonLaw" 77 it_m_X6_run 2 := ⟨mc_X6_run, it_in_tb (List.mem_of_getElem? (i := 1078) (by decide +kernel)) rfl, it_in_tb (List.mem_of_getElem? (i := 1079) (by decide +kernel)) rfl, it_in_tb (List.mem_of_getElem? (i := 1080) (by decide +kernel)) rfl⟩
theorem ml_IcedTooSoonLaw_78 : it_mv "IcedTooSoonLaw" 78 it_m_X5_goesOff 1 := ⟨mc_X5_goesOff, it_in_tb (List.mem_of_getElem? (i := 625) (by decide +kernel)) rfl, it_in_tb (List.mem_of_getElem? (i := 626) (by decide +kernel)) rfl, it_in_tb (List.mem_of_getElem? (i := 627) (by decide +kernel)) rfl⟩
theorem ml_IcedTooSoonLaw_81 : it_mv "IcedTooSoonLaw" 81 it_m_X6_goesOff 1 := ⟨mc_X6_goesOff, it_in_tb (List.mem_of_getElem? (i := 1095) (by decide +kernel)) rfl, it_in_tb (List.mem_of_getElem? (i := 1096) (by decide +kernel)) rfl, it_in_tb (List.mem_of_getElem? (i := 1097) (by decide +kernel)) rfl⟩
theorem ml_IcedTooSoonLaw_82 : it_mv "IcedTooSoonLaw" 82 it_m_X5_worst 3 := ⟨mc_X5_worst, it_in_tb (List.mem_of_getElem? (i := 629) (by decide +kernel)) rfl, it_in_tb (List.mem_of_getElem? (i := 630) (by decide +kernel)) rfl, it_in_tb (List.mem_of_getElem? (i := 631) (by decide +kernel)) rfl⟩
theorem ml_IcedTooSoonLaw_85 : it_mv "IcedTooSoonLaw" 85 it_m_X6_worst 3 := ⟨mc_X6_worst, it_in_tb (List.mem_of_getElem? (i := 1099) (by decide +kernel)) rfl, it_in_tb (List.mem_of_getElem? (i := 1100) (by decide +kernel)) rfl, it_in_tb (List.mem_of_getElem? (i := 1101) (by decide +kernel)) rfl⟩
theorem ml_IcedTooSoonLaw_86 : it_mv "IcedTooSoonLaw" 86 it_m_X5_falls 2 := ⟨mc_X5_falls, it_in_tb (List.mem_of_getElem? (i := 633) (by decide +kernel)) rfl, it_in_tb (List.mem_of_getElem? (i := 634) (by decide +kernel)) rfl, it_in_tb (List.mem_of_getElem? (i := 635) (by decide +kernel)) rfl⟩
theorem ml_IcedTooSoonLaw_89 : it_mv "IcedTooSoonLaw" 89 it_m_X6_falls 2 := ⟨mc_X6_falls, it_in_tb (List.mem_of_getElem? (i := 1103) (by decide +kernel)) rfl, it_in_tb (List.mem_of_getElem? (i := 1104) (by decide +kernel)) rfl, it_in_tb (List.mem_of_getElem? (i := 1105) (by decide +kernel)) rfl⟩
theorem ml_IcedTooSoonLaw_90 : it_mv "IcedTooSoonLaw" 90 it_m_X5_again 3 := ⟨mc_X5_again, it_in_tb (List.mem_of_getElem? (i := 641) (by decide +kernel)) rfl, it_in_tb (List.mem_of_getElem? (i := 642) (by decide +kernel)) rfl, it_in_tb (List.mem_of_getElem? (i := 643) (by decide +kernel)) rfl⟩
theorem ml_IcedTooSoonLaw_93 : it_mv "IcedTooSoonLaw" 93 it_m_X6_again 3 := ⟨mc_X6_again, it_in_tb (List.mem_of_getElem? (i := 1111) (by decide +kernel)) rfl, it_in_tb (List.mem_of_getElem? (i := 1112) (by decide +kernel)) rfl, it_in_tb (List.mem_of_getElem? (i := 1113) (by decide +kernel)) rfl⟩
theorem ml_IcedTooSoonLaw_94 : it_mv "IcedTooSoonLaw" 94 it_m_X5_spilt 2 := ⟨mc_X5_spilt, it_in_tb (List.mem_of_getElem? (i := 649) (by decide +kernel)) rfl, it_in_tb (List.mem_of_getElem? (i := 650) (by decide +kernel)) rfl, it_in_tb (List.mem_of_getElem? (i := 651) (by decide +kernel)) rfl⟩
theorem ml_IcedTooSoonLaw_97 : it_mv "IcedTooSoonLaw" 97 it_m_X6_spilt 2 := ⟨mc_X6_spilt, it_in_tb (List.mem_of_getElem? (i := 1119) (by decide +kernel)) rfl, it_in_tb (List.mem_of_getElem? (i := 1120) (by decide +kernel)) rfl, it_in_tb (List.mem_of_getElem? (i := 1121) (by decide +kernel)) rfl⟩
theorem ml_IcedTooSoonLaw_98 : it_mv "IcedTooSoonLaw" 98 it_m_X5_round 3 := ⟨mc_X5_round, it_in_tb (List.mem_of_getElem? (i := 657) (by decide +kernel)) rfl, it_in_tb (List.mem_of_getElem? (i := 658) (by decide +kernel)) rfl, it_in_tb (List.mem_of_getElem? (i := 659) (by decide +kernel)) rfl⟩
theorem ml_IcedTooSoonLaw_101 : it_mv "IcedTooSoonLaw" 101 it_m_X6_round 3 := ⟨mc_X6_round, it_in_tb (List.mem_of_getElem? (i := 1123) (by decide +kernel)) rfl, it_in_tb (List.mem_of_getElem? (i := 1124) (by decide +kernel)) rfl, it_in_tb (List.mem_of_getElem? (i := 1125) (by decide +kernel)) rfl⟩
theorem ml_IcedTooSoonLaw_102 : it_mv "IcedTooSoonLaw" 102 it_m_X5_mean 1 := ⟨mc_X5_mean, it_in_tb (List.mem_of_getElem? (i := 674) (by decide +kernel)) rfl, it_in_tb (List.mem_of_getElem? (i := 675) (by decide +kernel)) rfl, it_in_tb (List.mem_of_getElem? (i := 676) (by decide +kernel)) rfl⟩
theorem ml_IcedTooSoonLaw_106 : it_mv "IcedTooSoonLaw" 106 it_m_X6_mean 1 := ⟨mc_X6_mean, it_in_tb (List.mem_of_getElem? (i := 1135) (by decide +kernel)) rfl, it_in_tb (List.mem_of_getElem? (i := 1136) (by decide +kernel)) rfl, it_in_tb (List.mem_of_getElem? (i := 1137) (by decide +kernel)) rfl⟩
theorem ml_IcedTooSoonLaw_107 : it_mv "IcedTooSoonLaw" 107 it_m_X5_judge 2 := ⟨mc_X5_judge, it_in_tb (List.mem_of_getElem? (i := 689) (by decide +kernel)) rfl, it_in_tb (List.mem_of_getElem? (i := 690) (by decide +kernel)) rfl, it_in_tb (List.mem_of_getElem? (i := 691) (by decide +kernel)) rfl⟩
theorem ml_IcedTooSoonLaw_110 : it_mv "IcedTooSoonLaw" 110 it_m_X6_judge 2 := ⟨mc_X6_judge, it_in_tb (List.mem_of_getElem? (i := 1143) (by decide +kernel)) rfl, it_in_tb (List.mem_of_getElem? (i := 1144) (by decide +kernel)) rfl, it_in_tb (List.mem_of_getElem? (i := 1145) (by decide +kernel)) rfl⟩
theorem ml_IcedTooSoonLaw_111 : it_mv "IcedTooSoonLaw" 111 it_m_X5_kinds 3 := ⟨mc_X5_kinds, it_in_tb (List.mem_of_getElem? (i := 708) (by decide +kernel)) rfl, it_in_tb (List.mem_of_getElem? (i := 709) (by decide +kernel)) rfl, it_in_tb (List.mem_of_getElem? (i := 710) (by decide +kernel)) rfl⟩
theorem ml_IcedTooSoonLaw_114 : it_mv "IcedTooSoonLaw" 114 it_m_X6_kinds 3 := ⟨mc_X6_kinds, it_in_tb (List.mem_of_getElem? (i := 1159) (by decide +kernel)) rfl, it_in_tb (List.mem_of_getElem? (i := 1160) (by decide +kernel)) rfl, it_in_tb (List.mem_of_getElem? (i := 1161) (by decide +kernel)) rfl⟩
theorem ml_IcedTooSoonLaw_115 : it_mv "IcedTooSoonLaw" 115 it_m_X5_states 4 := ⟨mc_X5_states, it_in_tb (List.mem_of_getElem? (i := 716) (by decide +kernel)) rfl, it_in_tb (List.mem_of_getElem? (i := 717) (by decide +kernel)) rfl, it_in_tb (List.mem_of_getElem? (i := 718) (by decide +kernel)) rfl⟩
theorem ml_IcedTooSoonLaw_119 : it_mv "IcedTooSoonLaw" 119 it_m_X6_states 4 := ⟨mc_X6_states, it_in_tb (List.mem_of_getElem? (i := 1163) (by decide +kernel)) rfl, it_in_tb (List.mem_of_getElem? (i := 1164) (by decide +kernel)) rfl, it_in_tb (List.mem_of_getElem? (i := 1165) (by decide +kernel)) rfl⟩
theorem ml_IcedTooSoonLaw_120 : it_mv "IcedTooSoonLaw" 120 it_m_X5_owners 2 := ⟨mc_X5_owners, it_in_tb (List.mem_of_getElem? (i := 720) (by decide +kernel)) rfl, it_in_tb (List.mem_of_getElem? (i := 721) (by decide +kernel)) rfl, it_in_tb (List.mem_of_getElem? (i := 722) (by decide +kernel)) rfl⟩
theorem ml_IcedTooSoonLaw_123 : it_mv "IcedTooSoonLaw" 123 it_m_X6_owners 2 := ⟨mc_X6_owners, it_in_tb (List.mem_of_getElem? (i := 1167) (by decide +kernel)) rfl, it_in_tb (List.mem_of_getElem? (i := 1168) (by decide +kernel)) rfl, it_in_tb (List.mem_of_getElem? (i := 1169) (by decide +kernel)) rfl⟩
theorem ml_IcedTooSoonLaw_124 : it_mv "IcedTooSoonLaw" 124 it_m_X5_who 1 := ⟨mc_X5_who, it_in_tb (List.mem_of_getElem? (i := 724) (by decide +kernel)) rfl, it_in_tb (List.mem_of_getElem? (i := 725) (by decide +kernel)) rfl, it_in_tb (List.mem_of_getElem? (i := 726) (by decide +kernel)) rfl⟩
theorem ml_IcedTooSoonLaw_127 : it_mv "IcedTooSoonLaw" 127 it_m_X6_who 1 := ⟨mc_X6_who, it_in_tb (List.mem_of_getElem? (i := 1171) (by decide +kernel)) rfl, it_in_tb (List.mem_of_getElem? (i := 1172) (by decide +kernel)) rfl, it_in_tb (List.mem_of_getElem? (i := 1173) (by decide +kernel)) rfl⟩
theorem ml_IcedTooSoonLaw_128 : it_mv "IcedTooSoonLaw" 128 it_m_X5_laws 2 := ⟨mc_X5_laws, it_in_tb (List.mem_of_getElem? (i := 728) (by decide +kernel)) rfl, it_in_tb (List.mem_of_getElem? (i := 729) (by decide +kernel)) rfl, it_in_tb (List.mem_of_getElem? (i := 730) (by decide +kernel)) rfl⟩
theorem ml_IcedTooSoonLaw_131 : it_mv "IcedTooSoonLaw" 131 it_m_X6_laws 2 := ⟨mc_X6_laws, it_in_tb (List.mem_of_getElem? (i := 1175) (by decide +kernel)) rfl, it_in_tb (List.mem_of_getElem? (i := 1176) (by decide +kernel)) rfl, it_in_tb (List.mem_of_getElem? (i := 1177) (by decide +kernel)) rfl⟩
theorem ml_IcedTooSoonLaw_132 : it_mv "IcedTooSoonLaw" 132 it_m_X5_film 3 := ⟨mc_X5_film, it_in_tb (List.mem_of_getElem? (i := 732) (by decide +kernel)) rfl, it_in_tb (List.mem_of_getElem? (i := 733) (by decide +kernel)) rfl, it_in_tb (List.mem_of_getElem? (i := 734) (by decide +kernel)) rfl⟩
theorem ml_IcedTooSoonLaw_135 : it_mv "IcedTooSoonLaw" 135 it_m_X6_film 3 := ⟨mc_X6_film, it_in_tb (List.mem_of_getElem? (i := 1179) (by decide +kernel)) rfl, it_in_tb (List.mem_of_getElem? (i := 1180) (by decide +kernel)) rfl, it_in_tb (List.mem_of_getElem? (i := 1181) (by decide +kernel)) rfl⟩
theorem ml_IcedTooSoonLaw_136 : it_mv "IcedTooSoonLaw" 136 it_m_X5_drawn 2 := ⟨mc_X5_drawn, it_in_tb (List.mem_of_getElem? (i := 745) (by decide +kernel)) rfl, it_in_tb (List.mem_of_getElem? (i := 746) (by decide +kernel)) rfl, it_in_tb (List.mem_of_getElem? (i := 747) (by decide +kernel)) rfl⟩
theorem ml_IcedTooSoonLaw_139 : it_mv "IcedTooSoonLaw" 139 it_m_X6_drawn 2 := ⟨mc_X6_drawn, it_in_tb (List.mem_of_getElem? (i := 1183) (by decide +kernel)) rfl, it_in_tb (List.mem_of_getElem? (i := 1184) (by decide +kernel)) rfl, it_in_tb (List.mem_of_getElem? (i := 1185) (by decide +kernel)) rfl⟩
theorem ml_IcedTooSoonLaw_140 : it_mv "IcedTooSoonLaw" 140 it_m_X5_odds 4 := ⟨mc_X5_odds, it_in_tb (List.mem_of_getElem? (i := 762) (by decide +kernel)) rfl, it_in_tb (List.mem_of_getElem? (i := 763) (by decide +kernel)) rfl, it_in_tb (List.mem_of_getElem? (i := 764) (by decide +kernel)) rfl⟩
theorem ml_IcedTooSoonLaw_144 : it_mv "IcedTooSoonLaw" 144 it_m_X6_odds 4 := ⟨mc_X6_odds, it_in_tb (List.mem_of_getElem? (i := 1197) (by decide +kernel)) rfl, it_in_tb (List.mem_of_getElem? (i := 1198) (by decide +kernel)) rfl, it_in_tb (List.mem_of_getElem? (i := 1199) (by decide +kernel)) rfl⟩
theorem ml_IcedTooSoonLaw_145 : it_mv "IcedTooSoonLaw" 145 it_m_X5_image 0 := ⟨mc_X5_image, it_in_tb (List.mem_of_getElem? (i := 766) (by decide +kernel)) rfl, it_in_tb (List.mem_of_getElem? (i := 767) (by decide +kernel)) rfl, it_in_tb (List.mem_of_getElem? (i := 768) (by decide +kernel)) rfl⟩
theorem ml_IcedTooSoonLaw_148 : it_mv "IcedTooSoonLaw" 148 it_m_X6_image 0 := ⟨mc_X6_image, it_in_tb (List.mem_of_getElem? (i := 1201) (by decide +kernel)) rfl, it_in_tb (List.mem_of_getElem? (i := 1202) (by decide +kernel)) rfl, it_in_tb (List.mem_of_getElem? (i := 1203) (by decide +kernel)) rfl⟩
theorem ml_IcedTooSoonLaw_149 : it_mv "IcedTooSoonLaw" 149 it_m_X5_back 0 := ⟨mc_X5_back, it_in_tb (List.mem_of_getElem? (i := 770) (by decide +kernel)) rfl, it_in_tb (List.mem_of_getElem? (i := 771) (by decide +kernel)) rfl, it_in_tb (List.mem_of_getElem? (i := 772) (by decide +kernel)) rfl⟩
theorem ml_IcedTooSoonLaw_152 : it_mv "IcedTooSoonLaw" 152 it_m_X6_back 0 := ⟨mc_X6_back, it_in_tb (List.mem_of_getElem? (i := 1205) (by decide +kernel)) rfl, it_in_tb (List.mem_of_getElem? (i := 1206) (by decide +kernel)) rfl, it_in_tb (List.mem_of_getElem? (i := 1207) (by decide +kernel)) rfl⟩
theorem ml_IcedTooSoonLaw_153 : it_mv "IcedTooSoonLaw" 153 it_m_X5_sheet 3 := ⟨mc_X5_sheet, it_in_tb (List.mem_of_getElem? (i := 774) (by decide +kernel)) rfl, it_in_tb (List.mem_of_getElem? (i := 775) (by decide +kernel)) rfl, it_in_tb (List.mem_of_getElem? (i := 776) (by decide +kernel)) rfl⟩
theorem ml_IcedTooSoonLaw_156 : it_mv "IcedTooSoonLaw" 156 it_m_X6_sheet 3 := ⟨mc_X6_sheet, it_in_tb (List.mem_of_getElem? (i := 1209) (by decide +kernel)) rfl, it_in_tb (List.mem_of_getElem? (i := 1210) (by decide +kernel)) rfl, it_in_tb (List.mem_of_getElem? (i := 1211) (by decide +kernel)) rfl⟩
theorem ml_IcedTooSoonLaw_157 : it_mv "IcedTooSoonLaw" 157 it_m_X5_cell 3 := ⟨mc_X5_cell, it_in_tb (List.mem_of_getElem? (i := 778) (by decide +kernel)) rfl, it_in_tb (List.mem_of_getElem? (i := 779) (by decide +kernel)) rfl, it_in_tb (List.mem_of_getElem? (i := 780) (by decide +kernel)) rfl⟩
theorem ml_IcedTooSoonLaw_160 : it_mv "IcedTooSoonLaw" 160 it_m_X6_cell 3 := ⟨mc_X6_cell, it_in_tb (List.mem_of_getElem? (i := 1213) (by decide +kernel)) rfl, it_in_tb (List.mem_of_getElem? (i := 1214) (by decide +kernel)) rfl, it_in_tb (List.mem_of_getElem? (i := 1215) (by decide +kernel)) rfl⟩
theorem ml_IcedTooSoonLaw_161 : it_mv "IcedTooSoonLaw" 161 it_m_X5_copy 5 := ⟨mc_X5_copy, it_in_tb (List.mem_of_getElem? (i := 786) (by decide +kernel)) rfl, it_in_tb (List.mem_of_getElem? (i := 787) (by decide +kernel)) rfl, it_in_tb (List.mem_of_getElem? (i := 788) (by decide +kernel)) rfl⟩
theorem ml_IcedTooSoonLaw_165 : it_mv "IcedTooSoonLaw" 165 it_m_X6_copy 5 := ⟨mc_X6_copy, it_in_tb (List.mem_of_getElem? (i := 1217) (by decide +kernel)) rfl, it_in_tb (List.mem_of_getElem? (i := 1218) (by decide +kernel)) rfl, it_in_tb (List.mem_of_getElem? (i := 1219) (by decide +kernel)) rfl⟩
theorem ml_IcedTooSoonLaw_166 : it_mv "IcedTooSoonLaw" 166 it_m_X5_guestsBy 4 := ⟨mc_X5_guestsBy, it_in_tb (List.mem_of_getElem? (i := 791) (by decide +kernel)) rfl, it_in_tb (List.mem_of_getElem? (i := 792) (by decide +kernel)) rfl, it_in_tb (List.mem_of_getElem? (i := 793) (by decide +kernel)) rfl⟩
theorem ml_IcedTooSoonLaw_169 : it_mv "IcedTooSoonLaw" 169 it_m_X6_guestsBy 4 := ⟨mc_X6_guestsBy, it_in_tb (List.mem_of_getElem? (i := 1221) (by decide +kernel)) rfl, it_in_tb (List.mem_of_getElem? (i := 1222) (by decide +kernel)) rfl, it_in_tb (List.mem_of_getElem? (i := 1223) (by decide +kernel)) rfl⟩
theorem ml_IcedTooSoonLaw_170 : it_mv "IcedTooSoonLaw" 170 it_m_X5_taken 2 := ⟨mc_X5_taken, it_in_tb (List.mem_of_getElem? (i := 795) (by decide +kernel)) rfl, it_in_tb (List.mem_of_getElem? (i := 796) (by decide +kernel)) rfl, it_in_tb (List.mem_of_getElem? (i := 797) (by decide +kernel)) rfl⟩
theorem ml_IcedTooSoonLaw_173 : it_mv "IcedTooSoonLaw" 173 it_m_X6_taken 2 := ⟨mc_X6_taken, it_in_tb (List.mem_of_getElem? (i := 1226) (by decide +kernel)) rfl, it_in_tb (List.mem_of_getElem? (i := 1227) (by decide +kernel)) rfl, it_in_tb (List.mem_of_getElem? (i := 1228) (by decide +kernel)) rfl⟩
theorem ml_IcedTooSoonModel_71 : it_mv "IcedTooSoonModel" 71 it_m_X6_text 0 := ⟨mc_X6_text, it_in_tb (List.mem_of_getElem? (i := 810) (by decide +kernel)) rfl, it_in_tb (List.mem_of_getElem? (i := 811) (by decide +kernel)) rfl, it_in_tb (List.mem_of_getElem? (i := 812) (by decide +kernel)) rfl⟩
theorem ml_IcedTooSoonModel_78 : it_ms "IcedTooSoonModel" 78 it_m_X6_in 3 := ⟨mc_X6_in, it_in_tb (List.mem_of_getElem? (i := 818) (by decide +kernel)) rfl, it_in_tb (List.mem_of_getElem? (i := 819) (by decide +kernel)) rfl⟩
theorem ml_IcedTooSoonModel_82 : it_ms "IcedTooSoonModel" 82 it_m_X6_within 3 := ⟨mc_X6_within, it_in_tb (List.mem_of_getElem? (i := 972) (by decide +kernel)) rfl, it_in_tb (List.mem_of_getElem? (i := 973) (by decide +kernel)) rfl⟩
theorem ml_IcedTooSoonModel_86 : it_mv "IcedTooSoonModel" 86 it_m_X6_isThere 1 := ⟨mc_X6_isThere, it_in_tb (List.mem_of_getElem? (i := 968) (by decide +kernel)) rfl, it_in_tb (List.mem_of_getElem? (i := 970) (by decide +kernel)) rfl, it_in_tb (List.mem_of_getElem? (i := 29) (by decide +kernel)) rfl⟩
theorem ml_IcedTooSoonModel_90 : it_mv "IcedTooSoonModel" 90 it_m_X6_many 0 := ⟨mc_X6_many, it_in_tb (List.mem_of_getElem? (i := 964) (by decide +kernel)) rfl, it_in_tb (List.mem_of_getElem? (i := 966) (by decide +kernel)) rfl, it_in_tb (List.mem_of_getElem? (i := 28) (by decide +kernel)) rfl⟩
theorem ml_IcedTooSoonModel_102 : it_ms "IcedTooSoonModel" 102 it_m_X6_isByte 1 := ⟨mc_X6_isByte, it_in_tb (List.mem_of_getElem? (i := 983) (by decide +kernel)) rfl, it_in_tb (List.mem_of_getElem? (i := 984) (by decide +kernel)) rfl⟩
theorem ml_IcedTooSoonModel_117 : it_mv "IcedTooSoonModel" 117 it_m_X6_wordFrom 2 := ⟨mc_X6_wordFrom, it_in_tb (List.mem_of_getElem? (i := 821) (by decide +kernel)) rfl, it_in_tb (List.mem_of_getElem? (i := 823) (by decide +kernel)) rfl, it_in_tb (List.mem_of_getElem? (i := 20) (by decide +kernel)) rfl⟩
theorem ml_IcedTooSoonModel_127 : it_ms "IcedTooSoonModel" 127 it_m_X6_rank 1 := ⟨mc_X6_rank, it_in_tb (List.mem_of_getElem? (i := 838) (by decide +kernel)) rfl, it_in_tb (List.mem_of_getElem? (i := 839) (by decide +kernel)) rfl⟩
theorem ml_IcedTooSoonModel_134 : it_mv "IcedTooSoonModel" 134 it_m_X6_puts 1 := ⟨mc_X6_puts, it_in_tb (List.mem_of_getElem? (i := 830) (by decide +kernel)) rfl, it_in_tb (List.mem_of_getElem? (i := 832) (by decide +kernel)) rfl, it_in_tb (List.mem_of_getElem? (i := 22) (by decide +kernel)) rfl⟩
theorem ml_IcedTooSoonModel_138 : it_mv "IcedTooSoonModel" 138 it_m_X6_holds 1 := ⟨mc_X6_holds, it_in_tb (List.mem_of_getElem? (i := 845) (by decide +kernel)) rfl, it_in_tb (List.mem_of_getElem? (i := 847) (by decide +kernel)) rfl, it_in_tb (List.mem_of_getElem? (i := 25) (by decide +kernel)) rfl⟩
theorem ml_IcedTooSoonModel_141 : it_mv "IcedTooSoonModel" 141 it_m_X6_unwinds 1 := ⟨mc_X6_unwinds, it_in_tb (List.mem_of_getElem? (i := 834) (by decide +kernel)) rfl, it_in_tb (List.mem_of_getElem? (i := 836) (by decide +kernel)) rfl, it_in_tb (List.mem_of_getElem? (i := 23) (by decide +kernel)) rfl⟩
theorem ml_IcedTooSoonModel_144 : it_mv "IcedTooSoonModel" 144 it_m_X6_next 0 := ⟨mc_X6_next, it_in_tb (List.mem_of_getElem? (i := 814) (by decide +kernel)) rfl, it_in_tb (List.mem_of_getElem? (i := 816) (by decide +kernel)) rfl, it_in_tb (List.mem_of_getElem? (i := 19) (by decide +kernel)) rfl⟩
theorem ml_IcedTooSoonModel_148 : it_mv "IcedTooSoonModel" 148 it_m_X6_opensOne 1 := ⟨mc_X6_opensOne, it_in_tb (List.mem_of_getElem? (i := 841) (by decide +kernel)) rfl, it_in_tb (List.mem_of_getElem? (i := 843) (by decide +kernel)) rfl, it_in_tb (List.mem_of_getElem? (i := 24) (by decide +kernel)) rfl⟩
theorem ml_IcedTooSoonModel_151 : it_mv "IcedTooSoonModel" 151 it_m_X6_signOf 0 := ⟨mc_X6_signOf, it_in_tb (List.mem_of_getElem? (i := 849) (by decide +kernel)) rfl, it_in_tb (List.mem_of_getElem? (i := 851) (by decide +kernel)) rfl, it_in_tb (List.mem_of_getElem? (i := 26) (by decide +kernel)) rfl⟩
theorem ml_IcedTooSoonModel_154 : it_mv "IcedTooSoonModel" 154 it_m_X6_between 1 := ⟨mc_X6_between, it_in_tb (List.mem_of_getElem? (i := 853) (by decide +kernel)) rfl, it_in_tb (List.mem_of_getElem? (i := 855) (by decide +kernel)) rfl, it_in_tb (List.mem_of_getElem? (i := 27) (by decide +kernel)) rfl⟩
theorem ml_IcedTooSoonModel_157 : it_mv "IcedTooSoonModel" 157 it_m_X6_eRead 0 := ⟨mc_X6_eRead, it_in_tb (List.mem_of_getElem? (i := 825) (by decide +kernel)) rfl, it_in_tb (List.mem_of_getElem? (i := 827) (by decide +kernel)) rfl, it_in_tb (List.mem_of_getElem? (i := 21) (by decide +kernel)) rfl⟩
theorem ml_IcedTooSoonModel_161 : it_ms "IcedTooSoonModel" 161 it_m_X6_two 3 := ⟨mc_X6_two, it_in_tb (List.mem_of_getElem? (i := 1003) (by decide +kernel)) rfl, it_in_tb (List.mem_of_getElem? (i := 1004) (by decide +kernel)) rfl⟩
theorem ml_IcedTooSoonModel_164 : it_mv "IcedTooSoonModel" 164 it_m_X6_says 1 := ⟨mc_X6_says, it_in_tb (List.mem_of_getElem? (i := 999) (by decide +kernel)) rfl, it_in_tb (List.mem_of_getElem? (i := 1001) (by decide +kernel)) rfl, it_in_tb (List.mem_of_getElem? (i := 31) (by decide +kernel)) rfl⟩
theorem ml_IcedTooSoonModel_167 : it_mv "IcedTooSoonModel" 167 it_m_X6_asksOf 2 := ⟨mc_X6_asksOf, it_in_tb (List.mem_of_getElem? (i := 995) (by decide +kernel)) rfl, it_in_tb (List.mem_of_getElem? (i := 997) (by decide +kernel)) rfl, it_in_tb (List.mem_of_getElem? (i := 30) (by decide +kernel)) rfl⟩
theorem ml_IcedTooSoonModel_170 : it_mv "IcedTooSoonModel" 170 it_m_X6_chillsOf 1 := ⟨mc_X6_chillsOf, it_in_tb (List.mem_of_getElem? (i := 1022) (by decide +kernel)) rfl, it_in_tb (List.mem_of_getElem? (i := 1024) (by decide +kernel)) rfl, it_in_tb (List.mem_of_getElem? (i := 34) (by decide +kernel)) rfl⟩
theorem ml_IcedTooSoonModel_173 : it_mv "IcedTooSoonModel" 173 it_m_X6_isOne 1 := ⟨mc_X6_isOne, it_in_tb (List.mem_of_getElem? (i := 1014) (by decide +kernel)) rfl, it_in_tb (List.mem_of_getElem? (i := 1016) (by decide +kernel)) rfl, it_in_tb (List.mem_of_getElem? (i := 32) (by decide +kernel)) rfl⟩
theorem ml_IcedTooSoonModel_176 : it_mv "IcedTooSoonModel" 176 it_m_X6_ordered 3 := ⟨mc_X6_ordered, it_in_tb (List.mem_of_getElem? (i := 1018) (by decide +kernel)) rfl, it_in_tb (List.mem_of_getElem? (i := 1020) (by decide +kernel)) rfl, it_in_tb (List.mem_of_getElem? (i := 33) (by decide +kernel)) rfl⟩
theorem ml_IcedTooSoonModel_179 : it_mv "IcedTooSoonModel" 179 it_m_X6_glassesOf 1 := ⟨mc_X6_glassesOf, it_in_tb (List.mem_of_getElem? (i := 1034) (by decide +kernel)) rfl, it_in_tb (List.mem_of_getElem? (i := 1036) (by decide +kernel)) rfl, it_in_tb (List.mem_of_getElem? (i := 35) (by decide +kernel)) rfl⟩
theorem ml_IcedTooSoonModel_182 : it_mv "IcedTooSoonModel" 182 it_m_X6_firstOff 1 := ⟨mc_X6_firstOff, it_in_tb (List.mem_of_getElem? (i := 1038) (by decide +kernel)) rfl, it_in_tb (List.mem_of_getElem? (i := 1040) (by decide +kernel)) rfl, it_in_tb (List.mem_of_getElem? (i := 36) (by decide +kernel)) rfl⟩
theorem ml_IcedTooSoonModel_185 : it_mv "IcedTooSoonModel" 185 it_m_X6_meltsOf 1 := ⟨mc_X6_meltsOf, it_in_tb (List.mem_of_getElem? (i := 1050) (by decide +kernel)) rfl, it_in_tb (List.mem_of_getElem? (i := 1052) (by decide +kernel)) rfl, it_in_tb (List.mem_of_getElem? (i := 39) (by decide +kernel)) rfl⟩
theorem ml_IcedTooSoonModel_188 : it_mv "IcedTooSoonModel" 188 it_m_X6_feelsOf 1 := ⟨mc_X6_feelsOf, it_in_tb (List.mem_of_getElem? (i := 1054) (by decide +kernel)) rfl, it_in_tb (List.mem_of_getElem? (i := 1056) (by decide +kernel)) rfl, it_in_tb (List.mem_of_getElem? (i := 40) (by decide +kernel)) rfl⟩
theorem ml_IcedTooSoonModel_191 : it_mv "IcedTooSoonModel" 191 it_m_X6_dayOf 0 := ⟨mc_X6_dayOf, it_in_tb (List.mem_of_getElem? (i := 1046) (by decide +kernel)) rfl, it_in_tb (List.mem_of_getElem? (i := 1048) (by decide +kernel)) rfl, it_in_tb (List.mem_of_getElem? (i := 38) (by decide +kernel)) rfl⟩
theorem ml_IcedTooSoonModel_194 : it_mv "IcedTooSoonModel" 194 it_m_X6_keeps 0 := ⟨mc_X6_keeps, it_in_tb (List.mem_of_getElem? (i := 1042) (by decide +kernel)) rfl, it_in_tb (List.mem_of_getElem? (i := 1044) (by decide +kernel)) rfl, it_in_tb (List.mem_of_getElem? (i := 37) (by decide +kernel)) rfl⟩
theorem ml_IcedTooSoonModel_197 : it_mv "IcedTooSoonModel" 197 it_m_X6_lays 0 := ⟨mc_X6_lays, it_in_tb (List.mem_of_getElem? (i := 1058) (by decide +kernel)) rfl, it_in_tb (List.mem_of_getElem? (i := 1060) (by decide +kernel)) rfl, it_in_tb (List.mem_of_getElem? (i := 41) (by decide +kernel)) rfl⟩
theorem ml_IcedTooSoonModel_200 : it_mv "IcedTooSoonModel" 200 it_m_X6_moodAll 0 := ⟨mc_X6_moodAll, it_in_tb (List.mem_of_getElem? (i := 1091) (by decide +kernel)) rfl, it_in_tb (List.mem_of_getElem? (i := 1093) (by decide +kernel)) rfl, it_in_tb (List.mem_of_getElem? (i := 44) (by decide +kernel)) rfl⟩
theorem ml_IcedTooSoonModel_204 : it_mv "IcedTooSoonModel" 204 it_m_X6_goes 1 := ⟨mc_X6_goes, it_in_tb (List.mem_of_getElem? (i := 1083) (by decide +kernel)) rfl, it_in_tb (List.mem_of_getElem? (i := 1085) (by decide +kernel)) rfl, it_in_tb (List.mem_of_getElem? (i := 42) (by decide +kernel)) rfl⟩
theorem ml_IcedTooSoonModel_207 : it_mv "IcedTooSoonModel" 207 it_m_X6_toldBehind 1 := ⟨mc_X6_toldBehind, it_in_tb (List.mem_of_getElem? (i := 1087) (by decide +kernel)) rfl, it_in_tb (List.mem_of_getElem? (i := 1089) (by decide +kernel)) rfl, it_in_tb (List.mem_of_getElem? (i := 43) (by decide +kernel)) rfl⟩
theorem ml_IcedTooSoonModel_210 : it_mv "IcedTooSoonModel" 210 it_m_X6_belowSet 1 := ⟨mc_X6_belowSet, it_in_tb (List.mem_of_getElem? (i := 1107) (by decide +kernel)) rfl, it_in_tb (List.mem_of_getElem? (i := 1109) (by decide +kernel)) rfl, it_in_tb (List.mem_of_getElem? (i := 45) (by decide +kernel)) rfl⟩
theorem ml_IcedTooSoonModel_213 : it_mv "IcedTooSoonModel" 213 it_m_X6_moodBehind 1 := ⟨mc_X6_moodBehind, it_in_tb (List.mem_of_getElem? (i := 1115) (by decide +kernel)) rfl, it_in_tb (List.mem_of_getElem? (i := 1117) (by decide +kernel)) rfl, it_in_tb (List.mem_of_getElem? (i := 46) (by decide +kernel)) rfl⟩
theorem ml_IcedTooSoonModel_219 : it_mv "IcedTooSoonModel" 219 it_m_X6_ices 2 := ⟨mc_X6_ices, it_in_tb (List.mem_of_getElem? (i := 1127) (by decide +kernel)) rfl, it_in_tb (List.mem_of_getElem? (i := 1129) (by decide +kernel)) rfl, it_in_tb (List.mem_of_getElem? (i := 47) (by decide +kernel)) rfl⟩
theorem ml_IcedTooSoonModel_222 : it_mv "IcedTooSoonModel" 222 it_m_X6_laysIce 0 := ⟨mc_X6_laysIce, it_in_tb (List.mem_of_getElem? (i := 1131) (by decide +kernel)) rfl, it_in_tb (List.mem_of_getElem? (i := 1133) (by decide +kernel)) rfl, it_in_tb (List.mem_of_getElem? (i := 48) (by decide +kernel)) rfl⟩
theorem ml_IcedTooSoonModel_227 : it_ms "IcedTooSoonModel" 227 it_m_X6_lowest 3 := ⟨mc_X6_lowest, it_in_tb (List.mem_of_getElem? (i := 1140) (by decide +kernel)) rfl, it_in_tb (List.mem_of_getElem? (i := 1141) (by decide +kernel)) rfl⟩
theorem ml_IcedTooSoonModel_231 : it_mv "IcedTooSoonModel" 231 it_m_X6_sheetWrong 1 := ⟨mc_X6_sheetWrong, it_in_tb (List.mem_of_getElem? (i := 1151) (by decide +kernel)) rfl, it_in_tb (List.mem_of_getElem? (i := 1153) (by decide +kernel)) rfl, it_in_tb (List.mem_of_getElem? (i := 50) (by decide +kernel)) rfl⟩
theorem ml_IcedTooSoonModel_234 : it_mv "IcedTooSoonModel" 234 it_m_X6_toldWrong 2 := ⟨mc_X6_toldWrong, it_in_tb (List.mem_of_getElem? (i := 1147) (by decide +kernel)) rfl, it_in_tb (List.mem_of_getElem? (i := 1149) (by decide +kernel)) rfl, it_in_tb (List.mem_of_getElem? (i := 49) (by decide +kernel)) rfl⟩
theorem ml_IcedTooSoonModel_237 : it_mv "IcedTooSoonModel" 237 it_m_X6_unlike 2 := ⟨mc_X6_unlike, it_in_tb (List.mem_of_getElem? (i := 1155) (by decide +kernel)) rfl, it_in_tb (List.mem_of_getElem? (i := 1157) (by decide +kernel)) rfl, it_in_tb (List.mem_of_getElem? (i := 51) (by decide +kernel)) rfl⟩
theorem ml_IcedTooSoonModel_254 : it_mv "IcedTooSoonModel" 254 it_m_X6_lotOrders 1 := ⟨mc_X6_lotOrders, it_in_tb (List.mem_of_getElem? (i := 1188) (by decide +kernel)) rfl, it_in_tb (List.mem_of_getElem? (i := 1190) (by decide +kernel)) rfl, it_in_tb (List.mem_of_getElem? (i := 52) (by decide +kernel)) rfl⟩
theorem ml_IcedTooSoonModel_261 : it_mv "IcedTooSoonModel" 261 it_m_X6_guest 2 := ⟨mc_X6_guest, it_in_tb (List.mem_of_getElem? (i := 1225) (by decide +kernel)) rfl, it_in_tb (List.mem_of_getElem? (i := 1007) (by decide +kernel)) rfl, it_in_tb (List.mem_of_getElem? (i := 1008) (by decide +kernel)) rfl⟩
theorem ml_IcedTooSoonModel_264 : it_ms "IcedTooSoonModel" 264 it_m_X6_isUnder 2 := ⟨mc_X6_isUnder, it_in_tb (List.mem_of_getElem? (i := 1230) (by decide +kernel)) rfl, it_in_tb (List.mem_of_getElem? (i := 1231) (by decide +kernel)) rfl⟩
theorem ml_java_lang_String_335 : it_mv "java/lang/String" 335 it_m_J0_coder_7d493 0 := ⟨mc_J0_coder_7d493, it_in_tb (List.mem_of_getElem? (i := 215) (by decide +kernel)) rfl, it_in_tb (List.mem_of_getElem? (i := 216) (by decide +kernel)) rfl, it_in_tb (List.mem_of_getElem? (i := 217) (by decide +kernel)) rfl⟩
theorem ml_java_lang_String_492 : it_mv "java/lang/String" 492 it_m_J0_isLatin1_aae02 0 := ⟨mc_J0_isLatin1_aae02, it_in_tb (List.mem_of_getElem? (i := 225) (by decide +kernel)) rfl, it_in_tb (List.mem_of_getElem? (i := 226) (by decide +kernel)) rfl, it_in_tb (List.mem_of_getElem? (i := 227) (by decide +kernel)) rfl⟩
theorem ml_java_lang_String_495 : it_ms "java/lang/String" 495 it_m_J1_charAt_3b067 2 := ⟨mc_J1_charAt_3b067, it_in_tb (List.mem_of_getElem? (i := 229) (by decide +kernel)) rfl, it_in_tb (List.mem_of_getElem? (i := 230) (by decide +kernel)) rfl⟩
theorem ml_java_lang_String_505 : it_mv "java/lang/String" 505 it_m_J0_length_8abf5 0 := ⟨mc_J0_length_8abf5, it_in_tb (List.mem_of_getElem? (i := 302) (by decide +kernel)) rfl, it_in_tb (List.mem_of_getElem? (i := 212) (by decide +kernel)) rfl, it_in_tb (List.mem_of_getElem? (i := 213) (by decide +kernel)) rfl⟩
theorem ml_java_lang_String_633 : it_mv "java/lang/String" 633 it_m_J0_indexOf_7cf53 2 := ⟨mc_J0_indexOf_7cf53, it_in_tb (List.mem_of_getElem? (i := 298) (by decide +kernel)) rfl, it_in_tb (List.mem_of_getElem? (i := 299) (by decide +kernel)) rfl, it_in_tb (List.mem_of_getElem? (i := 300) (by decide +kernel)) rfl⟩
theorem ml_java_lang_String_637 : it_ms "java/lang/String" 637 it_m_J1_indexOf_4cfef 4 := ⟨mc_J1_indexOf_4cfef, it_in_tb (List.mem_of_getElem? (i := 303) (by decide +kernel)) rfl, it_in_tb (List.mem_of_getElem? (i := 304) (by decide +kernel)) rfl⟩
theorem ml_java_lang_String_1059 : it_ms "java/lang/String" 1059 it_m_J3_checkIndex_8e157 3 := ⟨mc_J3_checkIndex_8e157, it_in_tb (List.mem_of_getElem? (i := 237) (by decide +kernel)) rfl, it_in_tb (List.mem_of_getElem? (i := 238) (by decide +kernel)) rfl⟩
theorem ml_java_lang_StringLatin1_9 : it_ms "java/lang/StringLatin1" 9 it_m_J0_checkIndex_df160 2 := ⟨mc_J0_checkIndex_df160, it_in_tb (List.mem_of_getElem? (i := 232) (by decide +kernel)) rfl, it_in_tb (List.mem_of_getElem? (i := 233) (by decide +kernel)) rfl⟩
theorem ml_java_lang_StringLatin1_38 : it_ms "java/lang/StringLatin1" 38 it_m_J9_min_7cf53 2 := ⟨mc_J9_min_7cf53, it_in_tb (List.mem_of_getElem? (i := 312) (by decide +kernel)) rfl, it_in_tb (List.mem_of_getElem? (i := 313) (by decide +kernel)) rfl⟩
theorem ml_java_lang_StringLatin1_88 : it_ms "java/lang/StringLatin1" 88 it_m_J1_canEncode_9a6ad 1 := ⟨mc_J1_canEncode_9a6ad, it_in_tb (List.mem_of_getElem? (i := 306) (by decide +kernel)) rfl, it_in_tb (List.mem_of_getElem? (i := 307) (by decide +kernel)) rfl⟩
theorem ml_java_lang_StringLatin1_92 : it_ms "java/lang/StringLatin1" 92 it_m_J9_max_7cf53 2 := ⟨mc_J9_max_7cf53, it_in_tb (List.mem_of_getElem? (i := 309) (by decide +kernel)) rfl, it_in_tb (List.mem_of_getElem? (i := 310) (by decide +kernel)) rfl⟩
theorem ml_java_lang_StringLatin1_95 : it_ms "java/lang/StringLatin1" 95 it_m_J1_indexOfChar_4cfef 4 := ⟨mc_J1_indexOfChar_4cfef, it_in_tb (List.mem_of_getElem? (i := 315) (by decide +kernel)) rfl, it_in_tb (List.mem_of_getElem? (i := 316) (by decide +kernel)) rfl⟩
theorem ml_java_util_Arrays_304 : it_ms "java/util/Arrays" 304 it_m_J9_min_7cf53 2 := ⟨mc_J9_min_7cf53, it_in_tb (List.mem_of_getElem? (i := 396) (by decide +kernel)) rfl, it_in_tb (List.mem_of_getElem? (i := 313) (by decide +kernel)) rfl⟩
theorem kn_IcedTooSoon_179 : Cond.constant "IcedTooSoon" 179 (-100000) ∈ it_tb := it_in_tb (List.mem_of_getElem? (i := 620) (by decide +kernel)) rfl
theorem kn_IcedTooSoon_198 : Cond.constantLong "IcedTooSoon" 198 (-4611686018427387904) ∈ it_tb := it_in_tb (List.mem_of_getElem? (i := 678) (by decide +kernel)) rfl
theorem kn_IcedTooSoon_228 : Cond.constant "IcedTooSoon" 228 (99999) ∈ it_tb := it_in_tb (List.mem_of_getElem? (i := 749) (by decide +kernel)) rfl
theorem kn_IcedTooSoon_285 : Cond.constantLong "IcedTooSoon" 285 (6) ∈ it_tb := it_in_tb (List.mem_of_getElem? (i := 759) (by decide +kernel)) rfl
theorem kn_IcedTooSoon_287 : Cond.constantLong "IcedTooSoon" 287 (199) ∈ it_tb := it_in_tb (List.mem_of_getElem? (i := 760) (by decide +kernel)) rfl
theorem kn_IcedTooSoon_289 : Cond.constantLong "IcedTooSoon" 289 (99) ∈ it_tb := it_in_tb (List.mem_of_getElem? (i := 761) (by decide +kernel)) rfl
theorem kn_IcedTooSoon_291 : Cond.constantLong "IcedTooSoon" 291 (48271) ∈ it_tb := it_in_tb (List.mem_of_getElem? (i := 757) (by decide +kernel)) rfl
theorem kn_IcedTooSoon_293 : Cond.constantLong "IcedTooSoon" 293 (2147483647) ∈ it_tb := it_in_tb (List.mem_of_getElem? (i := 758) (by decide +kernel)) rfl
theorem kn_IcedTooSoonModel_147 : Cond.constant "IcedTooSoonModel" 147 (100000) ∈ it_tb := it_in_tb (List.mem_of_getElem? (i := 829) (by decide +kernel)) rfl
theorem kn_IcedTooSoonModel_203 : Cond.constant "IcedTooSoonModel" 203 (-100000) ∈ it_tb := it_in_tb (List.mem_of_getElem? (i := 1082) (by decide +kernel)) rfl
theorem kn_IcedTooSoonModel_225 : Cond.constantLong "IcedTooSoonModel" 225 (-4611686018427387904) ∈ it_tb := it_in_tb (List.mem_of_getElem? (i := 1139) (by decide +kernel)) rfl
theorem kn_IcedTooSoonModel_240 : Cond.constantLong "IcedTooSoonModel" 240 (48271) ∈ it_tb := it_in_tb (List.mem_of_getElem? (i := 1192) (by decide +kernel)) rfl
theorem kn_IcedTooSoonModel_242 : Cond.constantLong "IcedTooSoonModel" 242 (2147483647) ∈ it_tb := it_in_tb (List.mem_of_getElem? (i := 1193) (by decide +kernel)) rfl
theorem kn_IcedTooSoonModel_244 : Cond.constantLong "IcedTooSoonModel" 244 (6) ∈ it_tb := it_in_tb (List.mem_of_getElem? (i := 1194) (by decide +kernel)) rfl
theorem kn_IcedTooSoonModel_246 : Cond.constantLong "IcedTooSoonModel" 246 (199) ∈ it_tb := it_in_tb (List.mem_of_getElem? (i := 1195) (by decide +kernel)) rfl
theorem kn_IcedTooSoonModel_248 : Cond.constantLong "IcedTooSoonModel" 248 (99) ∈ it_tb := it_in_tb (List.mem_of_getElem? (i := 1196) (by decide +kernel)) rfl
theorem kn_IcedTooSoonModel_253 : Cond.constant "IcedTooSoonModel" 253 (99999) ∈ it_tb := it_in_tb (List.mem_of_getElem? (i := 1187) (by decide +kernel)) rfl
theorem kn_java_lang_Integer_264 : Cond.constant "java/lang/Integer" 264 (65536) ∈ it_tb := it_in_tb (List.mem_of_getElem? (i := 588) (by decide +kernel)) rfl
theorem kn_java_lang_Integer_265 : Cond.constant "java/lang/Integer" 265 (1431655765) ∈ it_tb := it_in_tb (List.mem_of_getElem? (i := 671) (by decide +kernel)) rfl
theorem kn_java_lang_Integer_266 : Cond.constant "java/lang/Integer" 266 (858993459) ∈ it_tb := it_in_tb (List.mem_of_getElem? (i := 672) (by decide +kernel)) rfl
theorem kn_java_lang_Integer_267 : Cond.constant "java/lang/Integer" 267 (252645135) ∈ it_tb := it_in_tb (List.mem_of_getElem? (i := 673) (by decide +kernel)) rfl
