def m_B_init : zMI := (⟨"BufferedCores", "<init>", "(I)V"⟩, prog_1_method_1_code, 4, none, Cond.code ⟨"BufferedCores", "<init>", "(I)V"⟩ prog_1_method_1_code 4 none :: zT, { frames := 3, cells := 44, slots := 352, locals := 64 }, [])
def m_J_min : zMI := (⟨"java/lang/Math", "min", "(II)I"⟩, prog_14_method_69_code, 2, (some .int), Cond.code ⟨"java/lang/Math", "min", "(II)I"⟩ prog_14_method_69_code 2 (some .int) :: zT, { frames := 0, cells := 0, slots := 0, locals := 0 }, [])
def m_J_max : zMI := (⟨"java/lang/Math", "max", "(II)I"⟩, prog_14_method_65_code, 2, (some .int), Cond.code ⟨"java/lang/Math", "max", "(II)I"⟩ prog_14_method_65_code 2 (some .int) :: zT, { frames := 0, cells := 0, slots := 0, locals := 0 }, [])
def m_Co_init : zMI := (⟨"BufferedCores$Core", "<init>", "(II)V"⟩, prog_2_method_1_code, 4, none, Cond.code ⟨"BufferedCores$Core", "<init>", "(II)V"⟩ prog_2_method_1_code 4 none :: zT, { frames := 2, cells := 12, slots := 79, locals := 41 }, [])
def m_Pr_init : zMI := (⟨"BufferedCores$Program", "<init>", "()V"⟩, prog_5_method_1_code, 1, none, Cond.code ⟨"BufferedCores$Program", "<init>", "()V"⟩ prog_5_method_1_code 1 none :: zT, { frames := 1, cells := 3, slots := 48, locals := 20 }, [])
def m_Rq_init : zMI := (⟨"BufferedCores$Request", "<init>", "()V"⟩, prog_6_method_1_code, 1, none, Cond.code ⟨"BufferedCores$Request", "<init>", "()V"⟩ prog_6_method_1_code 1 none :: zT, { frames := 1, cells := 0, slots := 0, locals := 20 }, [])
def m_Sb_init : zMI := (⟨"BufferedCores$StoreBuffer", "<init>", "(I)V"⟩, prog_7_method_1_code, 2, none, Cond.code ⟨"BufferedCores$StoreBuffer", "<init>", "(I)V"⟩ prog_7_method_1_code 2 none :: zT, { frames := 1, cells := 2, slots := 8, locals := 20 }, [])
def m_Li_init : zMI := (⟨"BufferedCores$Line", "<init>", "()V"⟩, prog_3_method_1_code, 1, none, Cond.code ⟨"BufferedCores$Line", "<init>", "()V"⟩ prog_3_method_1_code 1 none :: zT, { frames := 1, cells := 0, slots := 0, locals := 20 }, [])
def m_Lo_init : zMI := (⟨"BufferedCores$Log", "<init>", "()V"⟩, prog_4_method_1_code, 1, none, Cond.code ⟨"BufferedCores$Log", "<init>", "()V"⟩ prog_4_method_1_code 1 none :: zT, { frames := 1, cells := 2, slots := 80, locals := 20 }, [])
def m_B_events : zMI := (⟨"BufferedCores", "events", "()I"⟩, prog_1_method_18_code, 1, (some .int), Cond.code ⟨"BufferedCores", "events", "()I"⟩ prog_1_method_18_code 1 (some .int) :: zT, { frames := 0, cells := 0, slots := 0, locals := 0 }, [])
def m_B_code : zMI := (⟨"BufferedCores", "code", "(IIII)I"⟩, prog_1_method_2_code, 6, (some .int), Cond.code ⟨"BufferedCores", "code", "(IIII)I"⟩ prog_1_method_2_code 6 (some .int) :: zT, { frames := 7, cells := 2, slots := 12, locals := 103 }, [])
def m_B_coreAt : zMI := (⟨"BufferedCores", "coreAt", "(I)LBufferedCores$Core;"⟩, prog_1_method_21_code, 2, (some (.object "BufferedCores$Core")), Cond.code ⟨"BufferedCores", "coreAt", "(I)LBufferedCores$Core;"⟩ prog_1_method_21_code 2 (some (.object "BufferedCores$Core")) :: zT, { frames := 6, cells := 1, slots := 6, locals := 82 }, [])
def m_B_isInstruction : zMI := (⟨"BufferedCores", "isInstruction", "(III)Z"⟩, prog_1_method_26_code, 3, (some .boolean), Cond.code ⟨"BufferedCores", "isInstruction", "(III)Z"⟩ prog_1_method_26_code 3 (some .boolean) :: zT, { frames := 1, cells := 0, slots := 0, locals := 20 }, [])
def m_B_isRegister : zMI := (⟨"BufferedCores", "isRegister", "(I)Z"⟩, prog_1_method_25_code, 1, (some .boolean), Cond.code ⟨"BufferedCores", "isRegister", "(I)Z"⟩ prog_1_method_25_code 1 (some .boolean) :: zT, { frames := 0, cells := 0, slots := 0, locals := 0 }, [])
def m_Pr_append : zMI := (⟨"BufferedCores$Program", "append", "(III)V"⟩, prog_5_method_2_code, 4, none, Cond.code ⟨"BufferedCores$Program", "append", "(III)V"⟩ prog_5_method_2_code 4 none :: zT, { frames := 0, cells := 0, slots := 0, locals := 0 }, [])
def m_B_poke : zMI := (⟨"BufferedCores", "poke", "(II)V"⟩, prog_1_method_3_code, 3, none, Cond.code ⟨"BufferedCores", "poke", "(II)V"⟩ prog_1_method_3_code 3 none :: zT, { frames := 7, cells := 2, slots := 12, locals := 102 }, [])
def m_B_requireAddress : zMI := (⟨"BufferedCores", "requireAddress", "(I)V"⟩, prog_1_method_22_code, 1, none, Cond.code ⟨"BufferedCores", "requireAddress", "(I)V"⟩ prog_1_method_22_code 1 none :: zT, { frames := 6, cells := 1, slots := 6, locals := 82 }, [])
def m_B_isInUse : zMI := (⟨"BufferedCores", "isInUse", "(I)Z"⟩, prog_1_method_34_code, 3, (some .boolean), Cond.code ⟨"BufferedCores", "isInUse", "(I)Z"⟩ prog_1_method_34_code 3 (some .boolean) :: zT, { frames := 1, cells := 0, slots := 0, locals := 21 }, [])
def m_Co_lineFor : zMI := (⟨"BufferedCores$Core", "lineFor", "(I)LBufferedCores$Line;"⟩, prog_2_method_2_code, 2, (some (.object "BufferedCores$Line")), Cond.code ⟨"BufferedCores$Core", "lineFor", "(I)LBufferedCores$Line;"⟩ prog_2_method_2_code 2 (some (.object "BufferedCores$Line")) :: zT, { frames := 0, cells := 0, slots := 0, locals := 0 }, [])
def m_Li_has : zMI := (⟨"BufferedCores$Line", "has", "(I)Z"⟩, prog_3_method_2_code, 2, (some .boolean), Cond.code ⟨"BufferedCores$Line", "has", "(I)Z"⟩ prog_3_method_2_code 2 (some .boolean) :: zT, { frames := 0, cells := 0, slots := 0, locals := 0 }, [])
def m_Rq_fliesFor : zMI := (⟨"BufferedCores$Request", "fliesFor", "(I)Z"⟩, prog_6_method_2_code, 2, (some .boolean), Cond.code ⟨"BufferedCores$Request", "fliesFor", "(I)Z"⟩ prog_6_method_2_code 2 (some .boolean) :: zT, { frames := 0, cells := 0, slots := 0, locals := 0 }, [])
def m_B_step : zMI := (⟨"BufferedCores", "step", "(I)I"⟩, prog_1_method_4_code, 5, (some .int), Cond.code ⟨"BufferedCores", "step", "(I)I"⟩ prog_1_method_4_code 5 (some .int) :: zT, { frames := 7, cells := 1, slots := 6, locals := 103 }, [])
def m_B_execute : zMI := (⟨"BufferedCores", "execute", "(LBufferedCores$Core;III)I"⟩, prog_1_method_27_code, 6, (some .int), Cond.code ⟨"BufferedCores", "execute", "(LBufferedCores$Core;III)I"⟩ prog_1_method_27_code 6 (some .int) :: zT, { frames := 3, cells := 0, slots := 0, locals := 73 }, [])
def m_B_executeLoad : zMI := (⟨"BufferedCores", "executeLoad", "(LBufferedCores$Core;II)I"⟩, prog_1_method_28_code, 7, (some .int), Cond.code ⟨"BufferedCores", "executeLoad", "(LBufferedCores$Core;II)I"⟩ prog_1_method_28_code 7 (some .int) :: zT, { frames := 2, cells := 0, slots := 0, locals := 47 }, [])
def m_Sb_youngestTo : zMI := (⟨"BufferedCores$StoreBuffer", "youngestTo", "(I)I"⟩, prog_7_method_5_code, 3, (some .int), Cond.code ⟨"BufferedCores$StoreBuffer", "youngestTo", "(I)I"⟩ prog_7_method_5_code 3 (some .int) :: zT, { frames := 0, cells := 0, slots := 0, locals := 0 }, [])
def m_B_ask : zMI := (⟨"BufferedCores", "ask", "(LBufferedCores$Core;II)I"⟩, prog_1_method_32_code, 3, (some .int), Cond.code ⟨"BufferedCores", "ask", "(LBufferedCores$Core;II)I"⟩ prog_1_method_32_code 3 (some .int) :: zT, { frames := 1, cells := 0, slots := 0, locals := 22 }, [])
def m_Rq_begin : zMI := (⟨"BufferedCores$Request", "begin", "(II)V"⟩, prog_6_method_3_code, 3, none, Cond.code ⟨"BufferedCores$Request", "begin", "(II)V"⟩ prog_6_method_3_code 3 none :: zT, { frames := 0, cells := 0, slots := 0, locals := 0 }, [])
def m_Lo_enter : zMI := (⟨"BufferedCores$Log", "enter", "(IIII)V"⟩, prog_4_method_2_code, 6, none, Cond.code ⟨"BufferedCores$Log", "enter", "(IIII)V"⟩ prog_4_method_2_code 6 none :: zT, { frames := 1, cells := 0, slots := 0, locals := 22 }, [])
def m_J_floorMod : zMI := (⟨"java/lang/Math", "floorMod", "(II)I"⟩, prog_14_method_50_code, 3, (some .int), Cond.code ⟨"java/lang/Math", "floorMod", "(II)I"⟩ prog_14_method_50_code 3 (some .int) :: zT, { frames := 0, cells := 0, slots := 0, locals := 0 }, [])
def m_B_goTo : zMI := (⟨"BufferedCores", "goTo", "(LBufferedCores$Core;I)I"⟩, prog_1_method_31_code, 2, (some .int), Cond.code ⟨"BufferedCores", "goTo", "(LBufferedCores$Core;I)I"⟩ prog_1_method_31_code 2 (some .int) :: zT, { frames := 0, cells := 0, slots := 0, locals := 0 }, [])
def m_B_executeStore : zMI := (⟨"BufferedCores", "executeStore", "(LBufferedCores$Core;II)I"⟩, prog_1_method_29_code, 3, (some .int), Cond.code ⟨"BufferedCores", "executeStore", "(LBufferedCores$Core;II)I"⟩ prog_1_method_29_code 3 (some .int) :: zT, { frames := 1, cells := 0, slots := 0, locals := 22 }, [])
def m_Sb_isFull : zMI := (⟨"BufferedCores$StoreBuffer", "isFull", "()Z"⟩, prog_7_method_2_code, 1, (some .boolean), Cond.code ⟨"BufferedCores$StoreBuffer", "isFull", "()Z"⟩ prog_7_method_2_code 1 (some .boolean) :: zT, { frames := 0, cells := 0, slots := 0, locals := 0 }, [])
def m_Sb_append : zMI := (⟨"BufferedCores$StoreBuffer", "append", "(II)V"⟩, prog_7_method_3_code, 3, none, Cond.code ⟨"BufferedCores$StoreBuffer", "append", "(II)V"⟩ prog_7_method_3_code 3 none :: zT, { frames := 0, cells := 0, slots := 0, locals := 0 }, [])
def m_B_executeSwap : zMI := (⟨"BufferedCores", "executeSwap", "(LBufferedCores$Core;II)I"⟩, prog_1_method_30_code, 7, (some .int), Cond.code ⟨"BufferedCores", "executeSwap", "(LBufferedCores$Core;II)I"⟩ prog_1_method_30_code 7 (some .int) :: zT, { frames := 2, cells := 0, slots := 0, locals := 47 }, [])
def m_Li_owns : zMI := (⟨"BufferedCores$Line", "owns", "(I)Z"⟩, prog_3_method_3_code, 2, (some .boolean), Cond.code ⟨"BufferedCores$Line", "owns", "(I)Z"⟩ prog_3_method_3_code 2 (some .boolean) :: zT, { frames := 1, cells := 0, slots := 0, locals := 21 }, [])
def m_Li_modify : zMI := (⟨"BufferedCores$Line", "modify", "(I)V"⟩, prog_3_method_5_code, 2, none, Cond.code ⟨"BufferedCores$Line", "modify", "(I)V"⟩ prog_3_method_5_code 2 none :: zT, { frames := 0, cells := 0, slots := 0, locals := 0 }, [])
def m_B_drain : zMI := (⟨"BufferedCores", "drain", "(I)I"⟩, prog_1_method_5_code, 6, (some .int), Cond.code ⟨"BufferedCores", "drain", "(I)I"⟩ prog_1_method_5_code 6 (some .int) :: zT, { frames := 7, cells := 1, slots := 6, locals := 103 }, [])
def m_Sb_removeOldest : zMI := (⟨"BufferedCores$StoreBuffer", "removeOldest", "()V"⟩, prog_7_method_4_code, 2, none, Cond.code ⟨"BufferedCores$StoreBuffer", "removeOldest", "()V"⟩ prog_7_method_4_code 2 none :: zT, { frames := 0, cells := 0, slots := 0, locals := 0 }, [])
def m_B_grant : zMI := (⟨"BufferedCores", "grant", "(I)I"⟩, prog_1_method_6_code, 7, (some .int), Cond.code ⟨"BufferedCores", "grant", "(I)I"⟩ prog_1_method_6_code 7 (some .int) :: zT, { frames := 7, cells := 1, slots := 6, locals := 103 }, [])
def m_B_isInFlightElsewhere : zMI := (⟨"BufferedCores", "isInFlightElsewhere", "(LBufferedCores$Core;I)Z"⟩, prog_1_method_35_code, 4, (some .boolean), Cond.code ⟨"BufferedCores", "isInFlightElsewhere", "(LBufferedCores$Core;I)Z"⟩ prog_1_method_35_code 4 (some .boolean) :: zT, { frames := 1, cells := 0, slots := 0, locals := 21 }, [])
def m_B_makeRoom : zMI := (⟨"BufferedCores", "makeRoom", "(LBufferedCores$Line;I)V"⟩, prog_1_method_37_code, 3, none, Cond.code ⟨"BufferedCores", "makeRoom", "(LBufferedCores$Line;I)V"⟩ prog_1_method_37_code 3 none :: zT, { frames := 1, cells := 0, slots := 0, locals := 21 }, [])
def m_B_writeBack : zMI := (⟨"BufferedCores", "writeBack", "(LBufferedCores$Line;)V"⟩, prog_1_method_39_code, 2, none, Cond.code ⟨"BufferedCores", "writeBack", "(LBufferedCores$Line;)V"⟩ prog_1_method_39_code 2 none :: zT, { frames := 0, cells := 0, slots := 0, locals := 0 }, [])
def m_B_wordAt : zMI := (⟨"BufferedCores", "wordAt", "(I)I"⟩, prog_1_method_33_code, 4, (some .int), Cond.code ⟨"BufferedCores", "wordAt", "(I)I"⟩ prog_1_method_33_code 4 (some .int) :: zT, { frames := 1, cells := 0, slots := 0, locals := 21 }, [])
def m_B_giveWay : zMI := (⟨"BufferedCores", "giveWay", "(LBufferedCores$Line;II)V"⟩, prog_1_method_38_code, 4, none, Cond.code ⟨"BufferedCores", "giveWay", "(LBufferedCores$Line;II)V"⟩ prog_1_method_38_code 4 none :: zT, { frames := 1, cells := 0, slots := 0, locals := 21 }, [])
def m_Rq_takeOff : zMI := (⟨"BufferedCores$Request", "takeOff", "(I)V"⟩, prog_6_method_4_code, 2, none, Cond.code ⟨"BufferedCores$Request", "takeOff", "(I)V"⟩ prog_6_method_4_code 2 none :: zT, { frames := 0, cells := 0, slots := 0, locals := 0 }, [])
def m_B_fill : zMI := (⟨"BufferedCores", "fill", "(I)I"⟩, prog_1_method_7_code, 6, (some .int), Cond.code ⟨"BufferedCores", "fill", "(I)I"⟩ prog_1_method_7_code 6 (some .int) :: zT, { frames := 7, cells := 1, slots := 6, locals := 103 }, [])
def m_B_isHeldElsewhere : zMI := (⟨"BufferedCores", "isHeldElsewhere", "(LBufferedCores$Core;I)Z"⟩, prog_1_method_36_code, 4, (some .boolean), Cond.code ⟨"BufferedCores", "isHeldElsewhere", "(LBufferedCores$Core;I)Z"⟩ prog_1_method_36_code 4 (some .boolean) :: zT, { frames := 1, cells := 0, slots := 0, locals := 21 }, [])
def m_Li_take : zMI := (⟨"BufferedCores$Line", "take", "(III)V"⟩, prog_3_method_4_code, 4, none, Cond.code ⟨"BufferedCores$Line", "take", "(III)V"⟩ prog_3_method_4_code 4 none :: zT, { frames := 0, cells := 0, slots := 0, locals := 0 }, [])
def m_Rq_forget : zMI := (⟨"BufferedCores$Request", "forget", "()V"⟩, prog_6_method_5_code, 1, none, Cond.code ⟨"BufferedCores$Request", "forget", "()V"⟩ prog_6_method_5_code 1 none :: zT, { frames := 0, cells := 0, slots := 0, locals := 0 }, [])
def m_B_register : zMI := (⟨"BufferedCores", "register", "(II)I"⟩, prog_1_method_8_code, 4, (some .int), Cond.code ⟨"BufferedCores", "register", "(II)I"⟩ prog_1_method_8_code 4 (some .int) :: zT, { frames := 7, cells := 2, slots := 12, locals := 103 }, [])
def m_B_place : zMI := (⟨"BufferedCores", "place", "(I)I"⟩, prog_1_method_9_code, 2, (some .int), Cond.code ⟨"BufferedCores", "place", "(I)I"⟩ prog_1_method_9_code 2 (some .int) :: zT, { frames := 7, cells := 1, slots := 6, locals := 103 }, [])
def m_B_buffered : zMI := (⟨"BufferedCores", "buffered", "(I)I"⟩, prog_1_method_10_code, 2, (some .int), Cond.code ⟨"BufferedCores", "buffered", "(I)I"⟩ prog_1_method_10_code 2 (some .int) :: zT, { frames := 7, cells := 1, slots := 6, locals := 103 }, [])
def m_B_storeAddress : zMI := (⟨"BufferedCores", "storeAddress", "(II)I"⟩, prog_1_method_11_code, 4, (some .int), Cond.code ⟨"BufferedCores", "storeAddress", "(II)I"⟩ prog_1_method_11_code 4 (some .int) :: zT, { frames := 7, cells := 2, slots := 12, locals := 103 }, [])
def m_B_requireStore : zMI := (⟨"BufferedCores", "requireStore", "(LBufferedCores$StoreBuffer;I)V"⟩, prog_1_method_23_code, 2, none, Cond.code ⟨"BufferedCores", "requireStore", "(LBufferedCores$StoreBuffer;I)V"⟩ prog_1_method_23_code 2 none :: zT, { frames := 6, cells := 1, slots := 6, locals := 82 }, [])
def m_B_storeValue : zMI := (⟨"BufferedCores", "storeValue", "(II)I"⟩, prog_1_method_12_code, 4, (some .int), Cond.code ⟨"BufferedCores", "storeValue", "(II)I"⟩ prog_1_method_12_code 4 (some .int) :: zT, { frames := 7, cells := 2, slots := 12, locals := 103 }, [])
def m_B_line : zMI := (⟨"BufferedCores", "line", "(II)I"⟩, prog_1_method_13_code, 5, (some .int), Cond.code ⟨"BufferedCores", "line", "(II)I"⟩ prog_1_method_13_code 5 (some .int) :: zT, { frames := 7, cells := 2, slots := 12, locals := 103 }, [])
def m_B_cached : zMI := (⟨"BufferedCores", "cached", "(II)I"⟩, prog_1_method_14_code, 5, (some .int), Cond.code ⟨"BufferedCores", "cached", "(II)I"⟩ prog_1_method_14_code 5 (some .int) :: zT, { frames := 7, cells := 3, slots := 18, locals := 103 }, [])
def m_B_request : zMI := (⟨"BufferedCores", "request", "(I)I"⟩, prog_1_method_15_code, 3, (some .int), Cond.code ⟨"BufferedCores", "request", "(I)I"⟩ prog_1_method_15_code 3 (some .int) :: zT, { frames := 7, cells := 1, slots := 6, locals := 103 }, [])
def m_B_memory : zMI := (⟨"BufferedCores", "memory", "(I)I"⟩, prog_1_method_16_code, 2, (some .int), Cond.code ⟨"BufferedCores", "memory", "(I)I"⟩ prog_1_method_16_code 2 (some .int) :: zT, { frames := 7, cells := 1, slots := 6, locals := 102 }, [])
def m_B_word : zMI := (⟨"BufferedCores", "word", "(I)I"⟩, prog_1_method_17_code, 2, (some .int), Cond.code ⟨"BufferedCores", "word", "(I)I"⟩ prog_1_method_17_code 2 (some .int) :: zT, { frames := 7, cells := 1, slots := 6, locals := 102 }, [])
def m_B_event : zMI := (⟨"BufferedCores", "event", "(I)I"⟩, prog_1_method_19_code, 2, (some .int), Cond.code ⟨"BufferedCores", "event", "(I)I"⟩ prog_1_method_19_code 2 (some .int) :: zT, { frames := 7, cells := 1, slots := 6, locals := 103 }, [])
def m_B_requireEvent : zMI := (⟨"BufferedCores", "requireEvent", "(I)V"⟩, prog_1_method_24_code, 2, none, Cond.code ⟨"BufferedCores", "requireEvent", "(I)V"⟩ prog_1_method_24_code 2 none :: zT, { frames := 6, cells := 1, slots := 6, locals := 82 }, [])
def m_Lo_keeps : zMI := (⟨"BufferedCores$Log", "keeps", "(I)Z"⟩, prog_4_method_3_code, 2, (some .boolean), Cond.code ⟨"BufferedCores$Log", "keeps", "(I)Z"⟩ prog_4_method_3_code 2 (some .boolean) :: zT, { frames := 0, cells := 0, slots := 0, locals := 0 }, [])
def m_B_eventValue : zMI := (⟨"BufferedCores", "eventValue", "(I)I"⟩, prog_1_method_20_code, 2, (some .int), Cond.code ⟨"BufferedCores", "eventValue", "(I)I"⟩ prog_1_method_20_code 2 (some .int) :: zT, { frames := 7, cells := 1, slots := 6, locals := 103 }, [])
set_option maxRecDepth 100000 in
theorem d_B_init_0 : decode prog_1_method_1_code 0 = .ok (.aload_n 0, 1) := by decide +kernel
set_option maxRecDepth 100000 in
theorem d_B_init_1 : decode prog_1_method_1_code 1 = .ok (.invokespecial 1, 3) := by decide +kernel
set_option maxRecDepth 100000 in
theorem d_B_init_4 : decode prog_1_method_1_code 4 = .ok (.iconst 1, 1) := by decide +kernel
set_option maxRecDepth 100000 in
theorem d_B_init_5 : decode prog_1_method_1_code 5 = .ok (.iconst 4, 1) := by decide +kernel
set_option maxRecDepth 100000 in
theorem d_B_init_6 : decode prog_1_method_1_code 6 = .ok (.iload_n 1, 1) := by decide +kernel
set_option maxRecDepth 100000 in
theorem d_B_init_7 : decode prog_1_method_1_code 7 = .ok (.invokestatic 9, 3) := by decide +kernel
set_option maxRecDepth 100000 in
theorem d_B_init_10 : decode prog_1_method_1_code 10 = .ok (.invokestatic 15, 3) := by decide +kernel
set_option maxRecDepth 100000 in
theorem d_B_init_13 : decode prog_1_method_1_code 13 = .ok (.istore_n 2, 1) := by decide +kernel
set_option maxRecDepth 100000 in
theorem d_B_init_14 : decode prog_1_method_1_code 14 = .ok (.aload_n 0, 1) := by decide +kernel
set_option maxRecDepth 100000 in
theorem d_B_init_15 : decode prog_1_method_1_code 15 = .ok (.bipush 8, 2) := by decide +kernel
set_option maxRecDepth 100000 in
theorem d_B_init_17 : decode prog_1_method_1_code 17 = .ok (.newarray .int, 2) := by decide +kernel
set_option maxRecDepth 100000 in
theorem d_B_init_19 : decode prog_1_method_1_code 19 = .ok (.putfield 18, 3) := by decide +kernel
set_option maxRecDepth 100000 in
theorem d_B_init_22 : decode prog_1_method_1_code 22 = .ok (.aload_n 0, 1) := by decide +kernel
set_option maxRecDepth 100000 in
theorem d_B_init_23 : decode prog_1_method_1_code 23 = .ok (.iconst 3, 1) := by decide +kernel
set_option maxRecDepth 100000 in
theorem d_B_init_24 : decode prog_1_method_1_code 24 = .ok (.anewarray 22, 3) := by decide +kernel
set_option maxRecDepth 100000 in
theorem d_B_init_27 : decode prog_1_method_1_code 27 = .ok (.putfield 24, 3) := by decide +kernel
set_option maxRecDepth 100000 in
theorem d_B_init_30 : decode prog_1_method_1_code 30 = .ok (.iconst 0, 1) := by decide +kernel
set_option maxRecDepth 100000 in
theorem d_B_init_31 : decode prog_1_method_1_code 31 = .ok (.istore_n 3, 1) := by decide +kernel
set_option maxRecDepth 100000 in
theorem d_B_init_32 : decode prog_1_method_1_code 32 = .ok (.iload_n 3, 1) := by decide +kernel
set_option maxRecDepth 100000 in
theorem d_B_init_33 : decode prog_1_method_1_code 33 = .ok (.iconst 3, 1) := by decide +kernel
set_option maxRecDepth 100000 in
theorem d_B_init_34 : decode prog_1_method_1_code 34 = .ok (.if_icmp .ge 24, 3) := by decide +kernel
set_option maxRecDepth 100000 in
theorem d_B_init_37 : decode prog_1_method_1_code 37 = .ok (.aload_n 0, 1) := by decide +kernel
set_option maxRecDepth 100000 in
theorem d_B_init_38 : decode prog_1_method_1_code 38 = .ok (.getfield 24, 3) := by decide +kernel
set_option maxRecDepth 100000 in
theorem d_B_init_41 : decode prog_1_method_1_code 41 = .ok (.iload_n 3, 1) := by decide +kernel
set_option maxRecDepth 100000 in
theorem d_B_init_42 : decode prog_1_method_1_code 42 = .ok (.new 22, 3) := by decide +kernel
set_option maxRecDepth 100000 in
theorem d_B_init_45 : decode prog_1_method_1_code 45 = .ok (.dup, 1) := by decide +kernel
set_option maxRecDepth 100000 in
theorem d_B_init_46 : decode prog_1_method_1_code 46 = .ok (.iload_n 3, 1) := by decide +kernel
set_option maxRecDepth 100000 in
theorem d_B_init_47 : decode prog_1_method_1_code 47 = .ok (.iload_n 2, 1) := by decide +kernel
set_option maxRecDepth 100000 in
theorem d_B_init_48 : decode prog_1_method_1_code 48 = .ok (.invokespecial 28, 3) := by decide +kernel
set_option maxRecDepth 100000 in
theorem d_B_init_51 : decode prog_1_method_1_code 51 = .ok (.aastore, 1) := by decide +kernel
set_option maxRecDepth 100000 in
theorem d_B_init_52 : decode prog_1_method_1_code 52 = .ok (.iinc 3 1, 3) := by decide +kernel
set_option maxRecDepth 100000 in
theorem d_B_init_55 : decode prog_1_method_1_code 55 = .ok (.goto (-23), 3) := by decide +kernel
set_option maxRecDepth 100000 in
theorem d_B_init_58 : decode prog_1_method_1_code 58 = .ok (.aload_n 0, 1) := by decide +kernel
set_option maxRecDepth 100000 in
theorem d_B_init_59 : decode prog_1_method_1_code 59 = .ok (.new 31, 3) := by decide +kernel
set_option maxRecDepth 100000 in
theorem d_B_init_62 : decode prog_1_method_1_code 62 = .ok (.dup, 1) := by decide +kernel
set_option maxRecDepth 100000 in
theorem d_B_init_63 : decode prog_1_method_1_code 63 = .ok (.invokespecial 33, 3) := by decide +kernel
set_option maxRecDepth 100000 in
theorem d_B_init_66 : decode prog_1_method_1_code 66 = .ok (.putfield 34, 3) := by decide +kernel
set_option maxRecDepth 100000 in
theorem d_B_init_69 : decode prog_1_method_1_code 69 = .ok (.return_, 1) := by decide +kernel
set_option maxRecDepth 100000 in
theorem d_Co_init_0 : decode prog_2_method_1_code 0 = .ok (.aload_n 0, 1) := by decide +kernel
set_option maxRecDepth 100000 in
theorem d_Co_init_1 : decode prog_2_method_1_code 1 = .ok (.invokespecial 3, 3) := by decide +kernel
set_option maxRecDepth 100000 in
theorem d_Co_init_4 : decode prog_2_method_1_code 4 = .ok (.aload_n 0, 1) := by decide +kernel
set_option maxRecDepth 100000 in
theorem d_Co_init_5 : decode prog_2_method_1_code 5 = .ok (.iconst 4, 1) := by decide +kernel
set_option maxRecDepth 100000 in
theorem d_Co_init_6 : decode prog_2_method_1_code 6 = .ok (.newarray .int, 2) := by decide +kernel
set_option maxRecDepth 100000 in
theorem d_Co_init_8 : decode prog_2_method_1_code 8 = .ok (.putfield 9, 3) := by decide +kernel
set_option maxRecDepth 100000 in
theorem d_Co_init_11 : decode prog_2_method_1_code 11 = .ok (.aload_n 0, 1) := by decide +kernel
set_option maxRecDepth 100000 in
theorem d_Co_init_12 : decode prog_2_method_1_code 12 = .ok (.new 15, 3) := by decide +kernel
set_option maxRecDepth 100000 in
theorem d_Co_init_15 : decode prog_2_method_1_code 15 = .ok (.dup, 1) := by decide +kernel
set_option maxRecDepth 100000 in
theorem d_Co_init_16 : decode prog_2_method_1_code 16 = .ok (.invokespecial 17, 3) := by decide +kernel
set_option maxRecDepth 100000 in
theorem d_Co_init_19 : decode prog_2_method_1_code 19 = .ok (.putfield 18, 3) := by decide +kernel
set_option maxRecDepth 100000 in
theorem d_Co_init_22 : decode prog_2_method_1_code 22 = .ok (.aload_n 0, 1) := by decide +kernel
set_option maxRecDepth 100000 in
theorem d_Co_init_23 : decode prog_2_method_1_code 23 = .ok (.iconst 2, 1) := by decide +kernel
set_option maxRecDepth 100000 in
theorem d_Co_init_24 : decode prog_2_method_1_code 24 = .ok (.anewarray 22, 3) := by decide +kernel
set_option maxRecDepth 100000 in
theorem d_Co_init_27 : decode prog_2_method_1_code 27 = .ok (.putfield 24, 3) := by decide +kernel
set_option maxRecDepth 100000 in
theorem d_Co_init_30 : decode prog_2_method_1_code 30 = .ok (.aload_n 0, 1) := by decide +kernel
set_option maxRecDepth 100000 in
theorem d_Co_init_31 : decode prog_2_method_1_code 31 = .ok (.new 28, 3) := by decide +kernel
set_option maxRecDepth 100000 in
theorem d_Co_init_34 : decode prog_2_method_1_code 34 = .ok (.dup, 1) := by decide +kernel
set_option maxRecDepth 100000 in
theorem d_Co_init_35 : decode prog_2_method_1_code 35 = .ok (.invokespecial 30, 3) := by decide +kernel
set_option maxRecDepth 100000 in
theorem d_Co_init_38 : decode prog_2_method_1_code 38 = .ok (.putfield 31, 3) := by decide +kernel
set_option maxRecDepth 100000 in
theorem d_Co_init_41 : decode prog_2_method_1_code 41 = .ok (.aload_n 0, 1) := by decide +kernel
set_option maxRecDepth 100000 in
theorem d_Co_init_42 : decode prog_2_method_1_code 42 = .ok (.iload_n 1, 1) := by decide +kernel
set_option maxRecDepth 100000 in
theorem d_Co_init_43 : decode prog_2_method_1_code 43 = .ok (.putfield 35, 3) := by decide +kernel
set_option maxRecDepth 100000 in
theorem d_Co_init_46 : decode prog_2_method_1_code 46 = .ok (.aload_n 0, 1) := by decide +kernel
set_option maxRecDepth 100000 in
theorem d_Co_init_47 : decode prog_2_method_1_code 47 = .ok (.new 39, 3) := by decide +kernel
set_option maxRecDepth 100000 in
theorem d_Co_init_50 : decode prog_2_method_1_code 50 = .ok (.dup, 1) := by decide +kernel
set_option maxRecDepth 100000 in
theorem d_Co_init_51 : decode prog_2_method_1_code 51 = .ok (.iload_n 2, 1) := by decide +kernel
set_option maxRecDepth 100000 in
theorem d_Co_init_52 : decode prog_2_method_1_code 52 = .ok (.invokespecial 41, 3) := by decide +kernel
set_option maxRecDepth 100000 in
theorem d_Co_init_55 : decode prog_2_method_1_code 55 = .ok (.putfield 44, 3) := by decide +kernel
set_option maxRecDepth 100000 in
theorem d_Co_init_58 : decode prog_2_method_1_code 58 = .ok (.iconst 0, 1) := by decide +kernel
set_option maxRecDepth 100000 in
theorem d_Co_init_59 : decode prog_2_method_1_code 59 = .ok (.istore_n 3, 1) := by decide +kernel
set_option maxRecDepth 100000 in
theorem d_Co_init_60 : decode prog_2_method_1_code 60 = .ok (.iload_n 3, 1) := by decide +kernel
set_option maxRecDepth 100000 in
theorem d_Co_init_61 : decode prog_2_method_1_code 61 = .ok (.iconst 2, 1) := by decide +kernel
set_option maxRecDepth 100000 in
theorem d_Co_init_62 : decode prog_2_method_1_code 62 = .ok (.if_icmp .ge 22, 3) := by decide +kernel
set_option maxRecDepth 100000 in
theorem d_Co_init_65 : decode prog_2_method_1_code 65 = .ok (.aload_n 0, 1) := by decide +kernel
set_option maxRecDepth 100000 in
theorem d_Co_init_66 : decode prog_2_method_1_code 66 = .ok (.getfield 24, 3) := by decide +kernel
set_option maxRecDepth 100000 in
theorem d_Co_init_69 : decode prog_2_method_1_code 69 = .ok (.iload_n 3, 1) := by decide +kernel
set_option maxRecDepth 100000 in
theorem d_Co_init_70 : decode prog_2_method_1_code 70 = .ok (.new 22, 3) := by decide +kernel
set_option maxRecDepth 100000 in
theorem d_Co_init_73 : decode prog_2_method_1_code 73 = .ok (.dup, 1) := by decide +kernel
set_option maxRecDepth 100000 in
theorem d_Co_init_74 : decode prog_2_method_1_code 74 = .ok (.invokespecial 48, 3) := by decide +kernel
set_option maxRecDepth 100000 in
theorem d_Co_init_77 : decode prog_2_method_1_code 77 = .ok (.aastore, 1) := by decide +kernel
set_option maxRecDepth 100000 in
theorem d_Co_init_78 : decode prog_2_method_1_code 78 = .ok (.iinc 3 1, 3) := by decide +kernel
set_option maxRecDepth 100000 in
theorem d_Co_init_81 : decode prog_2_method_1_code 81 = .ok (.goto (-21), 3) := by decide +kernel
set_option maxRecDepth 100000 in
theorem d_Co_init_84 : decode prog_2_method_1_code 84 = .ok (.return_, 1) := by decide +kernel
set_option maxRecDepth 100000 in
theorem d_Pr_init_0 : decode prog_5_method_1_code 0 = .ok (.aload_n 0, 1) := by decide +kernel
set_option maxRecDepth 100000 in
theorem d_Pr_init_1 : decode prog_5_method_1_code 1 = .ok (.invokespecial 3, 3) := by decide +kernel
set_option maxRecDepth 100000 in
theorem d_Pr_init_4 : decode prog_5_method_1_code 4 = .ok (.aload_n 0, 1) := by decide +kernel
set_option maxRecDepth 100000 in
theorem d_Pr_init_5 : decode prog_5_method_1_code 5 = .ok (.bipush 16, 2) := by decide +kernel
set_option maxRecDepth 100000 in
theorem d_Pr_init_7 : decode prog_5_method_1_code 7 = .ok (.newarray .int, 2) := by decide +kernel
set_option maxRecDepth 100000 in
theorem d_Pr_init_9 : decode prog_5_method_1_code 9 = .ok (.putfield 9, 3) := by decide +kernel
set_option maxRecDepth 100000 in
theorem d_Pr_init_12 : decode prog_5_method_1_code 12 = .ok (.aload_n 0, 1) := by decide +kernel
set_option maxRecDepth 100000 in
theorem d_Pr_init_13 : decode prog_5_method_1_code 13 = .ok (.bipush 16, 2) := by decide +kernel
set_option maxRecDepth 100000 in
theorem d_Pr_init_15 : decode prog_5_method_1_code 15 = .ok (.newarray .int, 2) := by decide +kernel
set_option maxRecDepth 100000 in
theorem d_Pr_init_17 : decode prog_5_method_1_code 17 = .ok (.putfield 15, 3) := by decide +kernel
set_option maxRecDepth 100000 in
theorem d_Pr_init_20 : decode prog_5_method_1_code 20 = .ok (.aload_n 0, 1) := by decide +kernel
set_option maxRecDepth 100000 in
theorem d_Pr_init_21 : decode prog_5_method_1_code 21 = .ok (.bipush 16, 2) := by decide +kernel
set_option maxRecDepth 100000 in
theorem d_Pr_init_23 : decode prog_5_method_1_code 23 = .ok (.newarray .int, 2) := by decide +kernel
set_option maxRecDepth 100000 in
theorem d_Pr_init_25 : decode prog_5_method_1_code 25 = .ok (.putfield 18, 3) := by decide +kernel
set_option maxRecDepth 100000 in
theorem d_Pr_init_28 : decode prog_5_method_1_code 28 = .ok (.return_, 1) := by decide +kernel
set_option maxRecDepth 100000 in
theorem d_Rq_init_0 : decode prog_6_method_1_code 0 = .ok (.aload_n 0, 1) := by decide +kernel
set_option maxRecDepth 100000 in
theorem d_Rq_init_1 : decode prog_6_method_1_code 1 = .ok (.invokespecial 3, 3) := by decide +kernel
set_option maxRecDepth 100000 in
theorem d_Rq_init_4 : decode prog_6_method_1_code 4 = .ok (.return_, 1) := by decide +kernel
set_option maxRecDepth 100000 in
theorem d_Sb_init_0 : decode prog_7_method_1_code 0 = .ok (.aload_n 0, 1) := by decide +kernel
set_option maxRecDepth 100000 in
theorem d_Sb_init_1 : decode prog_7_method_1_code 1 = .ok (.invokespecial 1, 3) := by decide +kernel
set_option maxRecDepth 100000 in
theorem d_Sb_init_4 : decode prog_7_method_1_code 4 = .ok (.aload_n 0, 1) := by decide +kernel
set_option maxRecDepth 100000 in
theorem d_Sb_init_5 : decode prog_7_method_1_code 5 = .ok (.iload_n 1, 1) := by decide +kernel
set_option maxRecDepth 100000 in
theorem d_Sb_init_6 : decode prog_7_method_1_code 6 = .ok (.newarray .int, 2) := by decide +kernel
set_option maxRecDepth 100000 in
theorem d_Sb_init_8 : decode prog_7_method_1_code 8 = .ok (.putfield 7, 3) := by decide +kernel
set_option maxRecDepth 100000 in
theorem d_Sb_init_11 : decode prog_7_method_1_code 11 = .ok (.aload_n 0, 1) := by decide +kernel
set_option maxRecDepth 100000 in
theorem d_Sb_init_12 : decode prog_7_method_1_code 12 = .ok (.iload_n 1, 1) := by decide +kernel
set_option maxRecDepth 100000 in
theorem d_Sb_init_13 : decode prog_7_method_1_code 13 = .ok (.newarray .int, 2) := by decide +kernel
set_option maxRecDepth 100000 in
theorem d_Sb_init_15 : decode prog_7_method_1_code 15 = .ok (.putfield 13, 3) := by decide +kernel
set_option maxRecDepth 100000 in
theorem d_Sb_init_18 : decode prog_7_method_1_code 18 = .ok (.return_, 1) := by decide +kernel
set_option maxRecDepth 100000 in
theorem d_Li_init_0 : decode prog_3_method_1_code 0 = .ok (.aload_n 0, 1) := by decide +kernel
set_option maxRecDepth 100000 in
theorem d_Li_init_1 : decode prog_3_method_1_code 1 = .ok (.invokespecial 3, 3) := by decide +kernel
set_option maxRecDepth 100000 in
theorem d_Li_init_4 : decode prog_3_method_1_code 4 = .ok (.return_, 1) := by decide +kernel
set_option maxRecDepth 100000 in
theorem d_Lo_init_0 : decode prog_4_method_1_code 0 = .ok (.aload_n 0, 1) := by decide +kernel
set_option maxRecDepth 100000 in
theorem d_Lo_init_1 : decode prog_4_method_1_code 1 = .ok (.invokespecial 3, 3) := by decide +kernel
set_option maxRecDepth 100000 in
theorem d_Lo_init_4 : decode prog_4_method_1_code 4 = .ok (.aload_n 0, 1) := by decide +kernel
set_option maxRecDepth 100000 in
theorem d_Lo_init_5 : decode prog_4_method_1_code 5 = .ok (.bipush 40, 2) := by decide +kernel
set_option maxRecDepth 100000 in
theorem d_Lo_init_7 : decode prog_4_method_1_code 7 = .ok (.newarray .int, 2) := by decide +kernel
set_option maxRecDepth 100000 in
theorem d_Lo_init_9 : decode prog_4_method_1_code 9 = .ok (.putfield 9, 3) := by decide +kernel
set_option maxRecDepth 100000 in
theorem d_Lo_init_12 : decode prog_4_method_1_code 12 = .ok (.aload_n 0, 1) := by decide +kernel
set_option maxRecDepth 100000 in
theorem d_Lo_init_13 : decode prog_4_method_1_code 13 = .ok (.bipush 40, 2) := by decide +kernel
set_option maxRecDepth 100000 in
theorem d_Lo_init_15 : decode prog_4_method_1_code 15 = .ok (.newarray .int, 2) := by decide +kernel
set_option maxRecDepth 100000 in
theorem d_Lo_init_17 : decode prog_4_method_1_code 17 = .ok (.putfield 15, 3) := by decide +kernel
set_option maxRecDepth 100000 in
theorem d_Lo_init_20 : decode prog_4_method_1_code 20 = .ok (.return_, 1) := by decide +kernel
set_option maxRecDepth 100000 in
theorem d_B_events_0 : decode prog_1_method_18_code 0 = .ok (.aload_n 0, 1) := by decide +kernel
set_option maxRecDepth 100000 in
theorem d_B_events_1 : decode prog_1_method_18_code 1 = .ok (.getfield 34, 3) := by decide +kernel
set_option maxRecDepth 100000 in
theorem d_B_events_4 : decode prog_1_method_18_code 4 = .ok (.getfield 217, 3) := by decide +kernel
set_option maxRecDepth 100000 in
theorem d_B_events_7 : decode prog_1_method_18_code 7 = .ok (.ireturn, 1) := by decide +kernel
set_option maxRecDepth 100000 in
theorem d_B_code_0 : decode prog_1_method_2_code 0 = .ok (.aload_n 0, 1) := by decide +kernel
set_option maxRecDepth 100000 in
theorem d_B_code_1 : decode prog_1_method_2_code 1 = .ok (.iload_n 1, 1) := by decide +kernel
set_option maxRecDepth 100000 in
theorem d_B_code_2 : decode prog_1_method_2_code 2 = .ok (.invokevirtual 38, 3) := by decide +kernel
set_option maxRecDepth 100000 in
theorem d_B_code_5 : decode prog_1_method_2_code 5 = .ok (.getfield 42, 3) := by decide +kernel
set_option maxRecDepth 100000 in
theorem d_B_code_8 : decode prog_1_method_2_code 8 = .ok (.astore 5, 2) := by decide +kernel
set_option maxRecDepth 100000 in
theorem d_B_code_10 : decode prog_1_method_2_code 10 = .ok (.iload_n 2, 1) := by decide +kernel
set_option maxRecDepth 100000 in
theorem d_B_code_11 : decode prog_1_method_2_code 11 = .ok (.iload_n 3, 1) := by decide +kernel
set_option maxRecDepth 100000 in
theorem d_B_code_12 : decode prog_1_method_2_code 12 = .ok (.iload 4, 2) := by decide +kernel
set_option maxRecDepth 100000 in
theorem d_B_code_14 : decode prog_1_method_2_code 14 = .ok (.invokestatic 46, 3) := by decide +kernel
set_option maxRecDepth 100000 in
theorem d_B_code_17 : decode prog_1_method_2_code 17 = .ok (.ifCond .ne 13, 3) := by decide +kernel
set_option maxRecDepth 100000 in
theorem d_B_code_20 : decode prog_1_method_2_code 20 = .ok (.new 50, 3) := by decide +kernel
set_option maxRecDepth 100000 in
theorem d_B_code_23 : decode prog_1_method_2_code 23 = .ok (.dup, 1) := by decide +kernel
set_option maxRecDepth 100000 in
theorem d_B_code_24 : decode prog_1_method_2_code 24 = .ok (.ldc 52, 2) := by decide +kernel
set_option maxRecDepth 100000 in
theorem d_B_code_26 : decode prog_1_method_2_code 26 = .ok (.invokespecial 54, 3) := by decide +kernel
set_option maxRecDepth 100000 in
theorem d_B_code_29 : decode prog_1_method_2_code 29 = .ok (.athrow, 1) := by decide +kernel
set_option maxRecDepth 100000 in
theorem d_B_code_30 : decode prog_1_method_2_code 30 = .ok (.aload 5, 2) := by decide +kernel
set_option maxRecDepth 100000 in
theorem d_B_code_32 : decode prog_1_method_2_code 32 = .ok (.getfield 57, 3) := by decide +kernel
set_option maxRecDepth 100000 in
theorem d_B_code_35 : decode prog_1_method_2_code 35 = .ok (.bipush 16, 2) := by decide +kernel
set_option maxRecDepth 100000 in
theorem d_B_code_37 : decode prog_1_method_2_code 37 = .ok (.if_icmp .ne 13, 3) := by decide +kernel
set_option maxRecDepth 100000 in
theorem d_B_code_40 : decode prog_1_method_2_code 40 = .ok (.new 63, 3) := by decide +kernel
set_option maxRecDepth 100000 in
theorem d_B_code_43 : decode prog_1_method_2_code 43 = .ok (.dup, 1) := by decide +kernel
set_option maxRecDepth 100000 in
theorem d_B_code_44 : decode prog_1_method_2_code 44 = .ok (.ldc 65, 2) := by decide +kernel
set_option maxRecDepth 100000 in
theorem d_B_code_46 : decode prog_1_method_2_code 46 = .ok (.invokespecial 67, 3) := by decide +kernel
set_option maxRecDepth 100000 in
theorem d_B_code_49 : decode prog_1_method_2_code 49 = .ok (.athrow, 1) := by decide +kernel
set_option maxRecDepth 100000 in
theorem d_B_code_50 : decode prog_1_method_2_code 50 = .ok (.aload 5, 2) := by decide +kernel
set_option maxRecDepth 100000 in
theorem d_B_code_52 : decode prog_1_method_2_code 52 = .ok (.iload_n 2, 1) := by decide +kernel
set_option maxRecDepth 100000 in
theorem d_B_code_53 : decode prog_1_method_2_code 53 = .ok (.iload_n 3, 1) := by decide +kernel
set_option maxRecDepth 100000 in
theorem d_B_code_54 : decode prog_1_method_2_code 54 = .ok (.iload 4, 2) := by decide +kernel
set_option maxRecDepth 100000 in
theorem d_B_code_56 : decode prog_1_method_2_code 56 = .ok (.invokevirtual 68, 3) := by decide +kernel
set_option maxRecDepth 100000 in
theorem d_B_code_59 : decode prog_1_method_2_code 59 = .ok (.aload 5, 2) := by decide +kernel
set_option maxRecDepth 100000 in
theorem d_B_code_61 : decode prog_1_method_2_code 61 = .ok (.getfield 57, 3) := by decide +kernel
set_option maxRecDepth 100000 in
theorem d_B_code_64 : decode prog_1_method_2_code 64 = .ok (.ireturn, 1) := by decide +kernel
set_option maxRecDepth 100000 in
theorem d_B_coreAt_0 : decode prog_1_method_21_code 0 = .ok (.iload_n 1, 1) := by decide +kernel
set_option maxRecDepth 100000 in
theorem d_B_coreAt_1 : decode prog_1_method_21_code 1 = .ok (.ifCond .lt 8, 3) := by decide +kernel
set_option maxRecDepth 100000 in
theorem d_B_coreAt_4 : decode prog_1_method_21_code 4 = .ok (.iload_n 1, 1) := by decide +kernel
set_option maxRecDepth 100000 in
theorem d_B_coreAt_5 : decode prog_1_method_21_code 5 = .ok (.iconst 3, 1) := by decide +kernel
set_option maxRecDepth 100000 in
theorem d_B_coreAt_6 : decode prog_1_method_21_code 6 = .ok (.if_icmp .lt 13, 3) := by decide +kernel
set_option maxRecDepth 100000 in
theorem d_B_coreAt_9 : decode prog_1_method_21_code 9 = .ok (.new 227, 3) := by decide +kernel
set_option maxRecDepth 100000 in
theorem d_B_coreAt_12 : decode prog_1_method_21_code 12 = .ok (.dup, 1) := by decide +kernel
set_option maxRecDepth 100000 in
theorem d_B_coreAt_13 : decode prog_1_method_21_code 13 = .ok (.ldc 229, 2) := by decide +kernel
set_option maxRecDepth 100000 in
theorem d_B_coreAt_15 : decode prog_1_method_21_code 15 = .ok (.invokespecial 231, 3) := by decide +kernel
set_option maxRecDepth 100000 in
theorem d_B_coreAt_18 : decode prog_1_method_21_code 18 = .ok (.athrow, 1) := by decide +kernel
set_option maxRecDepth 100000 in
theorem d_B_coreAt_19 : decode prog_1_method_21_code 19 = .ok (.aload_n 0, 1) := by decide +kernel
set_option maxRecDepth 100000 in
theorem d_B_coreAt_20 : decode prog_1_method_21_code 20 = .ok (.getfield 24, 3) := by decide +kernel
set_option maxRecDepth 100000 in
theorem d_B_coreAt_23 : decode prog_1_method_21_code 23 = .ok (.iload_n 1, 1) := by decide +kernel
set_option maxRecDepth 100000 in
theorem d_B_coreAt_24 : decode prog_1_method_21_code 24 = .ok (.aaload, 1) := by decide +kernel
set_option maxRecDepth 100000 in
theorem d_B_coreAt_25 : decode prog_1_method_21_code 25 = .ok (.areturn, 1) := by decide +kernel
set_option maxRecDepth 100000 in
theorem d_B_isInstruction_0 : decode prog_1_method_26_code 0 = .ok (.iload_n 0, 1) := by decide +kernel
set_option maxRecDepth 100000 in
theorem d_B_isInstruction_1 : decode prog_1_method_26_code 1 = .ok (.tableswitch 97 0 7 #[47, 47, 95, 47, 47, 67, 72, 95], 47) := by decide +kernel
set_option maxRecDepth 100000 in
theorem d_B_isInstruction_48 : decode prog_1_method_26_code 48 = .ok (.iload_n 1, 1) := by decide +kernel
set_option maxRecDepth 100000 in
theorem d_B_isInstruction_49 : decode prog_1_method_26_code 49 = .ok (.invokestatic 186, 3) := by decide +kernel
set_option maxRecDepth 100000 in
theorem d_B_isInstruction_52 : decode prog_1_method_26_code 52 = .ok (.ifCond .eq 14, 3) := by decide +kernel
set_option maxRecDepth 100000 in
theorem d_B_isInstruction_55 : decode prog_1_method_26_code 55 = .ok (.iload_n 2, 1) := by decide +kernel
set_option maxRecDepth 100000 in
theorem d_B_isInstruction_56 : decode prog_1_method_26_code 56 = .ok (.invokestatic 186, 3) := by decide +kernel
set_option maxRecDepth 100000 in
theorem d_B_isInstruction_59 : decode prog_1_method_26_code 59 = .ok (.ifCond .eq 7, 3) := by decide +kernel
set_option maxRecDepth 100000 in
theorem d_B_isInstruction_62 : decode prog_1_method_26_code 62 = .ok (.iconst 1, 1) := by decide +kernel
set_option maxRecDepth 100000 in
theorem d_B_isInstruction_63 : decode prog_1_method_26_code 63 = .ok (.goto 4, 3) := by decide +kernel
set_option maxRecDepth 100000 in
theorem d_B_isInstruction_66 : decode prog_1_method_26_code 66 = .ok (.iconst 0, 1) := by decide +kernel
set_option maxRecDepth 100000 in
theorem d_B_isInstruction_67 : decode prog_1_method_26_code 67 = .ok (.ireturn, 1) := by decide +kernel
set_option maxRecDepth 100000 in
theorem d_B_isInstruction_68 : decode prog_1_method_26_code 68 = .ok (.iload_n 1, 1) := by decide +kernel
set_option maxRecDepth 100000 in
theorem d_B_isInstruction_69 : decode prog_1_method_26_code 69 = .ok (.invokestatic 186, 3) := by decide +kernel
set_option maxRecDepth 100000 in
theorem d_B_isInstruction_72 : decode prog_1_method_26_code 72 = .ok (.ireturn, 1) := by decide +kernel
set_option maxRecDepth 100000 in
theorem d_B_isInstruction_73 : decode prog_1_method_26_code 73 = .ok (.iload_n 1, 1) := by decide +kernel
set_option maxRecDepth 100000 in
theorem d_B_isInstruction_74 : decode prog_1_method_26_code 74 = .ok (.invokestatic 186, 3) := by decide +kernel
set_option maxRecDepth 100000 in
theorem d_B_isInstruction_77 : decode prog_1_method_26_code 77 = .ok (.ifCond .eq 17, 3) := by decide +kernel
set_option maxRecDepth 100000 in
theorem d_B_isInstruction_80 : decode prog_1_method_26_code 80 = .ok (.iload_n 2, 1) := by decide +kernel
set_option maxRecDepth 100000 in
theorem d_B_isInstruction_81 : decode prog_1_method_26_code 81 = .ok (.ifCond .lt 13, 3) := by decide +kernel
set_option maxRecDepth 100000 in
theorem d_B_isInstruction_84 : decode prog_1_method_26_code 84 = .ok (.iload_n 2, 1) := by decide +kernel
set_option maxRecDepth 100000 in
theorem d_B_isInstruction_85 : decode prog_1_method_26_code 85 = .ok (.bipush 16, 2) := by decide +kernel
set_option maxRecDepth 100000 in
theorem d_B_isInstruction_87 : decode prog_1_method_26_code 87 = .ok (.if_icmp .ge 7, 3) := by decide +kernel
set_option maxRecDepth 100000 in
theorem d_B_isInstruction_90 : decode prog_1_method_26_code 90 = .ok (.iconst 1, 1) := by decide +kernel
set_option maxRecDepth 100000 in
theorem d_B_isInstruction_91 : decode prog_1_method_26_code 91 = .ok (.goto 4, 3) := by decide +kernel
set_option maxRecDepth 100000 in
theorem d_B_isInstruction_94 : decode prog_1_method_26_code 94 = .ok (.iconst 0, 1) := by decide +kernel
set_option maxRecDepth 100000 in
theorem d_B_isInstruction_95 : decode prog_1_method_26_code 95 = .ok (.ireturn, 1) := by decide +kernel
set_option maxRecDepth 100000 in
theorem d_B_isInstruction_96 : decode prog_1_method_26_code 96 = .ok (.iconst 1, 1) := by decide +kernel
set_option maxRecDepth 100000 in
theorem d_B_isInstruction_97 : decode prog_1_method_26_code 97 = .ok (.ireturn, 1) := by decide +kernel
set_option maxRecDepth 100000 in
theorem d_B_isInstruction_98 : decode prog_1_method_26_code 98 = .ok (.iconst 0, 1) := by decide +kernel
set_option maxRecDepth 100000 in
theorem d_B_isInstruction_99 : decode prog_1_method_26_code 99 = .ok (.ireturn, 1) := by decide +kernel
set_option maxRecDepth 100000 in
theorem d_B_isRegister_0 : decode prog_1_method_25_code 0 = .ok (.iload_n 0, 1) := by decide +kernel
set_option maxRecDepth 100000 in
theorem d_B_isRegister_1 : decode prog_1_method_25_code 1 = .ok (.ifCond .lt 12, 3) := by decide +kernel
set_option maxRecDepth 100000 in
theorem d_B_isRegister_4 : decode prog_1_method_25_code 4 = .ok (.iload_n 0, 1) := by decide +kernel
set_option maxRecDepth 100000 in
theorem d_B_isRegister_5 : decode prog_1_method_25_code 5 = .ok (.iconst 4, 1) := by decide +kernel
set_option maxRecDepth 100000 in
theorem d_B_isRegister_6 : decode prog_1_method_25_code 6 = .ok (.if_icmp .ge 7, 3) := by decide +kernel
set_option maxRecDepth 100000 in
theorem d_B_isRegister_9 : decode prog_1_method_25_code 9 = .ok (.iconst 1, 1) := by decide +kernel
set_option maxRecDepth 100000 in
theorem d_B_isRegister_10 : decode prog_1_method_25_code 10 = .ok (.goto 4, 3) := by decide +kernel
set_option maxRecDepth 100000 in
theorem d_B_isRegister_13 : decode prog_1_method_25_code 13 = .ok (.iconst 0, 1) := by decide +kernel
set_option maxRecDepth 100000 in
theorem d_B_isRegister_14 : decode prog_1_method_25_code 14 = .ok (.ireturn, 1) := by decide +kernel
set_option maxRecDepth 100000 in
theorem d_Pr_append_0 : decode prog_5_method_2_code 0 = .ok (.aload_n 0, 1) := by decide +kernel
set_option maxRecDepth 100000 in
theorem d_Pr_append_1 : decode prog_5_method_2_code 1 = .ok (.getfield 9, 3) := by decide +kernel
set_option maxRecDepth 100000 in
theorem d_Pr_append_4 : decode prog_5_method_2_code 4 = .ok (.aload_n 0, 1) := by decide +kernel
set_option maxRecDepth 100000 in
theorem d_Pr_append_5 : decode prog_5_method_2_code 5 = .ok (.getfield 21, 3) := by decide +kernel
set_option maxRecDepth 100000 in
theorem d_Pr_append_8 : decode prog_5_method_2_code 8 = .ok (.iload_n 1, 1) := by decide +kernel
set_option maxRecDepth 100000 in
theorem d_Pr_append_9 : decode prog_5_method_2_code 9 = .ok (.iastore, 1) := by decide +kernel
set_option maxRecDepth 100000 in
theorem d_Pr_append_10 : decode prog_5_method_2_code 10 = .ok (.aload_n 0, 1) := by decide +kernel
set_option maxRecDepth 100000 in
theorem d_Pr_append_11 : decode prog_5_method_2_code 11 = .ok (.getfield 15, 3) := by decide +kernel
set_option maxRecDepth 100000 in
theorem d_Pr_append_14 : decode prog_5_method_2_code 14 = .ok (.aload_n 0, 1) := by decide +kernel
set_option maxRecDepth 100000 in
theorem d_Pr_append_15 : decode prog_5_method_2_code 15 = .ok (.getfield 21, 3) := by decide +kernel
set_option maxRecDepth 100000 in
theorem d_Pr_append_18 : decode prog_5_method_2_code 18 = .ok (.iload_n 2, 1) := by decide +kernel
set_option maxRecDepth 100000 in
theorem d_Pr_append_19 : decode prog_5_method_2_code 19 = .ok (.iastore, 1) := by decide +kernel
set_option maxRecDepth 100000 in
theorem d_Pr_append_20 : decode prog_5_method_2_code 20 = .ok (.aload_n 0, 1) := by decide +kernel
set_option maxRecDepth 100000 in
theorem d_Pr_append_21 : decode prog_5_method_2_code 21 = .ok (.getfield 18, 3) := by decide +kernel
set_option maxRecDepth 100000 in
theorem d_Pr_append_24 : decode prog_5_method_2_code 24 = .ok (.aload_n 0, 1) := by decide +kernel
set_option maxRecDepth 100000 in
theorem d_Pr_append_25 : decode prog_5_method_2_code 25 = .ok (.getfield 21, 3) := by decide +kernel
set_option maxRecDepth 100000 in
theorem d_Pr_append_28 : decode prog_5_method_2_code 28 = .ok (.iload_n 3, 1) := by decide +kernel
set_option maxRecDepth 100000 in
theorem d_Pr_append_29 : decode prog_5_method_2_code 29 = .ok (.iastore, 1) := by decide +kernel
set_option maxRecDepth 100000 in
theorem d_Pr_append_30 : decode prog_5_method_2_code 30 = .ok (.aload_n 0, 1) := by decide +kernel
set_option maxRecDepth 100000 in
theorem d_Pr_append_31 : decode prog_5_method_2_code 31 = .ok (.dup, 1) := by decide +kernel
set_option maxRecDepth 100000 in
theorem d_Pr_append_32 : decode prog_5_method_2_code 32 = .ok (.getfield 21, 3) := by decide +kernel
set_option maxRecDepth 100000 in
theorem d_Pr_append_35 : decode prog_5_method_2_code 35 = .ok (.iconst 1, 1) := by decide +kernel
set_option maxRecDepth 100000 in
theorem d_Pr_append_36 : decode prog_5_method_2_code 36 = .ok (.iadd, 1) := by decide +kernel
set_option maxRecDepth 100000 in
theorem d_Pr_append_37 : decode prog_5_method_2_code 37 = .ok (.putfield 21, 3) := by decide +kernel
set_option maxRecDepth 100000 in
theorem d_Pr_append_40 : decode prog_5_method_2_code 40 = .ok (.return_, 1) := by decide +kernel
set_option maxRecDepth 100000 in
theorem d_B_poke_0 : decode prog_1_method_3_code 0 = .ok (.iload_n 1, 1) := by decide +kernel
set_option maxRecDepth 100000 in
theorem d_B_poke_1 : decode prog_1_method_3_code 1 = .ok (.invokestatic 72, 3) := by decide +kernel
set_option maxRecDepth 100000 in
theorem d_B_poke_4 : decode prog_1_method_3_code 4 = .ok (.aload_n 0, 1) := by decide +kernel
set_option maxRecDepth 100000 in
theorem d_B_poke_5 : decode prog_1_method_3_code 5 = .ok (.iload_n 1, 1) := by decide +kernel
set_option maxRecDepth 100000 in
theorem d_B_poke_6 : decode prog_1_method_3_code 6 = .ok (.invokevirtual 76, 3) := by decide +kernel
set_option maxRecDepth 100000 in
theorem d_B_poke_9 : decode prog_1_method_3_code 9 = .ok (.ifCond .eq 13, 3) := by decide +kernel
set_option maxRecDepth 100000 in
theorem d_B_poke_12 : decode prog_1_method_3_code 12 = .ok (.new 63, 3) := by decide +kernel
set_option maxRecDepth 100000 in
theorem d_B_poke_15 : decode prog_1_method_3_code 15 = .ok (.dup, 1) := by decide +kernel
set_option maxRecDepth 100000 in
theorem d_B_poke_16 : decode prog_1_method_3_code 16 = .ok (.ldc 80, 2) := by decide +kernel
set_option maxRecDepth 100000 in
theorem d_B_poke_18 : decode prog_1_method_3_code 18 = .ok (.invokespecial 67, 3) := by decide +kernel
set_option maxRecDepth 100000 in
theorem d_B_poke_21 : decode prog_1_method_3_code 21 = .ok (.athrow, 1) := by decide +kernel
set_option maxRecDepth 100000 in
theorem d_B_poke_22 : decode prog_1_method_3_code 22 = .ok (.aload_n 0, 1) := by decide +kernel
set_option maxRecDepth 100000 in
theorem d_B_poke_23 : decode prog_1_method_3_code 23 = .ok (.getfield 18, 3) := by decide +kernel
set_option maxRecDepth 100000 in
theorem d_B_poke_26 : decode prog_1_method_3_code 26 = .ok (.iload_n 1, 1) := by decide +kernel
set_option maxRecDepth 100000 in
theorem d_B_poke_27 : decode prog_1_method_3_code 27 = .ok (.iload_n 2, 1) := by decide +kernel
set_option maxRecDepth 100000 in
theorem d_B_poke_28 : decode prog_1_method_3_code 28 = .ok (.iastore, 1) := by decide +kernel
set_option maxRecDepth 100000 in
theorem d_B_poke_29 : decode prog_1_method_3_code 29 = .ok (.return_, 1) := by decide +kernel
set_option maxRecDepth 100000 in
theorem d_B_requireAddress_0 : decode prog_1_method_22_code 0 = .ok (.iload_n 0, 1) := by decide +kernel
set_option maxRecDepth 100000 in
theorem d_B_requireAddress_1 : decode prog_1_method_22_code 1 = .ok (.ifCond .lt 9, 3) := by decide +kernel
set_option maxRecDepth 100000 in
theorem d_B_requireAddress_4 : decode prog_1_method_22_code 4 = .ok (.iload_n 0, 1) := by decide +kernel
set_option maxRecDepth 100000 in
theorem d_B_requireAddress_5 : decode prog_1_method_22_code 5 = .ok (.bipush 8, 2) := by decide +kernel
set_option maxRecDepth 100000 in
theorem d_B_requireAddress_7 : decode prog_1_method_22_code 7 = .ok (.if_icmp .lt 13, 3) := by decide +kernel
set_option maxRecDepth 100000 in
theorem d_B_requireAddress_10 : decode prog_1_method_22_code 10 = .ok (.new 50, 3) := by decide +kernel
set_option maxRecDepth 100000 in
theorem d_B_requireAddress_13 : decode prog_1_method_22_code 13 = .ok (.dup, 1) := by decide +kernel
set_option maxRecDepth 100000 in
theorem d_B_requireAddress_14 : decode prog_1_method_22_code 14 = .ok (.ldc 232, 2) := by decide +kernel
set_option maxRecDepth 100000 in
theorem d_B_requireAddress_16 : decode prog_1_method_22_code 16 = .ok (.invokespecial 54, 3) := by decide +kernel
set_option maxRecDepth 100000 in
theorem d_B_requireAddress_19 : decode prog_1_method_22_code 19 = .ok (.athrow, 1) := by decide +kernel
set_option maxRecDepth 100000 in
theorem d_B_requireAddress_20 : decode prog_1_method_22_code 20 = .ok (.return_, 1) := by decide +kernel
set_option maxRecDepth 100000 in
theorem d_B_isInUse_0 : decode prog_1_method_34_code 0 = .ok (.iconst 0, 1) := by decide +kernel
set_option maxRecDepth 100000 in
theorem d_B_isInUse_1 : decode prog_1_method_34_code 1 = .ok (.istore_n 2, 1) := by decide +kernel
set_option maxRecDepth 100000 in
theorem d_B_isInUse_2 : decode prog_1_method_34_code 2 = .ok (.iload_n 2, 1) := by decide +kernel
set_option maxRecDepth 100000 in
theorem d_B_isInUse_3 : decode prog_1_method_34_code 3 = .ok (.iconst 3, 1) := by decide +kernel
set_option maxRecDepth 100000 in
theorem d_B_isInUse_4 : decode prog_1_method_34_code 4 = .ok (.if_icmp .ge 44, 3) := by decide +kernel
set_option maxRecDepth 100000 in
theorem d_B_isInUse_7 : decode prog_1_method_34_code 7 = .ok (.aload_n 0, 1) := by decide +kernel
set_option maxRecDepth 100000 in
theorem d_B_isInUse_8 : decode prog_1_method_34_code 8 = .ok (.getfield 24, 3) := by decide +kernel
set_option maxRecDepth 100000 in
theorem d_B_isInUse_11 : decode prog_1_method_34_code 11 = .ok (.iload_n 2, 1) := by decide +kernel
set_option maxRecDepth 100000 in
theorem d_B_isInUse_12 : decode prog_1_method_34_code 12 = .ok (.aaload, 1) := by decide +kernel
set_option maxRecDepth 100000 in
theorem d_B_isInUse_13 : decode prog_1_method_34_code 13 = .ok (.iload_n 1, 1) := by decide +kernel
set_option maxRecDepth 100000 in
theorem d_B_isInUse_14 : decode prog_1_method_34_code 14 = .ok (.invokevirtual 110, 3) := by decide +kernel
set_option maxRecDepth 100000 in
theorem d_B_isInUse_17 : decode prog_1_method_34_code 17 = .ok (.iload_n 1, 1) := by decide +kernel
set_option maxRecDepth 100000 in
theorem d_B_isInUse_18 : decode prog_1_method_34_code 18 = .ok (.invokevirtual 208, 3) := by decide +kernel
set_option maxRecDepth 100000 in
theorem d_B_isInUse_21 : decode prog_1_method_34_code 21 = .ok (.ifCond .ne 19, 3) := by decide +kernel
set_option maxRecDepth 100000 in
theorem d_B_isInUse_24 : decode prog_1_method_34_code 24 = .ok (.aload_n 0, 1) := by decide +kernel
set_option maxRecDepth 100000 in
theorem d_B_isInUse_25 : decode prog_1_method_34_code 25 = .ok (.getfield 24, 3) := by decide +kernel
set_option maxRecDepth 100000 in
theorem d_B_isInUse_28 : decode prog_1_method_34_code 28 = .ok (.iload_n 2, 1) := by decide +kernel
set_option maxRecDepth 100000 in
theorem d_B_isInUse_29 : decode prog_1_method_34_code 29 = .ok (.aaload, 1) := by decide +kernel
set_option maxRecDepth 100000 in
theorem d_B_isInUse_30 : decode prog_1_method_34_code 30 = .ok (.getfield 139, 3) := by decide +kernel
set_option maxRecDepth 100000 in
theorem d_B_isInUse_33 : decode prog_1_method_34_code 33 = .ok (.iload_n 1, 1) := by decide +kernel
set_option maxRecDepth 100000 in
theorem d_B_isInUse_34 : decode prog_1_method_34_code 34 = .ok (.invokevirtual 266, 3) := by decide +kernel
set_option maxRecDepth 100000 in
theorem d_B_isInUse_37 : decode prog_1_method_34_code 37 = .ok (.ifCond .eq 5, 3) := by decide +kernel
set_option maxRecDepth 100000 in
theorem d_B_isInUse_40 : decode prog_1_method_34_code 40 = .ok (.iconst 1, 1) := by decide +kernel
set_option maxRecDepth 100000 in
theorem d_B_isInUse_41 : decode prog_1_method_34_code 41 = .ok (.ireturn, 1) := by decide +kernel
set_option maxRecDepth 100000 in
theorem d_B_isInUse_42 : decode prog_1_method_34_code 42 = .ok (.iinc 2 1, 3) := by decide +kernel
set_option maxRecDepth 100000 in
theorem d_B_isInUse_45 : decode prog_1_method_34_code 45 = .ok (.goto (-43), 3) := by decide +kernel
set_option maxRecDepth 100000 in
theorem d_B_isInUse_48 : decode prog_1_method_34_code 48 = .ok (.iconst 0, 1) := by decide +kernel
set_option maxRecDepth 100000 in
theorem d_B_isInUse_49 : decode prog_1_method_34_code 49 = .ok (.ireturn, 1) := by decide +kernel
set_option maxRecDepth 100000 in
theorem d_Co_lineFor_0 : decode prog_2_method_2_code 0 = .ok (.aload_n 0, 1) := by decide +kernel
set_option maxRecDepth 100000 in
theorem d_Co_lineFor_1 : decode prog_2_method_2_code 1 = .ok (.getfield 24, 3) := by decide +kernel
set_option maxRecDepth 100000 in
theorem d_Co_lineFor_4 : decode prog_2_method_2_code 4 = .ok (.iload_n 1, 1) := by decide +kernel
set_option maxRecDepth 100000 in
theorem d_Co_lineFor_5 : decode prog_2_method_2_code 5 = .ok (.iconst 1, 1) := by decide +kernel
set_option maxRecDepth 100000 in
theorem d_Co_lineFor_6 : decode prog_2_method_2_code 6 = .ok (.iand, 1) := by decide +kernel
set_option maxRecDepth 100000 in
theorem d_Co_lineFor_7 : decode prog_2_method_2_code 7 = .ok (.aaload, 1) := by decide +kernel
set_option maxRecDepth 100000 in
theorem d_Co_lineFor_8 : decode prog_2_method_2_code 8 = .ok (.areturn, 1) := by decide +kernel
set_option maxRecDepth 100000 in
theorem d_Li_has_0 : decode prog_3_method_2_code 0 = .ok (.aload_n 0, 1) := by decide +kernel
set_option maxRecDepth 100000 in
theorem d_Li_has_1 : decode prog_3_method_2_code 1 = .ok (.getfield 9, 3) := by decide +kernel
set_option maxRecDepth 100000 in
theorem d_Li_has_4 : decode prog_3_method_2_code 4 = .ok (.ifCond .eq 15, 3) := by decide +kernel
set_option maxRecDepth 100000 in
theorem d_Li_has_7 : decode prog_3_method_2_code 7 = .ok (.aload_n 0, 1) := by decide +kernel
set_option maxRecDepth 100000 in
theorem d_Li_has_8 : decode prog_3_method_2_code 8 = .ok (.getfield 15, 3) := by decide +kernel
set_option maxRecDepth 100000 in
theorem d_Li_has_11 : decode prog_3_method_2_code 11 = .ok (.iload_n 1, 1) := by decide +kernel
set_option maxRecDepth 100000 in
theorem d_Li_has_12 : decode prog_3_method_2_code 12 = .ok (.if_icmp .ne 7, 3) := by decide +kernel
set_option maxRecDepth 100000 in
theorem d_Li_has_15 : decode prog_3_method_2_code 15 = .ok (.iconst 1, 1) := by decide +kernel
set_option maxRecDepth 100000 in
theorem d_Li_has_16 : decode prog_3_method_2_code 16 = .ok (.goto 4, 3) := by decide +kernel
set_option maxRecDepth 100000 in
theorem d_Li_has_19 : decode prog_3_method_2_code 19 = .ok (.iconst 0, 1) := by decide +kernel
set_option maxRecDepth 100000 in
theorem d_Li_has_20 : decode prog_3_method_2_code 20 = .ok (.ireturn, 1) := by decide +kernel
set_option maxRecDepth 100000 in
theorem d_Rq_fliesFor_0 : decode prog_6_method_2_code 0 = .ok (.aload_n 0, 1) := by decide +kernel
set_option maxRecDepth 100000 in
theorem d_Rq_fliesFor_1 : decode prog_6_method_2_code 1 = .ok (.getfield 9, 3) := by decide +kernel
set_option maxRecDepth 100000 in
theorem d_Rq_fliesFor_4 : decode prog_6_method_2_code 4 = .ok (.ifCond .eq 15, 3) := by decide +kernel
set_option maxRecDepth 100000 in
theorem d_Rq_fliesFor_7 : decode prog_6_method_2_code 7 = .ok (.aload_n 0, 1) := by decide +kernel
set_option maxRecDepth 100000 in
theorem d_Rq_fliesFor_8 : decode prog_6_method_2_code 8 = .ok (.getfield 15, 3) := by decide +kernel
set_option maxRecDepth 100000 in
theorem d_Rq_fliesFor_11 : decode prog_6_method_2_code 11 = .ok (.iload_n 1, 1) := by decide +kernel
set_option maxRecDepth 100000 in
theorem d_Rq_fliesFor_12 : decode prog_6_method_2_code 12 = .ok (.if_icmp .ne 7, 3) := by decide +kernel
set_option maxRecDepth 100000 in
theorem d_Rq_fliesFor_15 : decode prog_6_method_2_code 15 = .ok (.iconst 1, 1) := by decide +kernel
set_option maxRecDepth 100000 in
theorem d_Rq_fliesFor_16 : decode prog_6_method_2_code 16 = .ok (.goto 4, 3) := by decide +kernel
set_option maxRecDepth 100000 in
theorem d_Rq_fliesFor_19 : decode prog_6_method_2_code 19 = .ok (.iconst 0, 1) := by decide +kernel
set_option maxRecDepth 100000 in
theorem d_Rq_fliesFor_20 : decode prog_6_method_2_code 20 = .ok (.ireturn, 1) := by decide +kernel
set_option maxRecDepth 100000 in
theorem d_B_step_0 : decode prog_1_method_4_code 0 = .ok (.aload_n 0, 1) := by decide +kernel
set_option maxRecDepth 100000 in
theorem d_B_step_1 : decode prog_1_method_4_code 1 = .ok (.iload_n 1, 1) := by decide +kernel
set_option maxRecDepth 100000 in
theorem d_B_step_2 : decode prog_1_method_4_code 2 = .ok (.invokevirtual 38, 3) := by decide +kernel
set_option maxRecDepth 100000 in
theorem d_B_step_5 : decode prog_1_method_4_code 5 = .ok (.astore_n 2, 1) := by decide +kernel
set_option maxRecDepth 100000 in
theorem d_B_step_6 : decode prog_1_method_4_code 6 = .ok (.aload_n 2, 1) := by decide +kernel
set_option maxRecDepth 100000 in
theorem d_B_step_7 : decode prog_1_method_4_code 7 = .ok (.getfield 42, 3) := by decide +kernel
set_option maxRecDepth 100000 in
theorem d_B_step_10 : decode prog_1_method_4_code 10 = .ok (.astore_n 3, 1) := by decide +kernel
set_option maxRecDepth 100000 in
theorem d_B_step_11 : decode prog_1_method_4_code 11 = .ok (.aload_n 2, 1) := by decide +kernel
set_option maxRecDepth 100000 in
theorem d_B_step_12 : decode prog_1_method_4_code 12 = .ok (.getfield 82, 3) := by decide +kernel
set_option maxRecDepth 100000 in
theorem d_B_step_15 : decode prog_1_method_4_code 15 = .ok (.istore 4, 2) := by decide +kernel
set_option maxRecDepth 100000 in
theorem d_B_step_17 : decode prog_1_method_4_code 17 = .ok (.iload 4, 2) := by decide +kernel
set_option maxRecDepth 100000 in
theorem d_B_step_19 : decode prog_1_method_4_code 19 = .ok (.aload_n 3, 1) := by decide +kernel
set_option maxRecDepth 100000 in
theorem d_B_step_20 : decode prog_1_method_4_code 20 = .ok (.getfield 57, 3) := by decide +kernel
set_option maxRecDepth 100000 in
theorem d_B_step_23 : decode prog_1_method_4_code 23 = .ok (.if_icmp .lt 5, 3) := by decide +kernel
set_option maxRecDepth 100000 in
theorem d_B_step_26 : decode prog_1_method_4_code 26 = .ok (.iconst 2, 1) := by decide +kernel
set_option maxRecDepth 100000 in
theorem d_B_step_27 : decode prog_1_method_4_code 27 = .ok (.ireturn, 1) := by decide +kernel
set_option maxRecDepth 100000 in
theorem d_B_step_28 : decode prog_1_method_4_code 28 = .ok (.aload_n 0, 1) := by decide +kernel
set_option maxRecDepth 100000 in
theorem d_B_step_29 : decode prog_1_method_4_code 29 = .ok (.aload_n 2, 1) := by decide +kernel
set_option maxRecDepth 100000 in
theorem d_B_step_30 : decode prog_1_method_4_code 30 = .ok (.aload_n 3, 1) := by decide +kernel
set_option maxRecDepth 100000 in
theorem d_B_step_31 : decode prog_1_method_4_code 31 = .ok (.getfield 85, 3) := by decide +kernel
set_option maxRecDepth 100000 in
theorem d_B_step_34 : decode prog_1_method_4_code 34 = .ok (.iload 4, 2) := by decide +kernel
set_option maxRecDepth 100000 in
theorem d_B_step_36 : decode prog_1_method_4_code 36 = .ok (.iaload, 1) := by decide +kernel
set_option maxRecDepth 100000 in
theorem d_B_step_37 : decode prog_1_method_4_code 37 = .ok (.aload_n 3, 1) := by decide +kernel
set_option maxRecDepth 100000 in
theorem d_B_step_38 : decode prog_1_method_4_code 38 = .ok (.getfield 88, 3) := by decide +kernel
set_option maxRecDepth 100000 in
theorem d_B_step_41 : decode prog_1_method_4_code 41 = .ok (.iload 4, 2) := by decide +kernel
set_option maxRecDepth 100000 in
theorem d_B_step_43 : decode prog_1_method_4_code 43 = .ok (.iaload, 1) := by decide +kernel
set_option maxRecDepth 100000 in
theorem d_B_step_44 : decode prog_1_method_4_code 44 = .ok (.aload_n 3, 1) := by decide +kernel
set_option maxRecDepth 100000 in
theorem d_B_step_45 : decode prog_1_method_4_code 45 = .ok (.getfield 91, 3) := by decide +kernel
set_option maxRecDepth 100000 in
theorem d_B_step_48 : decode prog_1_method_4_code 48 = .ok (.iload 4, 2) := by decide +kernel
set_option maxRecDepth 100000 in
theorem d_B_step_50 : decode prog_1_method_4_code 50 = .ok (.iaload, 1) := by decide +kernel
set_option maxRecDepth 100000 in
theorem d_B_step_51 : decode prog_1_method_4_code 51 = .ok (.invokevirtual 94, 3) := by decide +kernel
set_option maxRecDepth 100000 in
theorem d_B_step_54 : decode prog_1_method_4_code 54 = .ok (.ireturn, 1) := by decide +kernel
set_option maxRecDepth 100000 in
theorem d_B_execute_0 : decode prog_1_method_27_code 0 = .ok (.aload_n 1, 1) := by decide +kernel
set_option maxRecDepth 100000 in
theorem d_B_execute_1 : decode prog_1_method_27_code 1 = .ok (.getfield 191, 3) := by decide +kernel
set_option maxRecDepth 100000 in
theorem d_B_execute_4 : decode prog_1_method_27_code 4 = .ok (.astore 5, 2) := by decide +kernel
set_option maxRecDepth 100000 in
theorem d_B_execute_6 : decode prog_1_method_27_code 6 = .ok (.iload_n 2, 1) := by decide +kernel
set_option maxRecDepth 100000 in
theorem d_B_execute_7 : decode prog_1_method_27_code 7 = .ok (.tableswitch 179 0 6 #[41, 56, 73, 98, 116, 139, 156], 41) := by decide +kernel
set_option maxRecDepth 100000 in
theorem d_B_execute_48 : decode prog_1_method_27_code 48 = .ok (.aload_n 0, 1) := by decide +kernel
set_option maxRecDepth 100000 in
theorem d_B_execute_49 : decode prog_1_method_27_code 49 = .ok (.aload_n 1, 1) := by decide +kernel
set_option maxRecDepth 100000 in
theorem d_B_execute_50 : decode prog_1_method_27_code 50 = .ok (.iload_n 3, 1) := by decide +kernel
set_option maxRecDepth 100000 in
theorem d_B_execute_51 : decode prog_1_method_27_code 51 = .ok (.aload 5, 2) := by decide +kernel
set_option maxRecDepth 100000 in
theorem d_B_execute_53 : decode prog_1_method_27_code 53 = .ok (.iload 4, 2) := by decide +kernel
set_option maxRecDepth 100000 in
theorem d_B_execute_55 : decode prog_1_method_27_code 55 = .ok (.iaload, 1) := by decide +kernel
set_option maxRecDepth 100000 in
theorem d_B_execute_56 : decode prog_1_method_27_code 56 = .ok (.bipush 7, 2) := by decide +kernel
set_option maxRecDepth 100000 in
theorem d_B_execute_58 : decode prog_1_method_27_code 58 = .ok (.iand, 1) := by decide +kernel
set_option maxRecDepth 100000 in
theorem d_B_execute_59 : decode prog_1_method_27_code 59 = .ok (.invokevirtual 241, 3) := by decide +kernel
set_option maxRecDepth 100000 in
theorem d_B_execute_62 : decode prog_1_method_27_code 62 = .ok (.ireturn, 1) := by decide +kernel
set_option maxRecDepth 100000 in
theorem d_B_execute_63 : decode prog_1_method_27_code 63 = .ok (.aload_n 1, 1) := by decide +kernel
set_option maxRecDepth 100000 in
theorem d_B_execute_64 : decode prog_1_method_27_code 64 = .ok (.aload 5, 2) := by decide +kernel
set_option maxRecDepth 100000 in
theorem d_B_execute_66 : decode prog_1_method_27_code 66 = .ok (.iload_n 3, 1) := by decide +kernel
set_option maxRecDepth 100000 in
theorem d_B_execute_67 : decode prog_1_method_27_code 67 = .ok (.iaload, 1) := by decide +kernel
set_option maxRecDepth 100000 in
theorem d_B_execute_68 : decode prog_1_method_27_code 68 = .ok (.bipush 7, 2) := by decide +kernel
set_option maxRecDepth 100000 in
theorem d_B_execute_70 : decode prog_1_method_27_code 70 = .ok (.iand, 1) := by decide +kernel
set_option maxRecDepth 100000 in
theorem d_B_execute_71 : decode prog_1_method_27_code 71 = .ok (.aload 5, 2) := by decide +kernel
set_option maxRecDepth 100000 in
theorem d_B_execute_73 : decode prog_1_method_27_code 73 = .ok (.iload 4, 2) := by decide +kernel
set_option maxRecDepth 100000 in
theorem d_B_execute_75 : decode prog_1_method_27_code 75 = .ok (.iaload, 1) := by decide +kernel
set_option maxRecDepth 100000 in
theorem d_B_execute_76 : decode prog_1_method_27_code 76 = .ok (.invokestatic 244, 3) := by decide +kernel
set_option maxRecDepth 100000 in
theorem d_B_execute_79 : decode prog_1_method_27_code 79 = .ok (.ireturn, 1) := by decide +kernel
set_option maxRecDepth 100000 in
theorem d_B_execute_80 : decode prog_1_method_27_code 80 = .ok (.aload_n 1, 1) := by decide +kernel
set_option maxRecDepth 100000 in
theorem d_B_execute_81 : decode prog_1_method_27_code 81 = .ok (.getfield 98, 3) := by decide +kernel
set_option maxRecDepth 100000 in
theorem d_B_execute_84 : decode prog_1_method_27_code 84 = .ok (.getfield 102, 3) := by decide +kernel
set_option maxRecDepth 100000 in
theorem d_B_execute_87 : decode prog_1_method_27_code 87 = .ok (.ifCond .ne 16, 3) := by decide +kernel
set_option maxRecDepth 100000 in
theorem d_B_execute_90 : decode prog_1_method_27_code 90 = .ok (.aload_n 1, 1) := by decide +kernel
set_option maxRecDepth 100000 in
theorem d_B_execute_91 : decode prog_1_method_27_code 91 = .ok (.aload_n 1, 1) := by decide +kernel
set_option maxRecDepth 100000 in
theorem d_B_execute_92 : decode prog_1_method_27_code 92 = .ok (.getfield 82, 3) := by decide +kernel
set_option maxRecDepth 100000 in
theorem d_B_execute_95 : decode prog_1_method_27_code 95 = .ok (.iconst 1, 1) := by decide +kernel
set_option maxRecDepth 100000 in
theorem d_B_execute_96 : decode prog_1_method_27_code 96 = .ok (.iadd, 1) := by decide +kernel
set_option maxRecDepth 100000 in
theorem d_B_execute_97 : decode prog_1_method_27_code 97 = .ok (.invokestatic 247, 3) := by decide +kernel
set_option maxRecDepth 100000 in
theorem d_B_execute_100 : decode prog_1_method_27_code 100 = .ok (.goto 4, 3) := by decide +kernel
set_option maxRecDepth 100000 in
theorem d_B_execute_103 : decode prog_1_method_27_code 103 = .ok (.iconst 0, 1) := by decide +kernel
set_option maxRecDepth 100000 in
theorem d_B_execute_104 : decode prog_1_method_27_code 104 = .ok (.ireturn, 1) := by decide +kernel
set_option maxRecDepth 100000 in
theorem d_B_execute_105 : decode prog_1_method_27_code 105 = .ok (.aload_n 0, 1) := by decide +kernel
set_option maxRecDepth 100000 in
theorem d_B_execute_106 : decode prog_1_method_27_code 106 = .ok (.aload_n 1, 1) := by decide +kernel
set_option maxRecDepth 100000 in
theorem d_B_execute_107 : decode prog_1_method_27_code 107 = .ok (.aload 5, 2) := by decide +kernel
set_option maxRecDepth 100000 in
theorem d_B_execute_109 : decode prog_1_method_27_code 109 = .ok (.iload_n 3, 1) := by decide +kernel
set_option maxRecDepth 100000 in
theorem d_B_execute_110 : decode prog_1_method_27_code 110 = .ok (.iaload, 1) := by decide +kernel
set_option maxRecDepth 100000 in
theorem d_B_execute_111 : decode prog_1_method_27_code 111 = .ok (.bipush 7, 2) := by decide +kernel
set_option maxRecDepth 100000 in
theorem d_B_execute_113 : decode prog_1_method_27_code 113 = .ok (.iand, 1) := by decide +kernel
set_option maxRecDepth 100000 in
theorem d_B_execute_114 : decode prog_1_method_27_code 114 = .ok (.aload 5, 2) := by decide +kernel
set_option maxRecDepth 100000 in
theorem d_B_execute_116 : decode prog_1_method_27_code 116 = .ok (.iload 4, 2) := by decide +kernel
set_option maxRecDepth 100000 in
theorem d_B_execute_118 : decode prog_1_method_27_code 118 = .ok (.iaload, 1) := by decide +kernel
set_option maxRecDepth 100000 in
theorem d_B_execute_119 : decode prog_1_method_27_code 119 = .ok (.invokevirtual 251, 3) := by decide +kernel
set_option maxRecDepth 100000 in
theorem d_B_execute_122 : decode prog_1_method_27_code 122 = .ok (.ireturn, 1) := by decide +kernel
set_option maxRecDepth 100000 in
theorem d_B_execute_123 : decode prog_1_method_27_code 123 = .ok (.aload 5, 2) := by decide +kernel
set_option maxRecDepth 100000 in
theorem d_B_execute_125 : decode prog_1_method_27_code 125 = .ok (.iload_n 3, 1) := by decide +kernel
set_option maxRecDepth 100000 in
theorem d_B_execute_126 : decode prog_1_method_27_code 126 = .ok (.dup2, 1) := by decide +kernel
set_option maxRecDepth 100000 in
theorem d_B_execute_127 : decode prog_1_method_27_code 127 = .ok (.iaload, 1) := by decide +kernel
set_option maxRecDepth 100000 in
theorem d_B_execute_128 : decode prog_1_method_27_code 128 = .ok (.aload 5, 2) := by decide +kernel
set_option maxRecDepth 100000 in
theorem d_B_execute_130 : decode prog_1_method_27_code 130 = .ok (.iload 4, 2) := by decide +kernel
set_option maxRecDepth 100000 in
theorem d_B_execute_132 : decode prog_1_method_27_code 132 = .ok (.iaload, 1) := by decide +kernel
set_option maxRecDepth 100000 in
theorem d_B_execute_133 : decode prog_1_method_27_code 133 = .ok (.iadd, 1) := by decide +kernel
set_option maxRecDepth 100000 in
theorem d_B_execute_134 : decode prog_1_method_27_code 134 = .ok (.iastore, 1) := by decide +kernel
set_option maxRecDepth 100000 in
theorem d_B_execute_135 : decode prog_1_method_27_code 135 = .ok (.aload_n 1, 1) := by decide +kernel
set_option maxRecDepth 100000 in
theorem d_B_execute_136 : decode prog_1_method_27_code 136 = .ok (.aload_n 1, 1) := by decide +kernel
set_option maxRecDepth 100000 in
theorem d_B_execute_137 : decode prog_1_method_27_code 137 = .ok (.getfield 82, 3) := by decide +kernel
set_option maxRecDepth 100000 in
theorem d_B_execute_140 : decode prog_1_method_27_code 140 = .ok (.iconst 1, 1) := by decide +kernel
set_option maxRecDepth 100000 in
theorem d_B_execute_141 : decode prog_1_method_27_code 141 = .ok (.iadd, 1) := by decide +kernel
set_option maxRecDepth 100000 in
theorem d_B_execute_142 : decode prog_1_method_27_code 142 = .ok (.invokestatic 247, 3) := by decide +kernel
set_option maxRecDepth 100000 in
theorem d_B_execute_145 : decode prog_1_method_27_code 145 = .ok (.ireturn, 1) := by decide +kernel
set_option maxRecDepth 100000 in
theorem d_B_execute_146 : decode prog_1_method_27_code 146 = .ok (.aload 5, 2) := by decide +kernel
set_option maxRecDepth 100000 in
theorem d_B_execute_148 : decode prog_1_method_27_code 148 = .ok (.iload_n 3, 1) := by decide +kernel
set_option maxRecDepth 100000 in
theorem d_B_execute_149 : decode prog_1_method_27_code 149 = .ok (.iload 4, 2) := by decide +kernel
set_option maxRecDepth 100000 in
theorem d_B_execute_151 : decode prog_1_method_27_code 151 = .ok (.iastore, 1) := by decide +kernel
set_option maxRecDepth 100000 in
theorem d_B_execute_152 : decode prog_1_method_27_code 152 = .ok (.aload_n 1, 1) := by decide +kernel
set_option maxRecDepth 100000 in
theorem d_B_execute_153 : decode prog_1_method_27_code 153 = .ok (.aload_n 1, 1) := by decide +kernel
set_option maxRecDepth 100000 in
theorem d_B_execute_154 : decode prog_1_method_27_code 154 = .ok (.getfield 82, 3) := by decide +kernel
set_option maxRecDepth 100000 in
theorem d_B_execute_157 : decode prog_1_method_27_code 157 = .ok (.iconst 1, 1) := by decide +kernel
set_option maxRecDepth 100000 in
theorem d_B_execute_158 : decode prog_1_method_27_code 158 = .ok (.iadd, 1) := by decide +kernel
set_option maxRecDepth 100000 in
theorem d_B_execute_159 : decode prog_1_method_27_code 159 = .ok (.invokestatic 247, 3) := by decide +kernel
set_option maxRecDepth 100000 in
theorem d_B_execute_162 : decode prog_1_method_27_code 162 = .ok (.ireturn, 1) := by decide +kernel
set_option maxRecDepth 100000 in
theorem d_B_execute_163 : decode prog_1_method_27_code 163 = .ok (.aload_n 1, 1) := by decide +kernel
set_option maxRecDepth 100000 in
theorem d_B_execute_164 : decode prog_1_method_27_code 164 = .ok (.aload 5, 2) := by decide +kernel
set_option maxRecDepth 100000 in
theorem d_B_execute_166 : decode prog_1_method_27_code 166 = .ok (.iload_n 3, 1) := by decide +kernel
set_option maxRecDepth 100000 in
theorem d_B_execute_167 : decode prog_1_method_27_code 167 = .ok (.iaload, 1) := by decide +kernel
set_option maxRecDepth 100000 in
theorem d_B_execute_168 : decode prog_1_method_27_code 168 = .ok (.ifCond .eq 8, 3) := by decide +kernel
set_option maxRecDepth 100000 in
theorem d_B_execute_171 : decode prog_1_method_27_code 171 = .ok (.iload 4, 2) := by decide +kernel
set_option maxRecDepth 100000 in
theorem d_B_execute_173 : decode prog_1_method_27_code 173 = .ok (.goto 9, 3) := by decide +kernel
set_option maxRecDepth 100000 in
theorem d_B_execute_176 : decode prog_1_method_27_code 176 = .ok (.aload_n 1, 1) := by decide +kernel
set_option maxRecDepth 100000 in
theorem d_B_execute_177 : decode prog_1_method_27_code 177 = .ok (.getfield 82, 3) := by decide +kernel
set_option maxRecDepth 100000 in
theorem d_B_execute_180 : decode prog_1_method_27_code 180 = .ok (.iconst 1, 1) := by decide +kernel
set_option maxRecDepth 100000 in
theorem d_B_execute_181 : decode prog_1_method_27_code 181 = .ok (.iadd, 1) := by decide +kernel
set_option maxRecDepth 100000 in
theorem d_B_execute_182 : decode prog_1_method_27_code 182 = .ok (.invokestatic 247, 3) := by decide +kernel
set_option maxRecDepth 100000 in
theorem d_B_execute_185 : decode prog_1_method_27_code 185 = .ok (.ireturn, 1) := by decide +kernel
set_option maxRecDepth 100000 in
theorem d_B_execute_186 : decode prog_1_method_27_code 186 = .ok (.iconst 2, 1) := by decide +kernel
set_option maxRecDepth 100000 in
theorem d_B_execute_187 : decode prog_1_method_27_code 187 = .ok (.ireturn, 1) := by decide +kernel
set_option maxRecDepth 100000 in
theorem d_B_executeLoad_0 : decode prog_1_method_28_code 0 = .ok (.aload_n 1, 1) := by decide +kernel
set_option maxRecDepth 100000 in
theorem d_B_executeLoad_1 : decode prog_1_method_28_code 1 = .ok (.getfield 98, 3) := by decide +kernel
set_option maxRecDepth 100000 in
theorem d_B_executeLoad_4 : decode prog_1_method_28_code 4 = .ok (.iload_n 3, 1) := by decide +kernel
set_option maxRecDepth 100000 in
theorem d_B_executeLoad_5 : decode prog_1_method_28_code 5 = .ok (.invokevirtual 254, 3) := by decide +kernel
set_option maxRecDepth 100000 in
theorem d_B_executeLoad_8 : decode prog_1_method_28_code 8 = .ok (.istore 4, 2) := by decide +kernel
set_option maxRecDepth 100000 in
theorem d_B_executeLoad_10 : decode prog_1_method_28_code 10 = .ok (.aload_n 1, 1) := by decide +kernel
set_option maxRecDepth 100000 in
theorem d_B_executeLoad_11 : decode prog_1_method_28_code 11 = .ok (.iload_n 3, 1) := by decide +kernel
set_option maxRecDepth 100000 in
theorem d_B_executeLoad_12 : decode prog_1_method_28_code 12 = .ok (.invokevirtual 110, 3) := by decide +kernel
set_option maxRecDepth 100000 in
theorem d_B_executeLoad_15 : decode prog_1_method_28_code 15 = .ok (.astore 5, 2) := by decide +kernel
set_option maxRecDepth 100000 in
theorem d_B_executeLoad_17 : decode prog_1_method_28_code 17 = .ok (.iload 4, 2) := by decide +kernel
set_option maxRecDepth 100000 in
theorem d_B_executeLoad_19 : decode prog_1_method_28_code 19 = .ok (.ifCond .ge 19, 3) := by decide +kernel
set_option maxRecDepth 100000 in
theorem d_B_executeLoad_22 : decode prog_1_method_28_code 22 = .ok (.aload 5, 2) := by decide +kernel
set_option maxRecDepth 100000 in
theorem d_B_executeLoad_24 : decode prog_1_method_28_code 24 = .ok (.iload_n 3, 1) := by decide +kernel
set_option maxRecDepth 100000 in
theorem d_B_executeLoad_25 : decode prog_1_method_28_code 25 = .ok (.invokevirtual 208, 3) := by decide +kernel
set_option maxRecDepth 100000 in
theorem d_B_executeLoad_28 : decode prog_1_method_28_code 28 = .ok (.ifCond .ne 10, 3) := by decide +kernel
set_option maxRecDepth 100000 in
theorem d_B_executeLoad_31 : decode prog_1_method_28_code 31 = .ok (.aload_n 1, 1) := by decide +kernel
set_option maxRecDepth 100000 in
theorem d_B_executeLoad_32 : decode prog_1_method_28_code 32 = .ok (.iconst 1, 1) := by decide +kernel
set_option maxRecDepth 100000 in
theorem d_B_executeLoad_33 : decode prog_1_method_28_code 33 = .ok (.iload_n 3, 1) := by decide +kernel
set_option maxRecDepth 100000 in
theorem d_B_executeLoad_34 : decode prog_1_method_28_code 34 = .ok (.invokestatic 119, 3) := by decide +kernel
set_option maxRecDepth 100000 in
theorem d_B_executeLoad_37 : decode prog_1_method_28_code 37 = .ok (.ireturn, 1) := by decide +kernel
set_option maxRecDepth 100000 in
theorem d_B_executeLoad_38 : decode prog_1_method_28_code 38 = .ok (.iload 4, 2) := by decide +kernel
set_option maxRecDepth 100000 in
theorem d_B_executeLoad_40 : decode prog_1_method_28_code 40 = .ok (.ifCond .lt 16, 3) := by decide +kernel
set_option maxRecDepth 100000 in
theorem d_B_executeLoad_43 : decode prog_1_method_28_code 43 = .ok (.aload_n 1, 1) := by decide +kernel
set_option maxRecDepth 100000 in
theorem d_B_executeLoad_44 : decode prog_1_method_28_code 44 = .ok (.getfield 98, 3) := by decide +kernel
set_option maxRecDepth 100000 in
theorem d_B_executeLoad_47 : decode prog_1_method_28_code 47 = .ok (.getfield 123, 3) := by decide +kernel
set_option maxRecDepth 100000 in
theorem d_B_executeLoad_50 : decode prog_1_method_28_code 50 = .ok (.iload 4, 2) := by decide +kernel
set_option maxRecDepth 100000 in
theorem d_B_executeLoad_52 : decode prog_1_method_28_code 52 = .ok (.iaload, 1) := by decide +kernel
set_option maxRecDepth 100000 in
theorem d_B_executeLoad_53 : decode prog_1_method_28_code 53 = .ok (.goto 8, 3) := by decide +kernel
set_option maxRecDepth 100000 in
theorem d_B_executeLoad_56 : decode prog_1_method_28_code 56 = .ok (.aload 5, 2) := by decide +kernel
set_option maxRecDepth 100000 in
theorem d_B_executeLoad_58 : decode prog_1_method_28_code 58 = .ok (.getfield 216, 3) := by decide +kernel
set_option maxRecDepth 100000 in
theorem d_B_executeLoad_61 : decode prog_1_method_28_code 61 = .ok (.istore 6, 2) := by decide +kernel
set_option maxRecDepth 100000 in
theorem d_B_executeLoad_63 : decode prog_1_method_28_code 63 = .ok (.aload_n 1, 1) := by decide +kernel
set_option maxRecDepth 100000 in
theorem d_B_executeLoad_64 : decode prog_1_method_28_code 64 = .ok (.getfield 191, 3) := by decide +kernel
set_option maxRecDepth 100000 in
theorem d_B_executeLoad_67 : decode prog_1_method_28_code 67 = .ok (.iload_n 2, 1) := by decide +kernel
set_option maxRecDepth 100000 in
theorem d_B_executeLoad_68 : decode prog_1_method_28_code 68 = .ok (.iload 6, 2) := by decide +kernel
set_option maxRecDepth 100000 in
theorem d_B_executeLoad_70 : decode prog_1_method_28_code 70 = .ok (.iastore, 1) := by decide +kernel
set_option maxRecDepth 100000 in
theorem d_B_executeLoad_71 : decode prog_1_method_28_code 71 = .ok (.aload_n 0, 1) := by decide +kernel
set_option maxRecDepth 100000 in
theorem d_B_executeLoad_72 : decode prog_1_method_28_code 72 = .ok (.getfield 34, 3) := by decide +kernel
set_option maxRecDepth 100000 in
theorem d_B_executeLoad_75 : decode prog_1_method_28_code 75 = .ok (.iconst 0, 1) := by decide +kernel
set_option maxRecDepth 100000 in
theorem d_B_executeLoad_76 : decode prog_1_method_28_code 76 = .ok (.aload_n 1, 1) := by decide +kernel
set_option maxRecDepth 100000 in
theorem d_B_executeLoad_77 : decode prog_1_method_28_code 77 = .ok (.getfield 132, 3) := by decide +kernel
set_option maxRecDepth 100000 in
theorem d_B_executeLoad_80 : decode prog_1_method_28_code 80 = .ok (.iload_n 3, 1) := by decide +kernel
set_option maxRecDepth 100000 in
theorem d_B_executeLoad_81 : decode prog_1_method_28_code 81 = .ok (.iload 6, 2) := by decide +kernel
set_option maxRecDepth 100000 in
theorem d_B_executeLoad_83 : decode prog_1_method_28_code 83 = .ok (.invokevirtual 135, 3) := by decide +kernel
set_option maxRecDepth 100000 in
theorem d_B_executeLoad_86 : decode prog_1_method_28_code 86 = .ok (.aload_n 1, 1) := by decide +kernel
set_option maxRecDepth 100000 in
theorem d_B_executeLoad_87 : decode prog_1_method_28_code 87 = .ok (.aload_n 1, 1) := by decide +kernel
set_option maxRecDepth 100000 in
theorem d_B_executeLoad_88 : decode prog_1_method_28_code 88 = .ok (.getfield 82, 3) := by decide +kernel
set_option maxRecDepth 100000 in
theorem d_B_executeLoad_91 : decode prog_1_method_28_code 91 = .ok (.iconst 1, 1) := by decide +kernel
set_option maxRecDepth 100000 in
theorem d_B_executeLoad_92 : decode prog_1_method_28_code 92 = .ok (.iadd, 1) := by decide +kernel
set_option maxRecDepth 100000 in
theorem d_B_executeLoad_93 : decode prog_1_method_28_code 93 = .ok (.invokestatic 247, 3) := by decide +kernel
set_option maxRecDepth 100000 in
theorem d_B_executeLoad_96 : decode prog_1_method_28_code 96 = .ok (.ireturn, 1) := by decide +kernel
set_option maxRecDepth 100000 in
theorem d_Sb_youngestTo_0 : decode prog_7_method_5_code 0 = .ok (.aload_n 0, 1) := by decide +kernel
set_option maxRecDepth 100000 in
theorem d_Sb_youngestTo_1 : decode prog_7_method_5_code 1 = .ok (.getfield 16, 3) := by decide +kernel
set_option maxRecDepth 100000 in
theorem d_Sb_youngestTo_4 : decode prog_7_method_5_code 4 = .ok (.iconst 1, 1) := by decide +kernel
set_option maxRecDepth 100000 in
theorem d_Sb_youngestTo_5 : decode prog_7_method_5_code 5 = .ok (.isub, 1) := by decide +kernel
set_option maxRecDepth 100000 in
theorem d_Sb_youngestTo_6 : decode prog_7_method_5_code 6 = .ok (.istore_n 2, 1) := by decide +kernel
set_option maxRecDepth 100000 in
theorem d_Sb_youngestTo_7 : decode prog_7_method_5_code 7 = .ok (.iload_n 2, 1) := by decide +kernel
set_option maxRecDepth 100000 in
theorem d_Sb_youngestTo_8 : decode prog_7_method_5_code 8 = .ok (.ifCond .lt 21, 3) := by decide +kernel
set_option maxRecDepth 100000 in
theorem d_Sb_youngestTo_11 : decode prog_7_method_5_code 11 = .ok (.aload_n 0, 1) := by decide +kernel
set_option maxRecDepth 100000 in
theorem d_Sb_youngestTo_12 : decode prog_7_method_5_code 12 = .ok (.getfield 7, 3) := by decide +kernel
set_option maxRecDepth 100000 in
theorem d_Sb_youngestTo_15 : decode prog_7_method_5_code 15 = .ok (.iload_n 2, 1) := by decide +kernel
set_option maxRecDepth 100000 in
theorem d_Sb_youngestTo_16 : decode prog_7_method_5_code 16 = .ok (.iaload, 1) := by decide +kernel
set_option maxRecDepth 100000 in
theorem d_Sb_youngestTo_17 : decode prog_7_method_5_code 17 = .ok (.iload_n 1, 1) := by decide +kernel
set_option maxRecDepth 100000 in
theorem d_Sb_youngestTo_18 : decode prog_7_method_5_code 18 = .ok (.if_icmp .ne 5, 3) := by decide +kernel
set_option maxRecDepth 100000 in
theorem d_Sb_youngestTo_21 : decode prog_7_method_5_code 21 = .ok (.iload_n 2, 1) := by decide +kernel
set_option maxRecDepth 100000 in
theorem d_Sb_youngestTo_22 : decode prog_7_method_5_code 22 = .ok (.ireturn, 1) := by decide +kernel
set_option maxRecDepth 100000 in
theorem d_Sb_youngestTo_23 : decode prog_7_method_5_code 23 = .ok (.iinc 2 (-1), 3) := by decide +kernel
set_option maxRecDepth 100000 in
theorem d_Sb_youngestTo_26 : decode prog_7_method_5_code 26 = .ok (.goto (-19), 3) := by decide +kernel
set_option maxRecDepth 100000 in
theorem d_Sb_youngestTo_29 : decode prog_7_method_5_code 29 = .ok (.iconst (-1), 1) := by decide +kernel
set_option maxRecDepth 100000 in
theorem d_Sb_youngestTo_30 : decode prog_7_method_5_code 30 = .ok (.ireturn, 1) := by decide +kernel
set_option maxRecDepth 100000 in
theorem d_B_ask_0 : decode prog_1_method_32_code 0 = .ok (.aload_n 0, 1) := by decide +kernel
set_option maxRecDepth 100000 in
theorem d_B_ask_1 : decode prog_1_method_32_code 1 = .ok (.getfield 139, 3) := by decide +kernel
set_option maxRecDepth 100000 in
theorem d_B_ask_4 : decode prog_1_method_32_code 4 = .ok (.getfield 143, 3) := by decide +kernel
set_option maxRecDepth 100000 in
theorem d_B_ask_7 : decode prog_1_method_32_code 7 = .ok (.ifCond .ne 12, 3) := by decide +kernel
set_option maxRecDepth 100000 in
theorem d_B_ask_10 : decode prog_1_method_32_code 10 = .ok (.aload_n 0, 1) := by decide +kernel
set_option maxRecDepth 100000 in
theorem d_B_ask_11 : decode prog_1_method_32_code 11 = .ok (.getfield 139, 3) := by decide +kernel
set_option maxRecDepth 100000 in
theorem d_B_ask_14 : decode prog_1_method_32_code 14 = .ok (.iload_n 1, 1) := by decide +kernel
set_option maxRecDepth 100000 in
theorem d_B_ask_15 : decode prog_1_method_32_code 15 = .ok (.iload_n 2, 1) := by decide +kernel
set_option maxRecDepth 100000 in
theorem d_B_ask_16 : decode prog_1_method_32_code 16 = .ok (.invokevirtual 263, 3) := by decide +kernel
set_option maxRecDepth 100000 in
theorem d_B_ask_19 : decode prog_1_method_32_code 19 = .ok (.iconst 0, 1) := by decide +kernel
set_option maxRecDepth 100000 in
theorem d_B_ask_20 : decode prog_1_method_32_code 20 = .ok (.ireturn, 1) := by decide +kernel
set_option maxRecDepth 100000 in
theorem d_Rq_begin_0 : decode prog_6_method_3_code 0 = .ok (.aload_n 0, 1) := by decide +kernel
set_option maxRecDepth 100000 in
theorem d_Rq_begin_1 : decode prog_6_method_3_code 1 = .ok (.iload_n 1, 1) := by decide +kernel
set_option maxRecDepth 100000 in
theorem d_Rq_begin_2 : decode prog_6_method_3_code 2 = .ok (.putfield 19, 3) := by decide +kernel
set_option maxRecDepth 100000 in
theorem d_Rq_begin_5 : decode prog_6_method_3_code 5 = .ok (.aload_n 0, 1) := by decide +kernel
set_option maxRecDepth 100000 in
theorem d_Rq_begin_6 : decode prog_6_method_3_code 6 = .ok (.iload_n 2, 1) := by decide +kernel
set_option maxRecDepth 100000 in
theorem d_Rq_begin_7 : decode prog_6_method_3_code 7 = .ok (.putfield 15, 3) := by decide +kernel
set_option maxRecDepth 100000 in
theorem d_Rq_begin_10 : decode prog_6_method_3_code 10 = .ok (.return_, 1) := by decide +kernel
set_option maxRecDepth 100000 in
theorem d_Lo_enter_0 : decode prog_4_method_2_code 0 = .ok (.aload_n 0, 1) := by decide +kernel
set_option maxRecDepth 100000 in
theorem d_Lo_enter_1 : decode prog_4_method_2_code 1 = .ok (.getfield 18, 3) := by decide +kernel
set_option maxRecDepth 100000 in
theorem d_Lo_enter_4 : decode prog_4_method_2_code 4 = .ok (.bipush 40, 2) := by decide +kernel
set_option maxRecDepth 100000 in
theorem d_Lo_enter_6 : decode prog_4_method_2_code 6 = .ok (.invokestatic 22, 3) := by decide +kernel
set_option maxRecDepth 100000 in
theorem d_Lo_enter_9 : decode prog_4_method_2_code 9 = .ok (.istore 5, 2) := by decide +kernel
set_option maxRecDepth 100000 in
theorem d_Lo_enter_11 : decode prog_4_method_2_code 11 = .ok (.aload_n 0, 1) := by decide +kernel
set_option maxRecDepth 100000 in
theorem d_Lo_enter_12 : decode prog_4_method_2_code 12 = .ok (.getfield 9, 3) := by decide +kernel
set_option maxRecDepth 100000 in
theorem d_Lo_enter_15 : decode prog_4_method_2_code 15 = .ok (.iload 5, 2) := by decide +kernel
set_option maxRecDepth 100000 in
theorem d_Lo_enter_17 : decode prog_4_method_2_code 17 = .ok (.iload_n 1, 1) := by decide +kernel
set_option maxRecDepth 100000 in
theorem d_Lo_enter_18 : decode prog_4_method_2_code 18 = .ok (.iconst 4, 1) := by decide +kernel
set_option maxRecDepth 100000 in
theorem d_Lo_enter_19 : decode prog_4_method_2_code 19 = .ok (.iload_n 2, 1) := by decide +kernel
set_option maxRecDepth 100000 in
theorem d_Lo_enter_20 : decode prog_4_method_2_code 20 = .ok (.imul, 1) := by decide +kernel
set_option maxRecDepth 100000 in
theorem d_Lo_enter_21 : decode prog_4_method_2_code 21 = .ok (.iadd, 1) := by decide +kernel
set_option maxRecDepth 100000 in
theorem d_Lo_enter_22 : decode prog_4_method_2_code 22 = .ok (.bipush 16, 2) := by decide +kernel
set_option maxRecDepth 100000 in
theorem d_Lo_enter_24 : decode prog_4_method_2_code 24 = .ok (.iload_n 3, 1) := by decide +kernel
set_option maxRecDepth 100000 in
theorem d_Lo_enter_25 : decode prog_4_method_2_code 25 = .ok (.imul, 1) := by decide +kernel
set_option maxRecDepth 100000 in
theorem d_Lo_enter_26 : decode prog_4_method_2_code 26 = .ok (.iadd, 1) := by decide +kernel
set_option maxRecDepth 100000 in
theorem d_Lo_enter_27 : decode prog_4_method_2_code 27 = .ok (.iastore, 1) := by decide +kernel
set_option maxRecDepth 100000 in
theorem d_Lo_enter_28 : decode prog_4_method_2_code 28 = .ok (.aload_n 0, 1) := by decide +kernel
set_option maxRecDepth 100000 in
theorem d_Lo_enter_29 : decode prog_4_method_2_code 29 = .ok (.getfield 15, 3) := by decide +kernel
set_option maxRecDepth 100000 in
theorem d_Lo_enter_32 : decode prog_4_method_2_code 32 = .ok (.iload 5, 2) := by decide +kernel
set_option maxRecDepth 100000 in
theorem d_Lo_enter_34 : decode prog_4_method_2_code 34 = .ok (.iload 4, 2) := by decide +kernel
set_option maxRecDepth 100000 in
theorem d_Lo_enter_36 : decode prog_4_method_2_code 36 = .ok (.iastore, 1) := by decide +kernel
set_option maxRecDepth 100000 in
theorem d_Lo_enter_37 : decode prog_4_method_2_code 37 = .ok (.aload_n 0, 1) := by decide +kernel
set_option maxRecDepth 100000 in
theorem d_Lo_enter_38 : decode prog_4_method_2_code 38 = .ok (.dup, 1) := by decide +kernel
set_option maxRecDepth 100000 in
theorem d_Lo_enter_39 : decode prog_4_method_2_code 39 = .ok (.getfield 18, 3) := by decide +kernel
set_option maxRecDepth 100000 in
theorem d_Lo_enter_42 : decode prog_4_method_2_code 42 = .ok (.iconst 1, 1) := by decide +kernel
set_option maxRecDepth 100000 in
theorem d_Lo_enter_43 : decode prog_4_method_2_code 43 = .ok (.iadd, 1) := by decide +kernel
set_option maxRecDepth 100000 in
theorem d_Lo_enter_44 : decode prog_4_method_2_code 44 = .ok (.putfield 18, 3) := by decide +kernel
set_option maxRecDepth 100000 in
theorem d_Lo_enter_47 : decode prog_4_method_2_code 47 = .ok (.return_, 1) := by decide +kernel
set_option maxRecDepth 100000 in
theorem d_J_floorMod_0 : decode prog_14_method_50_code 0 = .ok (.iload_n 0, 1) := by decide +kernel
set_option maxRecDepth 100000 in
theorem d_J_floorMod_1 : decode prog_14_method_50_code 1 = .ok (.iload_n 1, 1) := by decide +kernel
set_option maxRecDepth 100000 in
theorem d_J_floorMod_2 : decode prog_14_method_50_code 2 = .ok (.irem, 1) := by decide +kernel
set_option maxRecDepth 100000 in
theorem d_J_floorMod_3 : decode prog_14_method_50_code 3 = .ok (.istore_n 2, 1) := by decide +kernel
set_option maxRecDepth 100000 in
theorem d_J_floorMod_4 : decode prog_14_method_50_code 4 = .ok (.iload_n 0, 1) := by decide +kernel
set_option maxRecDepth 100000 in
theorem d_J_floorMod_5 : decode prog_14_method_50_code 5 = .ok (.iload_n 1, 1) := by decide +kernel
set_option maxRecDepth 100000 in
theorem d_J_floorMod_6 : decode prog_14_method_50_code 6 = .ok (.ixor, 1) := by decide +kernel
set_option maxRecDepth 100000 in
theorem d_J_floorMod_7 : decode prog_14_method_50_code 7 = .ok (.ifCond .ge 11, 3) := by decide +kernel
set_option maxRecDepth 100000 in
theorem d_J_floorMod_10 : decode prog_14_method_50_code 10 = .ok (.iload_n 2, 1) := by decide +kernel
set_option maxRecDepth 100000 in
theorem d_J_floorMod_11 : decode prog_14_method_50_code 11 = .ok (.ifCond .eq 7, 3) := by decide +kernel
set_option maxRecDepth 100000 in
theorem d_J_floorMod_14 : decode prog_14_method_50_code 14 = .ok (.iload_n 2, 1) := by decide +kernel
set_option maxRecDepth 100000 in
theorem d_J_floorMod_15 : decode prog_14_method_50_code 15 = .ok (.iload_n 1, 1) := by decide +kernel
set_option maxRecDepth 100000 in
theorem d_J_floorMod_16 : decode prog_14_method_50_code 16 = .ok (.iadd, 1) := by decide +kernel
set_option maxRecDepth 100000 in
theorem d_J_floorMod_17 : decode prog_14_method_50_code 17 = .ok (.ireturn, 1) := by decide +kernel
set_option maxRecDepth 100000 in
theorem d_J_floorMod_18 : decode prog_14_method_50_code 18 = .ok (.iload_n 2, 1) := by decide +kernel
set_option maxRecDepth 100000 in
theorem d_J_floorMod_19 : decode prog_14_method_50_code 19 = .ok (.ireturn, 1) := by decide +kernel
set_option maxRecDepth 100000 in
theorem d_B_goTo_0 : decode prog_1_method_31_code 0 = .ok (.aload_n 0, 1) := by decide +kernel
set_option maxRecDepth 100000 in
theorem d_B_goTo_1 : decode prog_1_method_31_code 1 = .ok (.iload_n 1, 1) := by decide +kernel
set_option maxRecDepth 100000 in
theorem d_B_goTo_2 : decode prog_1_method_31_code 2 = .ok (.putfield 82, 3) := by decide +kernel
set_option maxRecDepth 100000 in
theorem d_B_goTo_5 : decode prog_1_method_31_code 5 = .ok (.iconst 1, 1) := by decide +kernel
set_option maxRecDepth 100000 in
theorem d_B_goTo_6 : decode prog_1_method_31_code 6 = .ok (.ireturn, 1) := by decide +kernel
set_option maxRecDepth 100000 in
theorem d_B_executeStore_0 : decode prog_1_method_29_code 0 = .ok (.aload_n 0, 1) := by decide +kernel
set_option maxRecDepth 100000 in
theorem d_B_executeStore_1 : decode prog_1_method_29_code 1 = .ok (.getfield 98, 3) := by decide +kernel
set_option maxRecDepth 100000 in
theorem d_B_executeStore_4 : decode prog_1_method_29_code 4 = .ok (.invokevirtual 257, 3) := by decide +kernel
set_option maxRecDepth 100000 in
theorem d_B_executeStore_7 : decode prog_1_method_29_code 7 = .ok (.ifCond .eq 5, 3) := by decide +kernel
set_option maxRecDepth 100000 in
theorem d_B_executeStore_10 : decode prog_1_method_29_code 10 = .ok (.iconst 0, 1) := by decide +kernel
set_option maxRecDepth 100000 in
theorem d_B_executeStore_11 : decode prog_1_method_29_code 11 = .ok (.ireturn, 1) := by decide +kernel
set_option maxRecDepth 100000 in
theorem d_B_executeStore_12 : decode prog_1_method_29_code 12 = .ok (.aload_n 0, 1) := by decide +kernel
set_option maxRecDepth 100000 in
theorem d_B_executeStore_13 : decode prog_1_method_29_code 13 = .ok (.getfield 98, 3) := by decide +kernel
set_option maxRecDepth 100000 in
theorem d_B_executeStore_16 : decode prog_1_method_29_code 16 = .ok (.iload_n 1, 1) := by decide +kernel
set_option maxRecDepth 100000 in
theorem d_B_executeStore_17 : decode prog_1_method_29_code 17 = .ok (.iload_n 2, 1) := by decide +kernel
set_option maxRecDepth 100000 in
theorem d_B_executeStore_18 : decode prog_1_method_29_code 18 = .ok (.invokevirtual 261, 3) := by decide +kernel
set_option maxRecDepth 100000 in
theorem d_B_executeStore_21 : decode prog_1_method_29_code 21 = .ok (.aload_n 0, 1) := by decide +kernel
set_option maxRecDepth 100000 in
theorem d_B_executeStore_22 : decode prog_1_method_29_code 22 = .ok (.aload_n 0, 1) := by decide +kernel
set_option maxRecDepth 100000 in
theorem d_B_executeStore_23 : decode prog_1_method_29_code 23 = .ok (.getfield 82, 3) := by decide +kernel
set_option maxRecDepth 100000 in
theorem d_B_executeStore_26 : decode prog_1_method_29_code 26 = .ok (.iconst 1, 1) := by decide +kernel
set_option maxRecDepth 100000 in
theorem d_B_executeStore_27 : decode prog_1_method_29_code 27 = .ok (.iadd, 1) := by decide +kernel
set_option maxRecDepth 100000 in
theorem d_B_executeStore_28 : decode prog_1_method_29_code 28 = .ok (.invokestatic 247, 3) := by decide +kernel
set_option maxRecDepth 100000 in
theorem d_B_executeStore_31 : decode prog_1_method_29_code 31 = .ok (.ireturn, 1) := by decide +kernel
set_option maxRecDepth 100000 in
theorem d_Sb_isFull_0 : decode prog_7_method_2_code 0 = .ok (.aload_n 0, 1) := by decide +kernel
set_option maxRecDepth 100000 in
theorem d_Sb_isFull_1 : decode prog_7_method_2_code 1 = .ok (.getfield 16, 3) := by decide +kernel
set_option maxRecDepth 100000 in
theorem d_Sb_isFull_4 : decode prog_7_method_2_code 4 = .ok (.aload_n 0, 1) := by decide +kernel
set_option maxRecDepth 100000 in
theorem d_Sb_isFull_5 : decode prog_7_method_2_code 5 = .ok (.getfield 7, 3) := by decide +kernel
set_option maxRecDepth 100000 in
theorem d_Sb_isFull_8 : decode prog_7_method_2_code 8 = .ok (.arraylength, 1) := by decide +kernel
set_option maxRecDepth 100000 in
theorem d_Sb_isFull_9 : decode prog_7_method_2_code 9 = .ok (.if_icmp .ne 7, 3) := by decide +kernel
set_option maxRecDepth 100000 in
theorem d_Sb_isFull_12 : decode prog_7_method_2_code 12 = .ok (.iconst 1, 1) := by decide +kernel
set_option maxRecDepth 100000 in
theorem d_Sb_isFull_13 : decode prog_7_method_2_code 13 = .ok (.goto 4, 3) := by decide +kernel
set_option maxRecDepth 100000 in
theorem d_Sb_isFull_16 : decode prog_7_method_2_code 16 = .ok (.iconst 0, 1) := by decide +kernel
set_option maxRecDepth 100000 in
theorem d_Sb_isFull_17 : decode prog_7_method_2_code 17 = .ok (.ireturn, 1) := by decide +kernel
set_option maxRecDepth 100000 in
theorem d_Sb_append_0 : decode prog_7_method_3_code 0 = .ok (.aload_n 0, 1) := by decide +kernel
set_option maxRecDepth 100000 in
theorem d_Sb_append_1 : decode prog_7_method_3_code 1 = .ok (.getfield 7, 3) := by decide +kernel
set_option maxRecDepth 100000 in
theorem d_Sb_append_4 : decode prog_7_method_3_code 4 = .ok (.aload_n 0, 1) := by decide +kernel
set_option maxRecDepth 100000 in
theorem d_Sb_append_5 : decode prog_7_method_3_code 5 = .ok (.getfield 16, 3) := by decide +kernel
set_option maxRecDepth 100000 in
theorem d_Sb_append_8 : decode prog_7_method_3_code 8 = .ok (.iload_n 1, 1) := by decide +kernel
set_option maxRecDepth 100000 in
theorem d_Sb_append_9 : decode prog_7_method_3_code 9 = .ok (.iastore, 1) := by decide +kernel
set_option maxRecDepth 100000 in
theorem d_Sb_append_10 : decode prog_7_method_3_code 10 = .ok (.aload_n 0, 1) := by decide +kernel
set_option maxRecDepth 100000 in
theorem d_Sb_append_11 : decode prog_7_method_3_code 11 = .ok (.getfield 13, 3) := by decide +kernel
set_option maxRecDepth 100000 in
theorem d_Sb_append_14 : decode prog_7_method_3_code 14 = .ok (.aload_n 0, 1) := by decide +kernel
set_option maxRecDepth 100000 in
theorem d_Sb_append_15 : decode prog_7_method_3_code 15 = .ok (.getfield 16, 3) := by decide +kernel
set_option maxRecDepth 100000 in
theorem d_Sb_append_18 : decode prog_7_method_3_code 18 = .ok (.iload_n 2, 1) := by decide +kernel
set_option maxRecDepth 100000 in
theorem d_Sb_append_19 : decode prog_7_method_3_code 19 = .ok (.iastore, 1) := by decide +kernel
set_option maxRecDepth 100000 in
theorem d_Sb_append_20 : decode prog_7_method_3_code 20 = .ok (.aload_n 0, 1) := by decide +kernel
set_option maxRecDepth 100000 in
theorem d_Sb_append_21 : decode prog_7_method_3_code 21 = .ok (.dup, 1) := by decide +kernel
set_option maxRecDepth 100000 in
theorem d_Sb_append_22 : decode prog_7_method_3_code 22 = .ok (.getfield 16, 3) := by decide +kernel
set_option maxRecDepth 100000 in
theorem d_Sb_append_25 : decode prog_7_method_3_code 25 = .ok (.iconst 1, 1) := by decide +kernel
set_option maxRecDepth 100000 in
theorem d_Sb_append_26 : decode prog_7_method_3_code 26 = .ok (.iadd, 1) := by decide +kernel
set_option maxRecDepth 100000 in
theorem d_Sb_append_27 : decode prog_7_method_3_code 27 = .ok (.putfield 16, 3) := by decide +kernel
set_option maxRecDepth 100000 in
theorem d_Sb_append_30 : decode prog_7_method_3_code 30 = .ok (.return_, 1) := by decide +kernel
set_option maxRecDepth 100000 in
theorem d_B_executeSwap_0 : decode prog_1_method_30_code 0 = .ok (.aload_n 1, 1) := by decide +kernel
set_option maxRecDepth 100000 in
theorem d_B_executeSwap_1 : decode prog_1_method_30_code 1 = .ok (.getfield 98, 3) := by decide +kernel
set_option maxRecDepth 100000 in
theorem d_B_executeSwap_4 : decode prog_1_method_30_code 4 = .ok (.getfield 102, 3) := by decide +kernel
set_option maxRecDepth 100000 in
theorem d_B_executeSwap_7 : decode prog_1_method_30_code 7 = .ok (.ifCond .eq 5, 3) := by decide +kernel
set_option maxRecDepth 100000 in
theorem d_B_executeSwap_10 : decode prog_1_method_30_code 10 = .ok (.iconst 0, 1) := by decide +kernel
set_option maxRecDepth 100000 in
theorem d_B_executeSwap_11 : decode prog_1_method_30_code 11 = .ok (.ireturn, 1) := by decide +kernel
set_option maxRecDepth 100000 in
theorem d_B_executeSwap_12 : decode prog_1_method_30_code 12 = .ok (.aload_n 1, 1) := by decide +kernel
set_option maxRecDepth 100000 in
theorem d_B_executeSwap_13 : decode prog_1_method_30_code 13 = .ok (.iload_n 2, 1) := by decide +kernel
set_option maxRecDepth 100000 in
theorem d_B_executeSwap_14 : decode prog_1_method_30_code 14 = .ok (.invokevirtual 110, 3) := by decide +kernel
set_option maxRecDepth 100000 in
theorem d_B_executeSwap_17 : decode prog_1_method_30_code 17 = .ok (.astore 4, 2) := by decide +kernel
set_option maxRecDepth 100000 in
theorem d_B_executeSwap_19 : decode prog_1_method_30_code 19 = .ok (.aload 4, 2) := by decide +kernel
set_option maxRecDepth 100000 in
theorem d_B_executeSwap_21 : decode prog_1_method_30_code 21 = .ok (.iload_n 2, 1) := by decide +kernel
set_option maxRecDepth 100000 in
theorem d_B_executeSwap_22 : decode prog_1_method_30_code 22 = .ok (.invokevirtual 114, 3) := by decide +kernel
set_option maxRecDepth 100000 in
theorem d_B_executeSwap_25 : decode prog_1_method_30_code 25 = .ok (.ifCond .ne 10, 3) := by decide +kernel
set_option maxRecDepth 100000 in
theorem d_B_executeSwap_28 : decode prog_1_method_30_code 28 = .ok (.aload_n 1, 1) := by decide +kernel
set_option maxRecDepth 100000 in
theorem d_B_executeSwap_29 : decode prog_1_method_30_code 29 = .ok (.iconst 2, 1) := by decide +kernel
set_option maxRecDepth 100000 in
theorem d_B_executeSwap_30 : decode prog_1_method_30_code 30 = .ok (.iload_n 2, 1) := by decide +kernel
set_option maxRecDepth 100000 in
theorem d_B_executeSwap_31 : decode prog_1_method_30_code 31 = .ok (.invokestatic 119, 3) := by decide +kernel
set_option maxRecDepth 100000 in
theorem d_B_executeSwap_34 : decode prog_1_method_30_code 34 = .ok (.ireturn, 1) := by decide +kernel
set_option maxRecDepth 100000 in
theorem d_B_executeSwap_35 : decode prog_1_method_30_code 35 = .ok (.aload 4, 2) := by decide +kernel
set_option maxRecDepth 100000 in
theorem d_B_executeSwap_37 : decode prog_1_method_30_code 37 = .ok (.getfield 216, 3) := by decide +kernel
set_option maxRecDepth 100000 in
theorem d_B_executeSwap_40 : decode prog_1_method_30_code 40 = .ok (.istore 5, 2) := by decide +kernel
set_option maxRecDepth 100000 in
theorem d_B_executeSwap_42 : decode prog_1_method_30_code 42 = .ok (.iload 5, 2) := by decide +kernel
set_option maxRecDepth 100000 in
theorem d_B_executeSwap_44 : decode prog_1_method_30_code 44 = .ok (.aload_n 1, 1) := by decide +kernel
set_option maxRecDepth 100000 in
theorem d_B_executeSwap_45 : decode prog_1_method_30_code 45 = .ok (.getfield 191, 3) := by decide +kernel
set_option maxRecDepth 100000 in
theorem d_B_executeSwap_48 : decode prog_1_method_30_code 48 = .ok (.iconst 3, 1) := by decide +kernel
set_option maxRecDepth 100000 in
theorem d_B_executeSwap_49 : decode prog_1_method_30_code 49 = .ok (.iaload, 1) := by decide +kernel
set_option maxRecDepth 100000 in
theorem d_B_executeSwap_50 : decode prog_1_method_30_code 50 = .ok (.if_icmp .ne 7, 3) := by decide +kernel
set_option maxRecDepth 100000 in
theorem d_B_executeSwap_53 : decode prog_1_method_30_code 53 = .ok (.iconst 1, 1) := by decide +kernel
set_option maxRecDepth 100000 in
theorem d_B_executeSwap_54 : decode prog_1_method_30_code 54 = .ok (.goto 4, 3) := by decide +kernel
set_option maxRecDepth 100000 in
theorem d_B_executeSwap_57 : decode prog_1_method_30_code 57 = .ok (.iconst 0, 1) := by decide +kernel
set_option maxRecDepth 100000 in
theorem d_B_executeSwap_58 : decode prog_1_method_30_code 58 = .ok (.istore 6, 2) := by decide +kernel
set_option maxRecDepth 100000 in
theorem d_B_executeSwap_60 : decode prog_1_method_30_code 60 = .ok (.iload 6, 2) := by decide +kernel
set_option maxRecDepth 100000 in
theorem d_B_executeSwap_62 : decode prog_1_method_30_code 62 = .ok (.ifCond .eq 9, 3) := by decide +kernel
set_option maxRecDepth 100000 in
theorem d_B_executeSwap_65 : decode prog_1_method_30_code 65 = .ok (.aload 4, 2) := by decide +kernel
set_option maxRecDepth 100000 in
theorem d_B_executeSwap_67 : decode prog_1_method_30_code 67 = .ok (.iload_n 3, 1) := by decide +kernel
set_option maxRecDepth 100000 in
theorem d_B_executeSwap_68 : decode prog_1_method_30_code 68 = .ok (.invokevirtual 126, 3) := by decide +kernel
set_option maxRecDepth 100000 in
theorem d_B_executeSwap_71 : decode prog_1_method_30_code 71 = .ok (.aload_n 1, 1) := by decide +kernel
set_option maxRecDepth 100000 in
theorem d_B_executeSwap_72 : decode prog_1_method_30_code 72 = .ok (.getfield 191, 3) := by decide +kernel
set_option maxRecDepth 100000 in
theorem d_B_executeSwap_75 : decode prog_1_method_30_code 75 = .ok (.iconst 3, 1) := by decide +kernel
set_option maxRecDepth 100000 in
theorem d_B_executeSwap_76 : decode prog_1_method_30_code 76 = .ok (.iload 6, 2) := by decide +kernel
set_option maxRecDepth 100000 in
theorem d_B_executeSwap_78 : decode prog_1_method_30_code 78 = .ok (.ifCond .eq 7, 3) := by decide +kernel
set_option maxRecDepth 100000 in
theorem d_B_executeSwap_81 : decode prog_1_method_30_code 81 = .ok (.iconst 1, 1) := by decide +kernel
set_option maxRecDepth 100000 in
theorem d_B_executeSwap_82 : decode prog_1_method_30_code 82 = .ok (.goto 4, 3) := by decide +kernel
set_option maxRecDepth 100000 in
theorem d_B_executeSwap_85 : decode prog_1_method_30_code 85 = .ok (.iconst 0, 1) := by decide +kernel
set_option maxRecDepth 100000 in
theorem d_B_executeSwap_86 : decode prog_1_method_30_code 86 = .ok (.iastore, 1) := by decide +kernel
set_option maxRecDepth 100000 in
theorem d_B_executeSwap_87 : decode prog_1_method_30_code 87 = .ok (.aload_n 0, 1) := by decide +kernel
set_option maxRecDepth 100000 in
theorem d_B_executeSwap_88 : decode prog_1_method_30_code 88 = .ok (.getfield 34, 3) := by decide +kernel
set_option maxRecDepth 100000 in
theorem d_B_executeSwap_91 : decode prog_1_method_30_code 91 = .ok (.iconst 2, 1) := by decide +kernel
set_option maxRecDepth 100000 in
theorem d_B_executeSwap_92 : decode prog_1_method_30_code 92 = .ok (.aload_n 1, 1) := by decide +kernel
set_option maxRecDepth 100000 in
theorem d_B_executeSwap_93 : decode prog_1_method_30_code 93 = .ok (.getfield 132, 3) := by decide +kernel
set_option maxRecDepth 100000 in
theorem d_B_executeSwap_96 : decode prog_1_method_30_code 96 = .ok (.iload_n 2, 1) := by decide +kernel
set_option maxRecDepth 100000 in
theorem d_B_executeSwap_97 : decode prog_1_method_30_code 97 = .ok (.iload 5, 2) := by decide +kernel
set_option maxRecDepth 100000 in
theorem d_B_executeSwap_99 : decode prog_1_method_30_code 99 = .ok (.invokevirtual 135, 3) := by decide +kernel
set_option maxRecDepth 100000 in
theorem d_B_executeSwap_102 : decode prog_1_method_30_code 102 = .ok (.aload_n 1, 1) := by decide +kernel
set_option maxRecDepth 100000 in
theorem d_B_executeSwap_103 : decode prog_1_method_30_code 103 = .ok (.aload_n 1, 1) := by decide +kernel
set_option maxRecDepth 100000 in
theorem d_B_executeSwap_104 : decode prog_1_method_30_code 104 = .ok (.getfield 82, 3) := by decide +kernel
set_option maxRecDepth 100000 in
theorem d_B_executeSwap_107 : decode prog_1_method_30_code 107 = .ok (.iconst 1, 1) := by decide +kernel
set_option maxRecDepth 100000 in
theorem d_B_executeSwap_108 : decode prog_1_method_30_code 108 = .ok (.iadd, 1) := by decide +kernel
set_option maxRecDepth 100000 in
theorem d_B_executeSwap_109 : decode prog_1_method_30_code 109 = .ok (.invokestatic 247, 3) := by decide +kernel
set_option maxRecDepth 100000 in
theorem d_B_executeSwap_112 : decode prog_1_method_30_code 112 = .ok (.ireturn, 1) := by decide +kernel
set_option maxRecDepth 100000 in
theorem d_Li_owns_0 : decode prog_3_method_3_code 0 = .ok (.aload_n 0, 1) := by decide +kernel
set_option maxRecDepth 100000 in
theorem d_Li_owns_1 : decode prog_3_method_3_code 1 = .ok (.iload_n 1, 1) := by decide +kernel
set_option maxRecDepth 100000 in
theorem d_Li_owns_2 : decode prog_3_method_3_code 2 = .ok (.invokevirtual 18, 3) := by decide +kernel
set_option maxRecDepth 100000 in
theorem d_Li_owns_5 : decode prog_3_method_3_code 5 = .ok (.ifCond .eq 15, 3) := by decide +kernel
set_option maxRecDepth 100000 in
theorem d_Li_owns_8 : decode prog_3_method_3_code 8 = .ok (.aload_n 0, 1) := by decide +kernel
set_option maxRecDepth 100000 in
theorem d_Li_owns_9 : decode prog_3_method_3_code 9 = .ok (.getfield 9, 3) := by decide +kernel
set_option maxRecDepth 100000 in
theorem d_Li_owns_12 : decode prog_3_method_3_code 12 = .ok (.iconst 1, 1) := by decide +kernel
set_option maxRecDepth 100000 in
theorem d_Li_owns_13 : decode prog_3_method_3_code 13 = .ok (.if_icmp .eq 7, 3) := by decide +kernel
set_option maxRecDepth 100000 in
theorem d_Li_owns_16 : decode prog_3_method_3_code 16 = .ok (.iconst 1, 1) := by decide +kernel
set_option maxRecDepth 100000 in
theorem d_Li_owns_17 : decode prog_3_method_3_code 17 = .ok (.goto 4, 3) := by decide +kernel
set_option maxRecDepth 100000 in
theorem d_Li_owns_20 : decode prog_3_method_3_code 20 = .ok (.iconst 0, 1) := by decide +kernel
set_option maxRecDepth 100000 in
theorem d_Li_owns_21 : decode prog_3_method_3_code 21 = .ok (.ireturn, 1) := by decide +kernel
set_option maxRecDepth 100000 in
theorem d_Li_modify_0 : decode prog_3_method_5_code 0 = .ok (.aload_n 0, 1) := by decide +kernel
set_option maxRecDepth 100000 in
theorem d_Li_modify_1 : decode prog_3_method_5_code 1 = .ok (.iconst 3, 1) := by decide +kernel
set_option maxRecDepth 100000 in
theorem d_Li_modify_2 : decode prog_3_method_5_code 2 = .ok (.putfield 9, 3) := by decide +kernel
set_option maxRecDepth 100000 in
theorem d_Li_modify_5 : decode prog_3_method_5_code 5 = .ok (.aload_n 0, 1) := by decide +kernel
set_option maxRecDepth 100000 in
theorem d_Li_modify_6 : decode prog_3_method_5_code 6 = .ok (.iload_n 1, 1) := by decide +kernel
set_option maxRecDepth 100000 in
theorem d_Li_modify_7 : decode prog_3_method_5_code 7 = .ok (.putfield 22, 3) := by decide +kernel
set_option maxRecDepth 100000 in
theorem d_Li_modify_10 : decode prog_3_method_5_code 10 = .ok (.return_, 1) := by decide +kernel
set_option maxRecDepth 100000 in
theorem d_B_drain_0 : decode prog_1_method_5_code 0 = .ok (.aload_n 0, 1) := by decide +kernel
set_option maxRecDepth 100000 in
theorem d_B_drain_1 : decode prog_1_method_5_code 1 = .ok (.iload_n 1, 1) := by decide +kernel
set_option maxRecDepth 100000 in
theorem d_B_drain_2 : decode prog_1_method_5_code 2 = .ok (.invokevirtual 38, 3) := by decide +kernel
set_option maxRecDepth 100000 in
theorem d_B_drain_5 : decode prog_1_method_5_code 5 = .ok (.astore_n 2, 1) := by decide +kernel
set_option maxRecDepth 100000 in
theorem d_B_drain_6 : decode prog_1_method_5_code 6 = .ok (.aload_n 2, 1) := by decide +kernel
set_option maxRecDepth 100000 in
theorem d_B_drain_7 : decode prog_1_method_5_code 7 = .ok (.getfield 98, 3) := by decide +kernel
set_option maxRecDepth 100000 in
theorem d_B_drain_10 : decode prog_1_method_5_code 10 = .ok (.getfield 102, 3) := by decide +kernel
set_option maxRecDepth 100000 in
theorem d_B_drain_13 : decode prog_1_method_5_code 13 = .ok (.ifCond .ne 5, 3) := by decide +kernel
set_option maxRecDepth 100000 in
theorem d_B_drain_16 : decode prog_1_method_5_code 16 = .ok (.iconst 3, 1) := by decide +kernel
set_option maxRecDepth 100000 in
theorem d_B_drain_17 : decode prog_1_method_5_code 17 = .ok (.ireturn, 1) := by decide +kernel
set_option maxRecDepth 100000 in
theorem d_B_drain_18 : decode prog_1_method_5_code 18 = .ok (.aload_n 2, 1) := by decide +kernel
set_option maxRecDepth 100000 in
theorem d_B_drain_19 : decode prog_1_method_5_code 19 = .ok (.getfield 98, 3) := by decide +kernel
set_option maxRecDepth 100000 in
theorem d_B_drain_22 : decode prog_1_method_5_code 22 = .ok (.getfield 107, 3) := by decide +kernel
set_option maxRecDepth 100000 in
theorem d_B_drain_25 : decode prog_1_method_5_code 25 = .ok (.iconst 0, 1) := by decide +kernel
set_option maxRecDepth 100000 in
theorem d_B_drain_26 : decode prog_1_method_5_code 26 = .ok (.iaload, 1) := by decide +kernel
set_option maxRecDepth 100000 in
theorem d_B_drain_27 : decode prog_1_method_5_code 27 = .ok (.istore_n 3, 1) := by decide +kernel
set_option maxRecDepth 100000 in
theorem d_B_drain_28 : decode prog_1_method_5_code 28 = .ok (.aload_n 2, 1) := by decide +kernel
set_option maxRecDepth 100000 in
theorem d_B_drain_29 : decode prog_1_method_5_code 29 = .ok (.iload_n 3, 1) := by decide +kernel
set_option maxRecDepth 100000 in
theorem d_B_drain_30 : decode prog_1_method_5_code 30 = .ok (.invokevirtual 110, 3) := by decide +kernel
set_option maxRecDepth 100000 in
theorem d_B_drain_33 : decode prog_1_method_5_code 33 = .ok (.astore 4, 2) := by decide +kernel
set_option maxRecDepth 100000 in
theorem d_B_drain_35 : decode prog_1_method_5_code 35 = .ok (.aload 4, 2) := by decide +kernel
set_option maxRecDepth 100000 in
theorem d_B_drain_37 : decode prog_1_method_5_code 37 = .ok (.iload_n 3, 1) := by decide +kernel
set_option maxRecDepth 100000 in
theorem d_B_drain_38 : decode prog_1_method_5_code 38 = .ok (.invokevirtual 114, 3) := by decide +kernel
set_option maxRecDepth 100000 in
theorem d_B_drain_41 : decode prog_1_method_5_code 41 = .ok (.ifCond .ne 10, 3) := by decide +kernel
set_option maxRecDepth 100000 in
theorem d_B_drain_44 : decode prog_1_method_5_code 44 = .ok (.aload_n 2, 1) := by decide +kernel
set_option maxRecDepth 100000 in
theorem d_B_drain_45 : decode prog_1_method_5_code 45 = .ok (.iconst 2, 1) := by decide +kernel
set_option maxRecDepth 100000 in
theorem d_B_drain_46 : decode prog_1_method_5_code 46 = .ok (.iload_n 3, 1) := by decide +kernel
set_option maxRecDepth 100000 in
theorem d_B_drain_47 : decode prog_1_method_5_code 47 = .ok (.invokestatic 119, 3) := by decide +kernel
set_option maxRecDepth 100000 in
theorem d_B_drain_50 : decode prog_1_method_5_code 50 = .ok (.ireturn, 1) := by decide +kernel
set_option maxRecDepth 100000 in
theorem d_B_drain_51 : decode prog_1_method_5_code 51 = .ok (.aload_n 2, 1) := by decide +kernel
set_option maxRecDepth 100000 in
theorem d_B_drain_52 : decode prog_1_method_5_code 52 = .ok (.getfield 98, 3) := by decide +kernel
set_option maxRecDepth 100000 in
theorem d_B_drain_55 : decode prog_1_method_5_code 55 = .ok (.getfield 123, 3) := by decide +kernel
set_option maxRecDepth 100000 in
theorem d_B_drain_58 : decode prog_1_method_5_code 58 = .ok (.iconst 0, 1) := by decide +kernel
set_option maxRecDepth 100000 in
theorem d_B_drain_59 : decode prog_1_method_5_code 59 = .ok (.iaload, 1) := by decide +kernel
set_option maxRecDepth 100000 in
theorem d_B_drain_60 : decode prog_1_method_5_code 60 = .ok (.istore 5, 2) := by decide +kernel
set_option maxRecDepth 100000 in
theorem d_B_drain_62 : decode prog_1_method_5_code 62 = .ok (.aload 4, 2) := by decide +kernel
set_option maxRecDepth 100000 in
theorem d_B_drain_64 : decode prog_1_method_5_code 64 = .ok (.iload 5, 2) := by decide +kernel
set_option maxRecDepth 100000 in
theorem d_B_drain_66 : decode prog_1_method_5_code 66 = .ok (.invokevirtual 126, 3) := by decide +kernel
set_option maxRecDepth 100000 in
theorem d_B_drain_69 : decode prog_1_method_5_code 69 = .ok (.aload_n 2, 1) := by decide +kernel
set_option maxRecDepth 100000 in
theorem d_B_drain_70 : decode prog_1_method_5_code 70 = .ok (.getfield 98, 3) := by decide +kernel
set_option maxRecDepth 100000 in
theorem d_B_drain_73 : decode prog_1_method_5_code 73 = .ok (.invokevirtual 129, 3) := by decide +kernel
set_option maxRecDepth 100000 in
theorem d_B_drain_76 : decode prog_1_method_5_code 76 = .ok (.aload_n 0, 1) := by decide +kernel
set_option maxRecDepth 100000 in
theorem d_B_drain_77 : decode prog_1_method_5_code 77 = .ok (.getfield 34, 3) := by decide +kernel
set_option maxRecDepth 100000 in
theorem d_B_drain_80 : decode prog_1_method_5_code 80 = .ok (.iconst 1, 1) := by decide +kernel
set_option maxRecDepth 100000 in
theorem d_B_drain_81 : decode prog_1_method_5_code 81 = .ok (.aload_n 2, 1) := by decide +kernel
set_option maxRecDepth 100000 in
theorem d_B_drain_82 : decode prog_1_method_5_code 82 = .ok (.getfield 132, 3) := by decide +kernel
set_option maxRecDepth 100000 in
theorem d_B_drain_85 : decode prog_1_method_5_code 85 = .ok (.iload_n 3, 1) := by decide +kernel
set_option maxRecDepth 100000 in
theorem d_B_drain_86 : decode prog_1_method_5_code 86 = .ok (.iload 5, 2) := by decide +kernel
set_option maxRecDepth 100000 in
theorem d_B_drain_88 : decode prog_1_method_5_code 88 = .ok (.invokevirtual 135, 3) := by decide +kernel
set_option maxRecDepth 100000 in
theorem d_B_drain_91 : decode prog_1_method_5_code 91 = .ok (.iconst 1, 1) := by decide +kernel
set_option maxRecDepth 100000 in
theorem d_B_drain_92 : decode prog_1_method_5_code 92 = .ok (.ireturn, 1) := by decide +kernel
set_option maxRecDepth 100000 in
theorem d_Sb_removeOldest_0 : decode prog_7_method_4_code 0 = .ok (.aload_n 0, 1) := by decide +kernel
set_option maxRecDepth 100000 in
theorem d_Sb_removeOldest_1 : decode prog_7_method_4_code 1 = .ok (.dup, 1) := by decide +kernel
set_option maxRecDepth 100000 in
theorem d_Sb_removeOldest_2 : decode prog_7_method_4_code 2 = .ok (.getfield 16, 3) := by decide +kernel
set_option maxRecDepth 100000 in
theorem d_Sb_removeOldest_5 : decode prog_7_method_4_code 5 = .ok (.iconst 1, 1) := by decide +kernel
set_option maxRecDepth 100000 in
theorem d_Sb_removeOldest_6 : decode prog_7_method_4_code 6 = .ok (.isub, 1) := by decide +kernel
set_option maxRecDepth 100000 in
theorem d_Sb_removeOldest_7 : decode prog_7_method_4_code 7 = .ok (.putfield 16, 3) := by decide +kernel
set_option maxRecDepth 100000 in
theorem d_Sb_removeOldest_10 : decode prog_7_method_4_code 10 = .ok (.iconst 0, 1) := by decide +kernel
set_option maxRecDepth 100000 in
theorem d_Sb_removeOldest_11 : decode prog_7_method_4_code 11 = .ok (.istore_n 1, 1) := by decide +kernel
set_option maxRecDepth 100000 in
theorem d_Sb_removeOldest_12 : decode prog_7_method_4_code 12 = .ok (.iload_n 1, 1) := by decide +kernel
set_option maxRecDepth 100000 in
theorem d_Sb_removeOldest_13 : decode prog_7_method_4_code 13 = .ok (.aload_n 0, 1) := by decide +kernel
set_option maxRecDepth 100000 in
theorem d_Sb_removeOldest_14 : decode prog_7_method_4_code 14 = .ok (.getfield 16, 3) := by decide +kernel
set_option maxRecDepth 100000 in
theorem d_Sb_removeOldest_17 : decode prog_7_method_4_code 17 = .ok (.if_icmp .ge 37, 3) := by decide +kernel
set_option maxRecDepth 100000 in
theorem d_Sb_removeOldest_20 : decode prog_7_method_4_code 20 = .ok (.aload_n 0, 1) := by decide +kernel
set_option maxRecDepth 100000 in
theorem d_Sb_removeOldest_21 : decode prog_7_method_4_code 21 = .ok (.getfield 7, 3) := by decide +kernel
set_option maxRecDepth 100000 in
theorem d_Sb_removeOldest_24 : decode prog_7_method_4_code 24 = .ok (.iload_n 1, 1) := by decide +kernel
set_option maxRecDepth 100000 in
theorem d_Sb_removeOldest_25 : decode prog_7_method_4_code 25 = .ok (.aload_n 0, 1) := by decide +kernel
set_option maxRecDepth 100000 in
theorem d_Sb_removeOldest_26 : decode prog_7_method_4_code 26 = .ok (.getfield 7, 3) := by decide +kernel
set_option maxRecDepth 100000 in
theorem d_Sb_removeOldest_29 : decode prog_7_method_4_code 29 = .ok (.iload_n 1, 1) := by decide +kernel
set_option maxRecDepth 100000 in
theorem d_Sb_removeOldest_30 : decode prog_7_method_4_code 30 = .ok (.iconst 1, 1) := by decide +kernel
set_option maxRecDepth 100000 in
theorem d_Sb_removeOldest_31 : decode prog_7_method_4_code 31 = .ok (.iadd, 1) := by decide +kernel
set_option maxRecDepth 100000 in
theorem d_Sb_removeOldest_32 : decode prog_7_method_4_code 32 = .ok (.iaload, 1) := by decide +kernel
set_option maxRecDepth 100000 in
theorem d_Sb_removeOldest_33 : decode prog_7_method_4_code 33 = .ok (.iastore, 1) := by decide +kernel
set_option maxRecDepth 100000 in
theorem d_Sb_removeOldest_34 : decode prog_7_method_4_code 34 = .ok (.aload_n 0, 1) := by decide +kernel
set_option maxRecDepth 100000 in
theorem d_Sb_removeOldest_35 : decode prog_7_method_4_code 35 = .ok (.getfield 13, 3) := by decide +kernel
set_option maxRecDepth 100000 in
theorem d_Sb_removeOldest_38 : decode prog_7_method_4_code 38 = .ok (.iload_n 1, 1) := by decide +kernel
set_option maxRecDepth 100000 in
theorem d_Sb_removeOldest_39 : decode prog_7_method_4_code 39 = .ok (.aload_n 0, 1) := by decide +kernel
set_option maxRecDepth 100000 in
theorem d_Sb_removeOldest_40 : decode prog_7_method_4_code 40 = .ok (.getfield 13, 3) := by decide +kernel
set_option maxRecDepth 100000 in
theorem d_Sb_removeOldest_43 : decode prog_7_method_4_code 43 = .ok (.iload_n 1, 1) := by decide +kernel
set_option maxRecDepth 100000 in
theorem d_Sb_removeOldest_44 : decode prog_7_method_4_code 44 = .ok (.iconst 1, 1) := by decide +kernel
set_option maxRecDepth 100000 in
theorem d_Sb_removeOldest_45 : decode prog_7_method_4_code 45 = .ok (.iadd, 1) := by decide +kernel
set_option maxRecDepth 100000 in
theorem d_Sb_removeOldest_46 : decode prog_7_method_4_code 46 = .ok (.iaload, 1) := by decide +kernel
set_option maxRecDepth 100000 in
theorem d_Sb_removeOldest_47 : decode prog_7_method_4_code 47 = .ok (.iastore, 1) := by decide +kernel
set_option maxRecDepth 100000 in
theorem d_Sb_removeOldest_48 : decode prog_7_method_4_code 48 = .ok (.iinc 1 1, 3) := by decide +kernel
set_option maxRecDepth 100000 in
theorem d_Sb_removeOldest_51 : decode prog_7_method_4_code 51 = .ok (.goto (-39), 3) := by decide +kernel
set_option maxRecDepth 100000 in
theorem d_Sb_removeOldest_54 : decode prog_7_method_4_code 54 = .ok (.return_, 1) := by decide +kernel
set_option maxRecDepth 100000 in
theorem d_B_grant_0 : decode prog_1_method_6_code 0 = .ok (.aload_n 0, 1) := by decide +kernel
set_option maxRecDepth 100000 in
theorem d_B_grant_1 : decode prog_1_method_6_code 1 = .ok (.iload_n 1, 1) := by decide +kernel
set_option maxRecDepth 100000 in
theorem d_B_grant_2 : decode prog_1_method_6_code 2 = .ok (.invokevirtual 38, 3) := by decide +kernel
set_option maxRecDepth 100000 in
theorem d_B_grant_5 : decode prog_1_method_6_code 5 = .ok (.astore_n 2, 1) := by decide +kernel
set_option maxRecDepth 100000 in
theorem d_B_grant_6 : decode prog_1_method_6_code 6 = .ok (.aload_n 2, 1) := by decide +kernel
set_option maxRecDepth 100000 in
theorem d_B_grant_7 : decode prog_1_method_6_code 7 = .ok (.getfield 139, 3) := by decide +kernel
set_option maxRecDepth 100000 in
theorem d_B_grant_10 : decode prog_1_method_6_code 10 = .ok (.astore_n 3, 1) := by decide +kernel
set_option maxRecDepth 100000 in
theorem d_B_grant_11 : decode prog_1_method_6_code 11 = .ok (.aload_n 3, 1) := by decide +kernel
set_option maxRecDepth 100000 in
theorem d_B_grant_12 : decode prog_1_method_6_code 12 = .ok (.getfield 143, 3) := by decide +kernel
set_option maxRecDepth 100000 in
theorem d_B_grant_15 : decode prog_1_method_6_code 15 = .ok (.ifCond .eq 10, 3) := by decide +kernel
set_option maxRecDepth 100000 in
theorem d_B_grant_18 : decode prog_1_method_6_code 18 = .ok (.aload_n 3, 1) := by decide +kernel
set_option maxRecDepth 100000 in
theorem d_B_grant_19 : decode prog_1_method_6_code 19 = .ok (.getfield 148, 3) := by decide +kernel
set_option maxRecDepth 100000 in
theorem d_B_grant_22 : decode prog_1_method_6_code 22 = .ok (.ifCond .eq 5, 3) := by decide +kernel
set_option maxRecDepth 100000 in
theorem d_B_grant_25 : decode prog_1_method_6_code 25 = .ok (.iconst 3, 1) := by decide +kernel
set_option maxRecDepth 100000 in
theorem d_B_grant_26 : decode prog_1_method_6_code 26 = .ok (.ireturn, 1) := by decide +kernel
set_option maxRecDepth 100000 in
theorem d_B_grant_27 : decode prog_1_method_6_code 27 = .ok (.aload_n 3, 1) := by decide +kernel
set_option maxRecDepth 100000 in
theorem d_B_grant_28 : decode prog_1_method_6_code 28 = .ok (.getfield 152, 3) := by decide +kernel
set_option maxRecDepth 100000 in
theorem d_B_grant_31 : decode prog_1_method_6_code 31 = .ok (.istore 4, 2) := by decide +kernel
set_option maxRecDepth 100000 in
theorem d_B_grant_33 : decode prog_1_method_6_code 33 = .ok (.aload_n 0, 1) := by decide +kernel
set_option maxRecDepth 100000 in
theorem d_B_grant_34 : decode prog_1_method_6_code 34 = .ok (.aload_n 2, 1) := by decide +kernel
set_option maxRecDepth 100000 in
theorem d_B_grant_35 : decode prog_1_method_6_code 35 = .ok (.iload 4, 2) := by decide +kernel
set_option maxRecDepth 100000 in
theorem d_B_grant_37 : decode prog_1_method_6_code 37 = .ok (.invokevirtual 155, 3) := by decide +kernel
set_option maxRecDepth 100000 in
theorem d_B_grant_40 : decode prog_1_method_6_code 40 = .ok (.ifCond .eq 5, 3) := by decide +kernel
set_option maxRecDepth 100000 in
theorem d_B_grant_43 : decode prog_1_method_6_code 43 = .ok (.iconst 4, 1) := by decide +kernel
set_option maxRecDepth 100000 in
theorem d_B_grant_44 : decode prog_1_method_6_code 44 = .ok (.ireturn, 1) := by decide +kernel
set_option maxRecDepth 100000 in
theorem d_B_grant_45 : decode prog_1_method_6_code 45 = .ok (.aload_n 0, 1) := by decide +kernel
set_option maxRecDepth 100000 in
theorem d_B_grant_46 : decode prog_1_method_6_code 46 = .ok (.aload_n 2, 1) := by decide +kernel
set_option maxRecDepth 100000 in
theorem d_B_grant_47 : decode prog_1_method_6_code 47 = .ok (.iload 4, 2) := by decide +kernel
set_option maxRecDepth 100000 in
theorem d_B_grant_49 : decode prog_1_method_6_code 49 = .ok (.invokevirtual 110, 3) := by decide +kernel
set_option maxRecDepth 100000 in
theorem d_B_grant_52 : decode prog_1_method_6_code 52 = .ok (.iload 4, 2) := by decide +kernel
set_option maxRecDepth 100000 in
theorem d_B_grant_54 : decode prog_1_method_6_code 54 = .ok (.invokevirtual 159, 3) := by decide +kernel
set_option maxRecDepth 100000 in
theorem d_B_grant_57 : decode prog_1_method_6_code 57 = .ok (.aload_n 0, 1) := by decide +kernel
set_option maxRecDepth 100000 in
theorem d_B_grant_58 : decode prog_1_method_6_code 58 = .ok (.iload 4, 2) := by decide +kernel
set_option maxRecDepth 100000 in
theorem d_B_grant_60 : decode prog_1_method_6_code 60 = .ok (.invokevirtual 163, 3) := by decide +kernel
set_option maxRecDepth 100000 in
theorem d_B_grant_63 : decode prog_1_method_6_code 63 = .ok (.istore 5, 2) := by decide +kernel
set_option maxRecDepth 100000 in
theorem d_B_grant_65 : decode prog_1_method_6_code 65 = .ok (.iconst 0, 1) := by decide +kernel
set_option maxRecDepth 100000 in
theorem d_B_grant_66 : decode prog_1_method_6_code 66 = .ok (.istore 6, 2) := by decide +kernel
set_option maxRecDepth 100000 in
theorem d_B_grant_68 : decode prog_1_method_6_code 68 = .ok (.iload 6, 2) := by decide +kernel
set_option maxRecDepth 100000 in
theorem d_B_grant_70 : decode prog_1_method_6_code 70 = .ok (.iconst 3, 1) := by decide +kernel
set_option maxRecDepth 100000 in
theorem d_B_grant_71 : decode prog_1_method_6_code 71 = .ok (.if_icmp .ge 42, 3) := by decide +kernel
set_option maxRecDepth 100000 in
theorem d_B_grant_74 : decode prog_1_method_6_code 74 = .ok (.aload_n 0, 1) := by decide +kernel
set_option maxRecDepth 100000 in
theorem d_B_grant_75 : decode prog_1_method_6_code 75 = .ok (.getfield 24, 3) := by decide +kernel
set_option maxRecDepth 100000 in
theorem d_B_grant_78 : decode prog_1_method_6_code 78 = .ok (.iload 6, 2) := by decide +kernel
set_option maxRecDepth 100000 in
theorem d_B_grant_80 : decode prog_1_method_6_code 80 = .ok (.aaload, 1) := by decide +kernel
set_option maxRecDepth 100000 in
theorem d_B_grant_81 : decode prog_1_method_6_code 81 = .ok (.aload_n 2, 1) := by decide +kernel
set_option maxRecDepth 100000 in
theorem d_B_grant_82 : decode prog_1_method_6_code 82 = .ok (.if_acmp .eq 25, 3) := by decide +kernel
set_option maxRecDepth 100000 in
theorem d_B_grant_85 : decode prog_1_method_6_code 85 = .ok (.aload_n 0, 1) := by decide +kernel
set_option maxRecDepth 100000 in
theorem d_B_grant_86 : decode prog_1_method_6_code 86 = .ok (.aload_n 0, 1) := by decide +kernel
set_option maxRecDepth 100000 in
theorem d_B_grant_87 : decode prog_1_method_6_code 87 = .ok (.getfield 24, 3) := by decide +kernel
set_option maxRecDepth 100000 in
theorem d_B_grant_90 : decode prog_1_method_6_code 90 = .ok (.iload 6, 2) := by decide +kernel
set_option maxRecDepth 100000 in
theorem d_B_grant_92 : decode prog_1_method_6_code 92 = .ok (.aaload, 1) := by decide +kernel
set_option maxRecDepth 100000 in
theorem d_B_grant_93 : decode prog_1_method_6_code 93 = .ok (.iload 4, 2) := by decide +kernel
set_option maxRecDepth 100000 in
theorem d_B_grant_95 : decode prog_1_method_6_code 95 = .ok (.invokevirtual 110, 3) := by decide +kernel
set_option maxRecDepth 100000 in
theorem d_B_grant_98 : decode prog_1_method_6_code 98 = .ok (.iload 4, 2) := by decide +kernel
set_option maxRecDepth 100000 in
theorem d_B_grant_100 : decode prog_1_method_6_code 100 = .ok (.aload_n 3, 1) := by decide +kernel
set_option maxRecDepth 100000 in
theorem d_B_grant_101 : decode prog_1_method_6_code 101 = .ok (.getfield 143, 3) := by decide +kernel
set_option maxRecDepth 100000 in
theorem d_B_grant_104 : decode prog_1_method_6_code 104 = .ok (.invokevirtual 167, 3) := by decide +kernel
set_option maxRecDepth 100000 in
theorem d_B_grant_107 : decode prog_1_method_6_code 107 = .ok (.iinc 6 1, 3) := by decide +kernel
set_option maxRecDepth 100000 in
theorem d_B_grant_110 : decode prog_1_method_6_code 110 = .ok (.goto (-42), 3) := by decide +kernel
set_option maxRecDepth 100000 in
theorem d_B_grant_113 : decode prog_1_method_6_code 113 = .ok (.aload_n 3, 1) := by decide +kernel
set_option maxRecDepth 100000 in
theorem d_B_grant_114 : decode prog_1_method_6_code 114 = .ok (.iload 5, 2) := by decide +kernel
set_option maxRecDepth 100000 in
theorem d_B_grant_116 : decode prog_1_method_6_code 116 = .ok (.invokevirtual 171, 3) := by decide +kernel
set_option maxRecDepth 100000 in
theorem d_B_grant_119 : decode prog_1_method_6_code 119 = .ok (.iconst 1, 1) := by decide +kernel
set_option maxRecDepth 100000 in
theorem d_B_grant_120 : decode prog_1_method_6_code 120 = .ok (.ireturn, 1) := by decide +kernel
set_option maxRecDepth 100000 in
theorem d_B_isInFlightElsewhere_0 : decode prog_1_method_35_code 0 = .ok (.iconst 0, 1) := by decide +kernel
set_option maxRecDepth 100000 in
theorem d_B_isInFlightElsewhere_1 : decode prog_1_method_35_code 1 = .ok (.istore_n 3, 1) := by decide +kernel
set_option maxRecDepth 100000 in
theorem d_B_isInFlightElsewhere_2 : decode prog_1_method_35_code 2 = .ok (.iload_n 3, 1) := by decide +kernel
set_option maxRecDepth 100000 in
theorem d_B_isInFlightElsewhere_3 : decode prog_1_method_35_code 3 = .ok (.iconst 3, 1) := by decide +kernel
set_option maxRecDepth 100000 in
theorem d_B_isInFlightElsewhere_4 : decode prog_1_method_35_code 4 = .ok (.if_icmp .ge 37, 3) := by decide +kernel
set_option maxRecDepth 100000 in
theorem d_B_isInFlightElsewhere_7 : decode prog_1_method_35_code 7 = .ok (.aload_n 0, 1) := by decide +kernel
set_option maxRecDepth 100000 in
theorem d_B_isInFlightElsewhere_8 : decode prog_1_method_35_code 8 = .ok (.getfield 24, 3) := by decide +kernel
set_option maxRecDepth 100000 in
theorem d_B_isInFlightElsewhere_11 : decode prog_1_method_35_code 11 = .ok (.iload_n 3, 1) := by decide +kernel
set_option maxRecDepth 100000 in
theorem d_B_isInFlightElsewhere_12 : decode prog_1_method_35_code 12 = .ok (.aaload, 1) := by decide +kernel
set_option maxRecDepth 100000 in
theorem d_B_isInFlightElsewhere_13 : decode prog_1_method_35_code 13 = .ok (.aload_n 1, 1) := by decide +kernel
set_option maxRecDepth 100000 in
theorem d_B_isInFlightElsewhere_14 : decode prog_1_method_35_code 14 = .ok (.if_acmp .eq 21, 3) := by decide +kernel
set_option maxRecDepth 100000 in
theorem d_B_isInFlightElsewhere_17 : decode prog_1_method_35_code 17 = .ok (.aload_n 0, 1) := by decide +kernel
set_option maxRecDepth 100000 in
theorem d_B_isInFlightElsewhere_18 : decode prog_1_method_35_code 18 = .ok (.getfield 24, 3) := by decide +kernel
set_option maxRecDepth 100000 in
theorem d_B_isInFlightElsewhere_21 : decode prog_1_method_35_code 21 = .ok (.iload_n 3, 1) := by decide +kernel
set_option maxRecDepth 100000 in
theorem d_B_isInFlightElsewhere_22 : decode prog_1_method_35_code 22 = .ok (.aaload, 1) := by decide +kernel
set_option maxRecDepth 100000 in
theorem d_B_isInFlightElsewhere_23 : decode prog_1_method_35_code 23 = .ok (.getfield 139, 3) := by decide +kernel
set_option maxRecDepth 100000 in
theorem d_B_isInFlightElsewhere_26 : decode prog_1_method_35_code 26 = .ok (.iload_n 2, 1) := by decide +kernel
set_option maxRecDepth 100000 in
theorem d_B_isInFlightElsewhere_27 : decode prog_1_method_35_code 27 = .ok (.invokevirtual 266, 3) := by decide +kernel
set_option maxRecDepth 100000 in
theorem d_B_isInFlightElsewhere_30 : decode prog_1_method_35_code 30 = .ok (.ifCond .eq 5, 3) := by decide +kernel
set_option maxRecDepth 100000 in
theorem d_B_isInFlightElsewhere_33 : decode prog_1_method_35_code 33 = .ok (.iconst 1, 1) := by decide +kernel
set_option maxRecDepth 100000 in
theorem d_B_isInFlightElsewhere_34 : decode prog_1_method_35_code 34 = .ok (.ireturn, 1) := by decide +kernel
set_option maxRecDepth 100000 in
theorem d_B_isInFlightElsewhere_35 : decode prog_1_method_35_code 35 = .ok (.iinc 3 1, 3) := by decide +kernel
set_option maxRecDepth 100000 in
theorem d_B_isInFlightElsewhere_38 : decode prog_1_method_35_code 38 = .ok (.goto (-36), 3) := by decide +kernel
set_option maxRecDepth 100000 in
theorem d_B_isInFlightElsewhere_41 : decode prog_1_method_35_code 41 = .ok (.iconst 0, 1) := by decide +kernel
set_option maxRecDepth 100000 in
theorem d_B_isInFlightElsewhere_42 : decode prog_1_method_35_code 42 = .ok (.ireturn, 1) := by decide +kernel
set_option maxRecDepth 100000 in
theorem d_B_makeRoom_0 : decode prog_1_method_37_code 0 = .ok (.aload_n 1, 1) := by decide +kernel
set_option maxRecDepth 100000 in
theorem d_B_makeRoom_1 : decode prog_1_method_37_code 1 = .ok (.iload_n 2, 1) := by decide +kernel
set_option maxRecDepth 100000 in
theorem d_B_makeRoom_2 : decode prog_1_method_37_code 2 = .ok (.invokevirtual 208, 3) := by decide +kernel
set_option maxRecDepth 100000 in
theorem d_B_makeRoom_5 : decode prog_1_method_37_code 5 = .ok (.ifCond .ne 13, 3) := by decide +kernel
set_option maxRecDepth 100000 in
theorem d_B_makeRoom_8 : decode prog_1_method_37_code 8 = .ok (.aload_n 0, 1) := by decide +kernel
set_option maxRecDepth 100000 in
theorem d_B_makeRoom_9 : decode prog_1_method_37_code 9 = .ok (.aload_n 1, 1) := by decide +kernel
set_option maxRecDepth 100000 in
theorem d_B_makeRoom_10 : decode prog_1_method_37_code 10 = .ok (.invokevirtual 269, 3) := by decide +kernel
set_option maxRecDepth 100000 in
theorem d_B_makeRoom_13 : decode prog_1_method_37_code 13 = .ok (.aload_n 1, 1) := by decide +kernel
set_option maxRecDepth 100000 in
theorem d_B_makeRoom_14 : decode prog_1_method_37_code 14 = .ok (.iconst 0, 1) := by decide +kernel
set_option maxRecDepth 100000 in
theorem d_B_makeRoom_15 : decode prog_1_method_37_code 15 = .ok (.putfield 204, 3) := by decide +kernel
set_option maxRecDepth 100000 in
theorem d_B_makeRoom_18 : decode prog_1_method_37_code 18 = .ok (.return_, 1) := by decide +kernel
set_option maxRecDepth 100000 in
theorem d_B_writeBack_0 : decode prog_1_method_39_code 0 = .ok (.aload_n 1, 1) := by decide +kernel
set_option maxRecDepth 100000 in
theorem d_B_writeBack_1 : decode prog_1_method_39_code 1 = .ok (.getfield 204, 3) := by decide +kernel
set_option maxRecDepth 100000 in
theorem d_B_writeBack_4 : decode prog_1_method_39_code 4 = .ok (.iconst 3, 1) := by decide +kernel
set_option maxRecDepth 100000 in
theorem d_B_writeBack_5 : decode prog_1_method_39_code 5 = .ok (.if_icmp .ne 16, 3) := by decide +kernel
set_option maxRecDepth 100000 in
theorem d_B_writeBack_8 : decode prog_1_method_39_code 8 = .ok (.aload_n 0, 1) := by decide +kernel
set_option maxRecDepth 100000 in
theorem d_B_writeBack_9 : decode prog_1_method_39_code 9 = .ok (.getfield 18, 3) := by decide +kernel
set_option maxRecDepth 100000 in
theorem d_B_writeBack_12 : decode prog_1_method_39_code 12 = .ok (.aload_n 1, 1) := by decide +kernel
set_option maxRecDepth 100000 in
theorem d_B_writeBack_13 : decode prog_1_method_39_code 13 = .ok (.getfield 207, 3) := by decide +kernel
set_option maxRecDepth 100000 in
theorem d_B_writeBack_16 : decode prog_1_method_39_code 16 = .ok (.aload_n 1, 1) := by decide +kernel
set_option maxRecDepth 100000 in
theorem d_B_writeBack_17 : decode prog_1_method_39_code 17 = .ok (.getfield 216, 3) := by decide +kernel
set_option maxRecDepth 100000 in
theorem d_B_writeBack_20 : decode prog_1_method_39_code 20 = .ok (.iastore, 1) := by decide +kernel
set_option maxRecDepth 100000 in
theorem d_B_writeBack_21 : decode prog_1_method_39_code 21 = .ok (.return_, 1) := by decide +kernel
set_option maxRecDepth 100000 in
theorem d_B_wordAt_0 : decode prog_1_method_33_code 0 = .ok (.iconst 0, 1) := by decide +kernel
set_option maxRecDepth 100000 in
theorem d_B_wordAt_1 : decode prog_1_method_33_code 1 = .ok (.istore_n 2, 1) := by decide +kernel
set_option maxRecDepth 100000 in
theorem d_B_wordAt_2 : decode prog_1_method_33_code 2 = .ok (.iload_n 2, 1) := by decide +kernel
set_option maxRecDepth 100000 in
theorem d_B_wordAt_3 : decode prog_1_method_33_code 3 = .ok (.iconst 3, 1) := by decide +kernel
set_option maxRecDepth 100000 in
theorem d_B_wordAt_4 : decode prog_1_method_33_code 4 = .ok (.if_icmp .ge 41, 3) := by decide +kernel
set_option maxRecDepth 100000 in
theorem d_B_wordAt_7 : decode prog_1_method_33_code 7 = .ok (.aload_n 0, 1) := by decide +kernel
set_option maxRecDepth 100000 in
theorem d_B_wordAt_8 : decode prog_1_method_33_code 8 = .ok (.getfield 24, 3) := by decide +kernel
set_option maxRecDepth 100000 in
theorem d_B_wordAt_11 : decode prog_1_method_33_code 11 = .ok (.iload_n 2, 1) := by decide +kernel
set_option maxRecDepth 100000 in
theorem d_B_wordAt_12 : decode prog_1_method_33_code 12 = .ok (.aaload, 1) := by decide +kernel
set_option maxRecDepth 100000 in
theorem d_B_wordAt_13 : decode prog_1_method_33_code 13 = .ok (.iload_n 1, 1) := by decide +kernel
set_option maxRecDepth 100000 in
theorem d_B_wordAt_14 : decode prog_1_method_33_code 14 = .ok (.invokevirtual 110, 3) := by decide +kernel
set_option maxRecDepth 100000 in
theorem d_B_wordAt_17 : decode prog_1_method_33_code 17 = .ok (.astore_n 3, 1) := by decide +kernel
set_option maxRecDepth 100000 in
theorem d_B_wordAt_18 : decode prog_1_method_33_code 18 = .ok (.aload_n 3, 1) := by decide +kernel
set_option maxRecDepth 100000 in
theorem d_B_wordAt_19 : decode prog_1_method_33_code 19 = .ok (.iload_n 1, 1) := by decide +kernel
set_option maxRecDepth 100000 in
theorem d_B_wordAt_20 : decode prog_1_method_33_code 20 = .ok (.invokevirtual 208, 3) := by decide +kernel
set_option maxRecDepth 100000 in
theorem d_B_wordAt_23 : decode prog_1_method_33_code 23 = .ok (.ifCond .eq 16, 3) := by decide +kernel
set_option maxRecDepth 100000 in
theorem d_B_wordAt_26 : decode prog_1_method_33_code 26 = .ok (.aload_n 3, 1) := by decide +kernel
set_option maxRecDepth 100000 in
theorem d_B_wordAt_27 : decode prog_1_method_33_code 27 = .ok (.getfield 204, 3) := by decide +kernel
set_option maxRecDepth 100000 in
theorem d_B_wordAt_30 : decode prog_1_method_33_code 30 = .ok (.iconst 3, 1) := by decide +kernel
set_option maxRecDepth 100000 in
theorem d_B_wordAt_31 : decode prog_1_method_33_code 31 = .ok (.if_icmp .ne 8, 3) := by decide +kernel
set_option maxRecDepth 100000 in
theorem d_B_wordAt_34 : decode prog_1_method_33_code 34 = .ok (.aload_n 3, 1) := by decide +kernel
set_option maxRecDepth 100000 in
theorem d_B_wordAt_35 : decode prog_1_method_33_code 35 = .ok (.getfield 216, 3) := by decide +kernel
set_option maxRecDepth 100000 in
theorem d_B_wordAt_38 : decode prog_1_method_33_code 38 = .ok (.ireturn, 1) := by decide +kernel
set_option maxRecDepth 100000 in
theorem d_B_wordAt_39 : decode prog_1_method_33_code 39 = .ok (.iinc 2 1, 3) := by decide +kernel
set_option maxRecDepth 100000 in
theorem d_B_wordAt_42 : decode prog_1_method_33_code 42 = .ok (.goto (-40), 3) := by decide +kernel
set_option maxRecDepth 100000 in
theorem d_B_wordAt_45 : decode prog_1_method_33_code 45 = .ok (.aload_n 0, 1) := by decide +kernel
set_option maxRecDepth 100000 in
theorem d_B_wordAt_46 : decode prog_1_method_33_code 46 = .ok (.getfield 18, 3) := by decide +kernel
set_option maxRecDepth 100000 in
theorem d_B_wordAt_49 : decode prog_1_method_33_code 49 = .ok (.iload_n 1, 1) := by decide +kernel
set_option maxRecDepth 100000 in
theorem d_B_wordAt_50 : decode prog_1_method_33_code 50 = .ok (.iaload, 1) := by decide +kernel
set_option maxRecDepth 100000 in
theorem d_B_wordAt_51 : decode prog_1_method_33_code 51 = .ok (.ireturn, 1) := by decide +kernel
set_option maxRecDepth 100000 in
theorem d_B_giveWay_0 : decode prog_1_method_38_code 0 = .ok (.aload_n 1, 1) := by decide +kernel
set_option maxRecDepth 100000 in
theorem d_B_giveWay_1 : decode prog_1_method_38_code 1 = .ok (.iload_n 2, 1) := by decide +kernel
set_option maxRecDepth 100000 in
theorem d_B_giveWay_2 : decode prog_1_method_38_code 2 = .ok (.invokevirtual 208, 3) := by decide +kernel
set_option maxRecDepth 100000 in
theorem d_B_giveWay_5 : decode prog_1_method_38_code 5 = .ok (.ifCond .eq 22, 3) := by decide +kernel
set_option maxRecDepth 100000 in
theorem d_B_giveWay_8 : decode prog_1_method_38_code 8 = .ok (.aload_n 0, 1) := by decide +kernel
set_option maxRecDepth 100000 in
theorem d_B_giveWay_9 : decode prog_1_method_38_code 9 = .ok (.aload_n 1, 1) := by decide +kernel
set_option maxRecDepth 100000 in
theorem d_B_giveWay_10 : decode prog_1_method_38_code 10 = .ok (.invokevirtual 269, 3) := by decide +kernel
set_option maxRecDepth 100000 in
theorem d_B_giveWay_13 : decode prog_1_method_38_code 13 = .ok (.aload_n 1, 1) := by decide +kernel
set_option maxRecDepth 100000 in
theorem d_B_giveWay_14 : decode prog_1_method_38_code 14 = .ok (.iload_n 3, 1) := by decide +kernel
set_option maxRecDepth 100000 in
theorem d_B_giveWay_15 : decode prog_1_method_38_code 15 = .ok (.iconst 1, 1) := by decide +kernel
set_option maxRecDepth 100000 in
theorem d_B_giveWay_16 : decode prog_1_method_38_code 16 = .ok (.if_icmp .ne 7, 3) := by decide +kernel
set_option maxRecDepth 100000 in
theorem d_B_giveWay_19 : decode prog_1_method_38_code 19 = .ok (.iconst 1, 1) := by decide +kernel
set_option maxRecDepth 100000 in
theorem d_B_giveWay_20 : decode prog_1_method_38_code 20 = .ok (.goto 4, 3) := by decide +kernel
set_option maxRecDepth 100000 in
theorem d_B_giveWay_23 : decode prog_1_method_38_code 23 = .ok (.iconst 0, 1) := by decide +kernel
set_option maxRecDepth 100000 in
theorem d_B_giveWay_24 : decode prog_1_method_38_code 24 = .ok (.putfield 204, 3) := by decide +kernel
set_option maxRecDepth 100000 in
theorem d_B_giveWay_27 : decode prog_1_method_38_code 27 = .ok (.return_, 1) := by decide +kernel
set_option maxRecDepth 100000 in
theorem d_Rq_takeOff_0 : decode prog_6_method_4_code 0 = .ok (.aload_n 0, 1) := by decide +kernel
set_option maxRecDepth 100000 in
theorem d_Rq_takeOff_1 : decode prog_6_method_4_code 1 = .ok (.iconst 1, 1) := by decide +kernel
set_option maxRecDepth 100000 in
theorem d_Rq_takeOff_2 : decode prog_6_method_4_code 2 = .ok (.putfield 9, 3) := by decide +kernel
set_option maxRecDepth 100000 in
theorem d_Rq_takeOff_5 : decode prog_6_method_4_code 5 = .ok (.aload_n 0, 1) := by decide +kernel
set_option maxRecDepth 100000 in
theorem d_Rq_takeOff_6 : decode prog_6_method_4_code 6 = .ok (.iload_n 1, 1) := by decide +kernel
set_option maxRecDepth 100000 in
theorem d_Rq_takeOff_7 : decode prog_6_method_4_code 7 = .ok (.putfield 22, 3) := by decide +kernel
set_option maxRecDepth 100000 in
theorem d_Rq_takeOff_10 : decode prog_6_method_4_code 10 = .ok (.return_, 1) := by decide +kernel
set_option maxRecDepth 100000 in
theorem d_B_fill_0 : decode prog_1_method_7_code 0 = .ok (.aload_n 0, 1) := by decide +kernel
set_option maxRecDepth 100000 in
theorem d_B_fill_1 : decode prog_1_method_7_code 1 = .ok (.iload_n 1, 1) := by decide +kernel
set_option maxRecDepth 100000 in
theorem d_B_fill_2 : decode prog_1_method_7_code 2 = .ok (.invokevirtual 38, 3) := by decide +kernel
set_option maxRecDepth 100000 in
theorem d_B_fill_5 : decode prog_1_method_7_code 5 = .ok (.astore_n 2, 1) := by decide +kernel
set_option maxRecDepth 100000 in
theorem d_B_fill_6 : decode prog_1_method_7_code 6 = .ok (.aload_n 2, 1) := by decide +kernel
set_option maxRecDepth 100000 in
theorem d_B_fill_7 : decode prog_1_method_7_code 7 = .ok (.getfield 139, 3) := by decide +kernel
set_option maxRecDepth 100000 in
theorem d_B_fill_10 : decode prog_1_method_7_code 10 = .ok (.astore_n 3, 1) := by decide +kernel
set_option maxRecDepth 100000 in
theorem d_B_fill_11 : decode prog_1_method_7_code 11 = .ok (.aload_n 3, 1) := by decide +kernel
set_option maxRecDepth 100000 in
theorem d_B_fill_12 : decode prog_1_method_7_code 12 = .ok (.getfield 148, 3) := by decide +kernel
set_option maxRecDepth 100000 in
theorem d_B_fill_15 : decode prog_1_method_7_code 15 = .ok (.ifCond .ne 5, 3) := by decide +kernel
set_option maxRecDepth 100000 in
theorem d_B_fill_18 : decode prog_1_method_7_code 18 = .ok (.iconst 3, 1) := by decide +kernel
set_option maxRecDepth 100000 in
theorem d_B_fill_19 : decode prog_1_method_7_code 19 = .ok (.ireturn, 1) := by decide +kernel
set_option maxRecDepth 100000 in
theorem d_B_fill_20 : decode prog_1_method_7_code 20 = .ok (.aload_n 3, 1) := by decide +kernel
set_option maxRecDepth 100000 in
theorem d_B_fill_21 : decode prog_1_method_7_code 21 = .ok (.getfield 152, 3) := by decide +kernel
set_option maxRecDepth 100000 in
theorem d_B_fill_24 : decode prog_1_method_7_code 24 = .ok (.istore 4, 2) := by decide +kernel
set_option maxRecDepth 100000 in
theorem d_B_fill_26 : decode prog_1_method_7_code 26 = .ok (.aload_n 3, 1) := by decide +kernel
set_option maxRecDepth 100000 in
theorem d_B_fill_27 : decode prog_1_method_7_code 27 = .ok (.getfield 143, 3) := by decide +kernel
set_option maxRecDepth 100000 in
theorem d_B_fill_30 : decode prog_1_method_7_code 30 = .ok (.iconst 2, 1) := by decide +kernel
set_option maxRecDepth 100000 in
theorem d_B_fill_31 : decode prog_1_method_7_code 31 = .ok (.if_icmp .eq 13, 3) := by decide +kernel
set_option maxRecDepth 100000 in
theorem d_B_fill_34 : decode prog_1_method_7_code 34 = .ok (.aload_n 0, 1) := by decide +kernel
set_option maxRecDepth 100000 in
theorem d_B_fill_35 : decode prog_1_method_7_code 35 = .ok (.aload_n 2, 1) := by decide +kernel
set_option maxRecDepth 100000 in
theorem d_B_fill_36 : decode prog_1_method_7_code 36 = .ok (.iload 4, 2) := by decide +kernel
set_option maxRecDepth 100000 in
theorem d_B_fill_38 : decode prog_1_method_7_code 38 = .ok (.invokevirtual 174, 3) := by decide +kernel
set_option maxRecDepth 100000 in
theorem d_B_fill_41 : decode prog_1_method_7_code 41 = .ok (.ifCond .ne 7, 3) := by decide +kernel
set_option maxRecDepth 100000 in
theorem d_B_fill_44 : decode prog_1_method_7_code 44 = .ok (.iconst 1, 1) := by decide +kernel
set_option maxRecDepth 100000 in
theorem d_B_fill_45 : decode prog_1_method_7_code 45 = .ok (.goto 4, 3) := by decide +kernel
set_option maxRecDepth 100000 in
theorem d_B_fill_48 : decode prog_1_method_7_code 48 = .ok (.iconst 0, 1) := by decide +kernel
set_option maxRecDepth 100000 in
theorem d_B_fill_49 : decode prog_1_method_7_code 49 = .ok (.istore 5, 2) := by decide +kernel
set_option maxRecDepth 100000 in
theorem d_B_fill_51 : decode prog_1_method_7_code 51 = .ok (.aload_n 2, 1) := by decide +kernel
set_option maxRecDepth 100000 in
theorem d_B_fill_52 : decode prog_1_method_7_code 52 = .ok (.iload 4, 2) := by decide +kernel
set_option maxRecDepth 100000 in
theorem d_B_fill_54 : decode prog_1_method_7_code 54 = .ok (.invokevirtual 110, 3) := by decide +kernel
set_option maxRecDepth 100000 in
theorem d_B_fill_57 : decode prog_1_method_7_code 57 = .ok (.iload 5, 2) := by decide +kernel
set_option maxRecDepth 100000 in
theorem d_B_fill_59 : decode prog_1_method_7_code 59 = .ok (.ifCond .eq 7, 3) := by decide +kernel
set_option maxRecDepth 100000 in
theorem d_B_fill_62 : decode prog_1_method_7_code 62 = .ok (.iconst 2, 1) := by decide +kernel
set_option maxRecDepth 100000 in
theorem d_B_fill_63 : decode prog_1_method_7_code 63 = .ok (.goto 4, 3) := by decide +kernel
set_option maxRecDepth 100000 in
theorem d_B_fill_66 : decode prog_1_method_7_code 66 = .ok (.iconst 1, 1) := by decide +kernel
set_option maxRecDepth 100000 in
theorem d_B_fill_67 : decode prog_1_method_7_code 67 = .ok (.iload 4, 2) := by decide +kernel
set_option maxRecDepth 100000 in
theorem d_B_fill_69 : decode prog_1_method_7_code 69 = .ok (.aload_n 3, 1) := by decide +kernel
set_option maxRecDepth 100000 in
theorem d_B_fill_70 : decode prog_1_method_7_code 70 = .ok (.getfield 177, 3) := by decide +kernel
set_option maxRecDepth 100000 in
theorem d_B_fill_73 : decode prog_1_method_7_code 73 = .ok (.invokevirtual 180, 3) := by decide +kernel
set_option maxRecDepth 100000 in
theorem d_B_fill_76 : decode prog_1_method_7_code 76 = .ok (.aload_n 3, 1) := by decide +kernel
set_option maxRecDepth 100000 in
theorem d_B_fill_77 : decode prog_1_method_7_code 77 = .ok (.invokevirtual 183, 3) := by decide +kernel
set_option maxRecDepth 100000 in
theorem d_B_fill_80 : decode prog_1_method_7_code 80 = .ok (.iconst 1, 1) := by decide +kernel
set_option maxRecDepth 100000 in
theorem d_B_fill_81 : decode prog_1_method_7_code 81 = .ok (.ireturn, 1) := by decide +kernel
set_option maxRecDepth 100000 in
theorem d_B_isHeldElsewhere_0 : decode prog_1_method_36_code 0 = .ok (.iconst 0, 1) := by decide +kernel
set_option maxRecDepth 100000 in
theorem d_B_isHeldElsewhere_1 : decode prog_1_method_36_code 1 = .ok (.istore_n 3, 1) := by decide +kernel
set_option maxRecDepth 100000 in
theorem d_B_isHeldElsewhere_2 : decode prog_1_method_36_code 2 = .ok (.iload_n 3, 1) := by decide +kernel
set_option maxRecDepth 100000 in
theorem d_B_isHeldElsewhere_3 : decode prog_1_method_36_code 3 = .ok (.iconst 3, 1) := by decide +kernel
set_option maxRecDepth 100000 in
theorem d_B_isHeldElsewhere_4 : decode prog_1_method_36_code 4 = .ok (.if_icmp .ge 38, 3) := by decide +kernel
set_option maxRecDepth 100000 in
theorem d_B_isHeldElsewhere_7 : decode prog_1_method_36_code 7 = .ok (.aload_n 0, 1) := by decide +kernel
set_option maxRecDepth 100000 in
theorem d_B_isHeldElsewhere_8 : decode prog_1_method_36_code 8 = .ok (.getfield 24, 3) := by decide +kernel
set_option maxRecDepth 100000 in
theorem d_B_isHeldElsewhere_11 : decode prog_1_method_36_code 11 = .ok (.iload_n 3, 1) := by decide +kernel
set_option maxRecDepth 100000 in
theorem d_B_isHeldElsewhere_12 : decode prog_1_method_36_code 12 = .ok (.aaload, 1) := by decide +kernel
set_option maxRecDepth 100000 in
theorem d_B_isHeldElsewhere_13 : decode prog_1_method_36_code 13 = .ok (.aload_n 1, 1) := by decide +kernel
set_option maxRecDepth 100000 in
theorem d_B_isHeldElsewhere_14 : decode prog_1_method_36_code 14 = .ok (.if_acmp .eq 22, 3) := by decide +kernel
set_option maxRecDepth 100000 in
theorem d_B_isHeldElsewhere_17 : decode prog_1_method_36_code 17 = .ok (.aload_n 0, 1) := by decide +kernel
set_option maxRecDepth 100000 in
theorem d_B_isHeldElsewhere_18 : decode prog_1_method_36_code 18 = .ok (.getfield 24, 3) := by decide +kernel
set_option maxRecDepth 100000 in
theorem d_B_isHeldElsewhere_21 : decode prog_1_method_36_code 21 = .ok (.iload_n 3, 1) := by decide +kernel
set_option maxRecDepth 100000 in
theorem d_B_isHeldElsewhere_22 : decode prog_1_method_36_code 22 = .ok (.aaload, 1) := by decide +kernel
set_option maxRecDepth 100000 in
theorem d_B_isHeldElsewhere_23 : decode prog_1_method_36_code 23 = .ok (.iload_n 2, 1) := by decide +kernel
set_option maxRecDepth 100000 in
theorem d_B_isHeldElsewhere_24 : decode prog_1_method_36_code 24 = .ok (.invokevirtual 110, 3) := by decide +kernel
set_option maxRecDepth 100000 in
theorem d_B_isHeldElsewhere_27 : decode prog_1_method_36_code 27 = .ok (.iload_n 2, 1) := by decide +kernel
set_option maxRecDepth 100000 in
theorem d_B_isHeldElsewhere_28 : decode prog_1_method_36_code 28 = .ok (.invokevirtual 208, 3) := by decide +kernel
set_option maxRecDepth 100000 in
theorem d_B_isHeldElsewhere_31 : decode prog_1_method_36_code 31 = .ok (.ifCond .eq 5, 3) := by decide +kernel
set_option maxRecDepth 100000 in
theorem d_B_isHeldElsewhere_34 : decode prog_1_method_36_code 34 = .ok (.iconst 1, 1) := by decide +kernel
set_option maxRecDepth 100000 in
theorem d_B_isHeldElsewhere_35 : decode prog_1_method_36_code 35 = .ok (.ireturn, 1) := by decide +kernel
set_option maxRecDepth 100000 in
theorem d_B_isHeldElsewhere_36 : decode prog_1_method_36_code 36 = .ok (.iinc 3 1, 3) := by decide +kernel
set_option maxRecDepth 100000 in
theorem d_B_isHeldElsewhere_39 : decode prog_1_method_36_code 39 = .ok (.goto (-37), 3) := by decide +kernel
set_option maxRecDepth 100000 in
theorem d_B_isHeldElsewhere_42 : decode prog_1_method_36_code 42 = .ok (.iconst 0, 1) := by decide +kernel
set_option maxRecDepth 100000 in
theorem d_B_isHeldElsewhere_43 : decode prog_1_method_36_code 43 = .ok (.ireturn, 1) := by decide +kernel
set_option maxRecDepth 100000 in
theorem d_Li_take_0 : decode prog_3_method_4_code 0 = .ok (.aload_n 0, 1) := by decide +kernel
set_option maxRecDepth 100000 in
theorem d_Li_take_1 : decode prog_3_method_4_code 1 = .ok (.iload_n 1, 1) := by decide +kernel
set_option maxRecDepth 100000 in
theorem d_Li_take_2 : decode prog_3_method_4_code 2 = .ok (.putfield 9, 3) := by decide +kernel
set_option maxRecDepth 100000 in
theorem d_Li_take_5 : decode prog_3_method_4_code 5 = .ok (.aload_n 0, 1) := by decide +kernel
set_option maxRecDepth 100000 in
theorem d_Li_take_6 : decode prog_3_method_4_code 6 = .ok (.iload_n 2, 1) := by decide +kernel
set_option maxRecDepth 100000 in
theorem d_Li_take_7 : decode prog_3_method_4_code 7 = .ok (.putfield 15, 3) := by decide +kernel
set_option maxRecDepth 100000 in
theorem d_Li_take_10 : decode prog_3_method_4_code 10 = .ok (.aload_n 0, 1) := by decide +kernel
set_option maxRecDepth 100000 in
theorem d_Li_take_11 : decode prog_3_method_4_code 11 = .ok (.iload_n 3, 1) := by decide +kernel
set_option maxRecDepth 100000 in
theorem d_Li_take_12 : decode prog_3_method_4_code 12 = .ok (.putfield 22, 3) := by decide +kernel
set_option maxRecDepth 100000 in
theorem d_Li_take_15 : decode prog_3_method_4_code 15 = .ok (.return_, 1) := by decide +kernel
set_option maxRecDepth 100000 in
theorem d_Rq_forget_0 : decode prog_6_method_5_code 0 = .ok (.aload_n 0, 1) := by decide +kernel
set_option maxRecDepth 100000 in
theorem d_Rq_forget_1 : decode prog_6_method_5_code 1 = .ok (.iconst 0, 1) := by decide +kernel
set_option maxRecDepth 100000 in
theorem d_Rq_forget_2 : decode prog_6_method_5_code 2 = .ok (.putfield 19, 3) := by decide +kernel
set_option maxRecDepth 100000 in
theorem d_Rq_forget_5 : decode prog_6_method_5_code 5 = .ok (.aload_n 0, 1) := by decide +kernel
set_option maxRecDepth 100000 in
theorem d_Rq_forget_6 : decode prog_6_method_5_code 6 = .ok (.iconst 0, 1) := by decide +kernel
set_option maxRecDepth 100000 in
theorem d_Rq_forget_7 : decode prog_6_method_5_code 7 = .ok (.putfield 9, 3) := by decide +kernel
set_option maxRecDepth 100000 in
theorem d_Rq_forget_10 : decode prog_6_method_5_code 10 = .ok (.return_, 1) := by decide +kernel
set_option maxRecDepth 100000 in
theorem d_B_register_0 : decode prog_1_method_8_code 0 = .ok (.aload_n 0, 1) := by decide +kernel
set_option maxRecDepth 100000 in
theorem d_B_register_1 : decode prog_1_method_8_code 1 = .ok (.iload_n 1, 1) := by decide +kernel
set_option maxRecDepth 100000 in
theorem d_B_register_2 : decode prog_1_method_8_code 2 = .ok (.invokevirtual 38, 3) := by decide +kernel
set_option maxRecDepth 100000 in
theorem d_B_register_5 : decode prog_1_method_8_code 5 = .ok (.astore_n 3, 1) := by decide +kernel
set_option maxRecDepth 100000 in
theorem d_B_register_6 : decode prog_1_method_8_code 6 = .ok (.iload_n 2, 1) := by decide +kernel
set_option maxRecDepth 100000 in
theorem d_B_register_7 : decode prog_1_method_8_code 7 = .ok (.invokestatic 186, 3) := by decide +kernel
set_option maxRecDepth 100000 in
theorem d_B_register_10 : decode prog_1_method_8_code 10 = .ok (.ifCond .ne 13, 3) := by decide +kernel
set_option maxRecDepth 100000 in
theorem d_B_register_13 : decode prog_1_method_8_code 13 = .ok (.new 50, 3) := by decide +kernel
set_option maxRecDepth 100000 in
theorem d_B_register_16 : decode prog_1_method_8_code 16 = .ok (.dup, 1) := by decide +kernel
set_option maxRecDepth 100000 in
theorem d_B_register_17 : decode prog_1_method_8_code 17 = .ok (.ldc 189, 2) := by decide +kernel
set_option maxRecDepth 100000 in
theorem d_B_register_19 : decode prog_1_method_8_code 19 = .ok (.invokespecial 54, 3) := by decide +kernel
set_option maxRecDepth 100000 in
theorem d_B_register_22 : decode prog_1_method_8_code 22 = .ok (.athrow, 1) := by decide +kernel
set_option maxRecDepth 100000 in
theorem d_B_register_23 : decode prog_1_method_8_code 23 = .ok (.aload_n 3, 1) := by decide +kernel
set_option maxRecDepth 100000 in
theorem d_B_register_24 : decode prog_1_method_8_code 24 = .ok (.getfield 191, 3) := by decide +kernel
set_option maxRecDepth 100000 in
theorem d_B_register_27 : decode prog_1_method_8_code 27 = .ok (.iload_n 2, 1) := by decide +kernel
set_option maxRecDepth 100000 in
theorem d_B_register_28 : decode prog_1_method_8_code 28 = .ok (.iaload, 1) := by decide +kernel
set_option maxRecDepth 100000 in
theorem d_B_register_29 : decode prog_1_method_8_code 29 = .ok (.ireturn, 1) := by decide +kernel
set_option maxRecDepth 100000 in
theorem d_B_place_0 : decode prog_1_method_9_code 0 = .ok (.aload_n 0, 1) := by decide +kernel
set_option maxRecDepth 100000 in
theorem d_B_place_1 : decode prog_1_method_9_code 1 = .ok (.iload_n 1, 1) := by decide +kernel
set_option maxRecDepth 100000 in
theorem d_B_place_2 : decode prog_1_method_9_code 2 = .ok (.invokevirtual 38, 3) := by decide +kernel
set_option maxRecDepth 100000 in
theorem d_B_place_5 : decode prog_1_method_9_code 5 = .ok (.getfield 82, 3) := by decide +kernel
set_option maxRecDepth 100000 in
theorem d_B_place_8 : decode prog_1_method_9_code 8 = .ok (.ireturn, 1) := by decide +kernel
set_option maxRecDepth 100000 in
theorem d_B_buffered_0 : decode prog_1_method_10_code 0 = .ok (.aload_n 0, 1) := by decide +kernel
set_option maxRecDepth 100000 in
theorem d_B_buffered_1 : decode prog_1_method_10_code 1 = .ok (.iload_n 1, 1) := by decide +kernel
set_option maxRecDepth 100000 in
theorem d_B_buffered_2 : decode prog_1_method_10_code 2 = .ok (.invokevirtual 38, 3) := by decide +kernel
set_option maxRecDepth 100000 in
theorem d_B_buffered_5 : decode prog_1_method_10_code 5 = .ok (.getfield 98, 3) := by decide +kernel
set_option maxRecDepth 100000 in
theorem d_B_buffered_8 : decode prog_1_method_10_code 8 = .ok (.getfield 102, 3) := by decide +kernel
set_option maxRecDepth 100000 in
theorem d_B_buffered_11 : decode prog_1_method_10_code 11 = .ok (.ireturn, 1) := by decide +kernel
set_option maxRecDepth 100000 in
theorem d_B_storeAddress_0 : decode prog_1_method_11_code 0 = .ok (.aload_n 0, 1) := by decide +kernel
set_option maxRecDepth 100000 in
theorem d_B_storeAddress_1 : decode prog_1_method_11_code 1 = .ok (.iload_n 1, 1) := by decide +kernel
set_option maxRecDepth 100000 in
theorem d_B_storeAddress_2 : decode prog_1_method_11_code 2 = .ok (.invokevirtual 38, 3) := by decide +kernel
set_option maxRecDepth 100000 in
theorem d_B_storeAddress_5 : decode prog_1_method_11_code 5 = .ok (.getfield 98, 3) := by decide +kernel
set_option maxRecDepth 100000 in
theorem d_B_storeAddress_8 : decode prog_1_method_11_code 8 = .ok (.astore_n 3, 1) := by decide +kernel
set_option maxRecDepth 100000 in
theorem d_B_storeAddress_9 : decode prog_1_method_11_code 9 = .ok (.aload_n 3, 1) := by decide +kernel
set_option maxRecDepth 100000 in
theorem d_B_storeAddress_10 : decode prog_1_method_11_code 10 = .ok (.iload_n 2, 1) := by decide +kernel
set_option maxRecDepth 100000 in
theorem d_B_storeAddress_11 : decode prog_1_method_11_code 11 = .ok (.invokestatic 194, 3) := by decide +kernel
set_option maxRecDepth 100000 in
theorem d_B_storeAddress_14 : decode prog_1_method_11_code 14 = .ok (.aload_n 3, 1) := by decide +kernel
set_option maxRecDepth 100000 in
theorem d_B_storeAddress_15 : decode prog_1_method_11_code 15 = .ok (.getfield 107, 3) := by decide +kernel
set_option maxRecDepth 100000 in
theorem d_B_storeAddress_18 : decode prog_1_method_11_code 18 = .ok (.iload_n 2, 1) := by decide +kernel
set_option maxRecDepth 100000 in
theorem d_B_storeAddress_19 : decode prog_1_method_11_code 19 = .ok (.iaload, 1) := by decide +kernel
set_option maxRecDepth 100000 in
theorem d_B_storeAddress_20 : decode prog_1_method_11_code 20 = .ok (.ireturn, 1) := by decide +kernel
set_option maxRecDepth 100000 in
theorem d_B_requireStore_0 : decode prog_1_method_23_code 0 = .ok (.iload_n 1, 1) := by decide +kernel
set_option maxRecDepth 100000 in
theorem d_B_requireStore_1 : decode prog_1_method_23_code 1 = .ok (.ifCond .lt 11, 3) := by decide +kernel
set_option maxRecDepth 100000 in
theorem d_B_requireStore_4 : decode prog_1_method_23_code 4 = .ok (.iload_n 1, 1) := by decide +kernel
set_option maxRecDepth 100000 in
theorem d_B_requireStore_5 : decode prog_1_method_23_code 5 = .ok (.aload_n 0, 1) := by decide +kernel
set_option maxRecDepth 100000 in
theorem d_B_requireStore_6 : decode prog_1_method_23_code 6 = .ok (.getfield 102, 3) := by decide +kernel
set_option maxRecDepth 100000 in
theorem d_B_requireStore_9 : decode prog_1_method_23_code 9 = .ok (.if_icmp .lt 13, 3) := by decide +kernel
set_option maxRecDepth 100000 in
theorem d_B_requireStore_12 : decode prog_1_method_23_code 12 = .ok (.new 211, 3) := by decide +kernel
set_option maxRecDepth 100000 in
theorem d_B_requireStore_15 : decode prog_1_method_23_code 15 = .ok (.dup, 1) := by decide +kernel
set_option maxRecDepth 100000 in
theorem d_B_requireStore_16 : decode prog_1_method_23_code 16 = .ok (.ldc 234, 2) := by decide +kernel
set_option maxRecDepth 100000 in
theorem d_B_requireStore_18 : decode prog_1_method_23_code 18 = .ok (.invokespecial 215, 3) := by decide +kernel
set_option maxRecDepth 100000 in
theorem d_B_requireStore_21 : decode prog_1_method_23_code 21 = .ok (.athrow, 1) := by decide +kernel
set_option maxRecDepth 100000 in
theorem d_B_requireStore_22 : decode prog_1_method_23_code 22 = .ok (.return_, 1) := by decide +kernel
set_option maxRecDepth 100000 in
theorem d_B_storeValue_0 : decode prog_1_method_12_code 0 = .ok (.aload_n 0, 1) := by decide +kernel
set_option maxRecDepth 100000 in
theorem d_B_storeValue_1 : decode prog_1_method_12_code 1 = .ok (.iload_n 1, 1) := by decide +kernel
set_option maxRecDepth 100000 in
theorem d_B_storeValue_2 : decode prog_1_method_12_code 2 = .ok (.invokevirtual 38, 3) := by decide +kernel
set_option maxRecDepth 100000 in
theorem d_B_storeValue_5 : decode prog_1_method_12_code 5 = .ok (.getfield 98, 3) := by decide +kernel
set_option maxRecDepth 100000 in
theorem d_B_storeValue_8 : decode prog_1_method_12_code 8 = .ok (.astore_n 3, 1) := by decide +kernel
set_option maxRecDepth 100000 in
theorem d_B_storeValue_9 : decode prog_1_method_12_code 9 = .ok (.aload_n 3, 1) := by decide +kernel
set_option maxRecDepth 100000 in
theorem d_B_storeValue_10 : decode prog_1_method_12_code 10 = .ok (.iload_n 2, 1) := by decide +kernel
set_option maxRecDepth 100000 in
theorem d_B_storeValue_11 : decode prog_1_method_12_code 11 = .ok (.invokestatic 194, 3) := by decide +kernel
set_option maxRecDepth 100000 in
theorem d_B_storeValue_14 : decode prog_1_method_12_code 14 = .ok (.aload_n 3, 1) := by decide +kernel
set_option maxRecDepth 100000 in
theorem d_B_storeValue_15 : decode prog_1_method_12_code 15 = .ok (.getfield 123, 3) := by decide +kernel
set_option maxRecDepth 100000 in
theorem d_B_storeValue_18 : decode prog_1_method_12_code 18 = .ok (.iload_n 2, 1) := by decide +kernel
set_option maxRecDepth 100000 in
theorem d_B_storeValue_19 : decode prog_1_method_12_code 19 = .ok (.iaload, 1) := by decide +kernel
set_option maxRecDepth 100000 in
theorem d_B_storeValue_20 : decode prog_1_method_12_code 20 = .ok (.ireturn, 1) := by decide +kernel
set_option maxRecDepth 100000 in
theorem d_B_line_0 : decode prog_1_method_13_code 0 = .ok (.aload_n 0, 1) := by decide +kernel
set_option maxRecDepth 100000 in
theorem d_B_line_1 : decode prog_1_method_13_code 1 = .ok (.iload_n 1, 1) := by decide +kernel
set_option maxRecDepth 100000 in
theorem d_B_line_2 : decode prog_1_method_13_code 2 = .ok (.invokevirtual 38, 3) := by decide +kernel
set_option maxRecDepth 100000 in
theorem d_B_line_5 : decode prog_1_method_13_code 5 = .ok (.astore_n 3, 1) := by decide +kernel
set_option maxRecDepth 100000 in
theorem d_B_line_6 : decode prog_1_method_13_code 6 = .ok (.iload_n 2, 1) := by decide +kernel
set_option maxRecDepth 100000 in
theorem d_B_line_7 : decode prog_1_method_13_code 7 = .ok (.ifCond .lt 8, 3) := by decide +kernel
set_option maxRecDepth 100000 in
theorem d_B_line_10 : decode prog_1_method_13_code 10 = .ok (.iload_n 2, 1) := by decide +kernel
set_option maxRecDepth 100000 in
theorem d_B_line_11 : decode prog_1_method_13_code 11 = .ok (.iconst 2, 1) := by decide +kernel
set_option maxRecDepth 100000 in
theorem d_B_line_12 : decode prog_1_method_13_code 12 = .ok (.if_icmp .lt 13, 3) := by decide +kernel
set_option maxRecDepth 100000 in
theorem d_B_line_15 : decode prog_1_method_13_code 15 = .ok (.new 50, 3) := by decide +kernel
set_option maxRecDepth 100000 in
theorem d_B_line_18 : decode prog_1_method_13_code 18 = .ok (.dup, 1) := by decide +kernel
set_option maxRecDepth 100000 in
theorem d_B_line_19 : decode prog_1_method_13_code 19 = .ok (.ldc 198, 2) := by decide +kernel
set_option maxRecDepth 100000 in
theorem d_B_line_21 : decode prog_1_method_13_code 21 = .ok (.invokespecial 54, 3) := by decide +kernel
set_option maxRecDepth 100000 in
theorem d_B_line_24 : decode prog_1_method_13_code 24 = .ok (.athrow, 1) := by decide +kernel
set_option maxRecDepth 100000 in
theorem d_B_line_25 : decode prog_1_method_13_code 25 = .ok (.aload_n 3, 1) := by decide +kernel
set_option maxRecDepth 100000 in
theorem d_B_line_26 : decode prog_1_method_13_code 26 = .ok (.getfield 200, 3) := by decide +kernel
set_option maxRecDepth 100000 in
theorem d_B_line_29 : decode prog_1_method_13_code 29 = .ok (.iload_n 2, 1) := by decide +kernel
set_option maxRecDepth 100000 in
theorem d_B_line_30 : decode prog_1_method_13_code 30 = .ok (.aaload, 1) := by decide +kernel
set_option maxRecDepth 100000 in
theorem d_B_line_31 : decode prog_1_method_13_code 31 = .ok (.astore 4, 2) := by decide +kernel
set_option maxRecDepth 100000 in
theorem d_B_line_33 : decode prog_1_method_13_code 33 = .ok (.aload 4, 2) := by decide +kernel
set_option maxRecDepth 100000 in
theorem d_B_line_35 : decode prog_1_method_13_code 35 = .ok (.getfield 204, 3) := by decide +kernel
set_option maxRecDepth 100000 in
theorem d_B_line_38 : decode prog_1_method_13_code 38 = .ok (.ifCond .ne 7, 3) := by decide +kernel
set_option maxRecDepth 100000 in
theorem d_B_line_41 : decode prog_1_method_13_code 41 = .ok (.iconst 0, 1) := by decide +kernel
set_option maxRecDepth 100000 in
theorem d_B_line_42 : decode prog_1_method_13_code 42 = .ok (.goto 16, 3) := by decide +kernel
set_option maxRecDepth 100000 in
theorem d_B_line_45 : decode prog_1_method_13_code 45 = .ok (.aload 4, 2) := by decide +kernel
set_option maxRecDepth 100000 in
theorem d_B_line_47 : decode prog_1_method_13_code 47 = .ok (.getfield 204, 3) := by decide +kernel
set_option maxRecDepth 100000 in
theorem d_B_line_50 : decode prog_1_method_13_code 50 = .ok (.iconst 4, 1) := by decide +kernel
set_option maxRecDepth 100000 in
theorem d_B_line_51 : decode prog_1_method_13_code 51 = .ok (.aload 4, 2) := by decide +kernel
set_option maxRecDepth 100000 in
theorem d_B_line_53 : decode prog_1_method_13_code 53 = .ok (.getfield 207, 3) := by decide +kernel
set_option maxRecDepth 100000 in
theorem d_B_line_56 : decode prog_1_method_13_code 56 = .ok (.imul, 1) := by decide +kernel
set_option maxRecDepth 100000 in
theorem d_B_line_57 : decode prog_1_method_13_code 57 = .ok (.iadd, 1) := by decide +kernel
set_option maxRecDepth 100000 in
theorem d_B_line_58 : decode prog_1_method_13_code 58 = .ok (.ireturn, 1) := by decide +kernel
set_option maxRecDepth 100000 in
theorem d_B_cached_0 : decode prog_1_method_14_code 0 = .ok (.aload_n 0, 1) := by decide +kernel
set_option maxRecDepth 100000 in
theorem d_B_cached_1 : decode prog_1_method_14_code 1 = .ok (.iload_n 1, 1) := by decide +kernel
set_option maxRecDepth 100000 in
theorem d_B_cached_2 : decode prog_1_method_14_code 2 = .ok (.invokevirtual 38, 3) := by decide +kernel
set_option maxRecDepth 100000 in
theorem d_B_cached_5 : decode prog_1_method_14_code 5 = .ok (.astore_n 3, 1) := by decide +kernel
set_option maxRecDepth 100000 in
theorem d_B_cached_6 : decode prog_1_method_14_code 6 = .ok (.iload_n 2, 1) := by decide +kernel
set_option maxRecDepth 100000 in
theorem d_B_cached_7 : decode prog_1_method_14_code 7 = .ok (.invokestatic 72, 3) := by decide +kernel
set_option maxRecDepth 100000 in
theorem d_B_cached_10 : decode prog_1_method_14_code 10 = .ok (.aload_n 3, 1) := by decide +kernel
set_option maxRecDepth 100000 in
theorem d_B_cached_11 : decode prog_1_method_14_code 11 = .ok (.iload_n 2, 1) := by decide +kernel
set_option maxRecDepth 100000 in
theorem d_B_cached_12 : decode prog_1_method_14_code 12 = .ok (.invokevirtual 110, 3) := by decide +kernel
set_option maxRecDepth 100000 in
theorem d_B_cached_15 : decode prog_1_method_14_code 15 = .ok (.astore 4, 2) := by decide +kernel
set_option maxRecDepth 100000 in
theorem d_B_cached_17 : decode prog_1_method_14_code 17 = .ok (.aload 4, 2) := by decide +kernel
set_option maxRecDepth 100000 in
theorem d_B_cached_19 : decode prog_1_method_14_code 19 = .ok (.iload_n 2, 1) := by decide +kernel
set_option maxRecDepth 100000 in
theorem d_B_cached_20 : decode prog_1_method_14_code 20 = .ok (.invokevirtual 208, 3) := by decide +kernel
set_option maxRecDepth 100000 in
theorem d_B_cached_23 : decode prog_1_method_14_code 23 = .ok (.ifCond .ne 13, 3) := by decide +kernel
set_option maxRecDepth 100000 in
theorem d_B_cached_26 : decode prog_1_method_14_code 26 = .ok (.new 211, 3) := by decide +kernel
set_option maxRecDepth 100000 in
theorem d_B_cached_29 : decode prog_1_method_14_code 29 = .ok (.dup, 1) := by decide +kernel
set_option maxRecDepth 100000 in
theorem d_B_cached_30 : decode prog_1_method_14_code 30 = .ok (.ldc 213, 2) := by decide +kernel
set_option maxRecDepth 100000 in
theorem d_B_cached_32 : decode prog_1_method_14_code 32 = .ok (.invokespecial 215, 3) := by decide +kernel
set_option maxRecDepth 100000 in
theorem d_B_cached_35 : decode prog_1_method_14_code 35 = .ok (.athrow, 1) := by decide +kernel
set_option maxRecDepth 100000 in
theorem d_B_cached_36 : decode prog_1_method_14_code 36 = .ok (.aload 4, 2) := by decide +kernel
set_option maxRecDepth 100000 in
theorem d_B_cached_38 : decode prog_1_method_14_code 38 = .ok (.getfield 216, 3) := by decide +kernel
set_option maxRecDepth 100000 in
theorem d_B_cached_41 : decode prog_1_method_14_code 41 = .ok (.ireturn, 1) := by decide +kernel
set_option maxRecDepth 100000 in
theorem d_B_request_0 : decode prog_1_method_15_code 0 = .ok (.aload_n 0, 1) := by decide +kernel
set_option maxRecDepth 100000 in
theorem d_B_request_1 : decode prog_1_method_15_code 1 = .ok (.iload_n 1, 1) := by decide +kernel
set_option maxRecDepth 100000 in
theorem d_B_request_2 : decode prog_1_method_15_code 2 = .ok (.invokevirtual 38, 3) := by decide +kernel
set_option maxRecDepth 100000 in
theorem d_B_request_5 : decode prog_1_method_15_code 5 = .ok (.getfield 139, 3) := by decide +kernel
set_option maxRecDepth 100000 in
theorem d_B_request_8 : decode prog_1_method_15_code 8 = .ok (.astore_n 2, 1) := by decide +kernel
set_option maxRecDepth 100000 in
theorem d_B_request_9 : decode prog_1_method_15_code 9 = .ok (.aload_n 2, 1) := by decide +kernel
set_option maxRecDepth 100000 in
theorem d_B_request_10 : decode prog_1_method_15_code 10 = .ok (.getfield 143, 3) := by decide +kernel
set_option maxRecDepth 100000 in
theorem d_B_request_13 : decode prog_1_method_15_code 13 = .ok (.ifCond .ne 5, 3) := by decide +kernel
set_option maxRecDepth 100000 in
theorem d_B_request_16 : decode prog_1_method_15_code 16 = .ok (.iconst 0, 1) := by decide +kernel
set_option maxRecDepth 100000 in
theorem d_B_request_17 : decode prog_1_method_15_code 17 = .ok (.ireturn, 1) := by decide +kernel
set_option maxRecDepth 100000 in
theorem d_B_request_18 : decode prog_1_method_15_code 18 = .ok (.aload_n 2, 1) := by decide +kernel
set_option maxRecDepth 100000 in
theorem d_B_request_19 : decode prog_1_method_15_code 19 = .ok (.getfield 143, 3) := by decide +kernel
set_option maxRecDepth 100000 in
theorem d_B_request_22 : decode prog_1_method_15_code 22 = .ok (.aload_n 2, 1) := by decide +kernel
set_option maxRecDepth 100000 in
theorem d_B_request_23 : decode prog_1_method_15_code 23 = .ok (.getfield 148, 3) := by decide +kernel
set_option maxRecDepth 100000 in
theorem d_B_request_26 : decode prog_1_method_15_code 26 = .ok (.ifCond .eq 7, 3) := by decide +kernel
set_option maxRecDepth 100000 in
theorem d_B_request_29 : decode prog_1_method_15_code 29 = .ok (.iconst 4, 1) := by decide +kernel
set_option maxRecDepth 100000 in
theorem d_B_request_30 : decode prog_1_method_15_code 30 = .ok (.goto 4, 3) := by decide +kernel
set_option maxRecDepth 100000 in
theorem d_B_request_33 : decode prog_1_method_15_code 33 = .ok (.iconst 0, 1) := by decide +kernel
set_option maxRecDepth 100000 in
theorem d_B_request_34 : decode prog_1_method_15_code 34 = .ok (.iadd, 1) := by decide +kernel
set_option maxRecDepth 100000 in
theorem d_B_request_35 : decode prog_1_method_15_code 35 = .ok (.bipush 8, 2) := by decide +kernel
set_option maxRecDepth 100000 in
theorem d_B_request_37 : decode prog_1_method_15_code 37 = .ok (.aload_n 2, 1) := by decide +kernel
set_option maxRecDepth 100000 in
theorem d_B_request_38 : decode prog_1_method_15_code 38 = .ok (.getfield 152, 3) := by decide +kernel
set_option maxRecDepth 100000 in
theorem d_B_request_41 : decode prog_1_method_15_code 41 = .ok (.imul, 1) := by decide +kernel
set_option maxRecDepth 100000 in
theorem d_B_request_42 : decode prog_1_method_15_code 42 = .ok (.iadd, 1) := by decide +kernel
set_option maxRecDepth 100000 in
theorem d_B_request_43 : decode prog_1_method_15_code 43 = .ok (.ireturn, 1) := by decide +kernel
set_option maxRecDepth 100000 in
theorem d_B_memory_0 : decode prog_1_method_16_code 0 = .ok (.iload_n 1, 1) := by decide +kernel
set_option maxRecDepth 100000 in
theorem d_B_memory_1 : decode prog_1_method_16_code 1 = .ok (.invokestatic 72, 3) := by decide +kernel
set_option maxRecDepth 100000 in
theorem d_B_memory_4 : decode prog_1_method_16_code 4 = .ok (.aload_n 0, 1) := by decide +kernel
set_option maxRecDepth 100000 in
theorem d_B_memory_5 : decode prog_1_method_16_code 5 = .ok (.getfield 18, 3) := by decide +kernel
set_option maxRecDepth 100000 in
theorem d_B_memory_8 : decode prog_1_method_16_code 8 = .ok (.iload_n 1, 1) := by decide +kernel
set_option maxRecDepth 100000 in
theorem d_B_memory_9 : decode prog_1_method_16_code 9 = .ok (.iaload, 1) := by decide +kernel
set_option maxRecDepth 100000 in
theorem d_B_memory_10 : decode prog_1_method_16_code 10 = .ok (.ireturn, 1) := by decide +kernel
set_option maxRecDepth 100000 in
theorem d_B_word_0 : decode prog_1_method_17_code 0 = .ok (.iload_n 1, 1) := by decide +kernel
set_option maxRecDepth 100000 in
theorem d_B_word_1 : decode prog_1_method_17_code 1 = .ok (.invokestatic 72, 3) := by decide +kernel
set_option maxRecDepth 100000 in
theorem d_B_word_4 : decode prog_1_method_17_code 4 = .ok (.aload_n 0, 1) := by decide +kernel
set_option maxRecDepth 100000 in
theorem d_B_word_5 : decode prog_1_method_17_code 5 = .ok (.iload_n 1, 1) := by decide +kernel
set_option maxRecDepth 100000 in
theorem d_B_word_6 : decode prog_1_method_17_code 6 = .ok (.invokevirtual 163, 3) := by decide +kernel
set_option maxRecDepth 100000 in
theorem d_B_word_9 : decode prog_1_method_17_code 9 = .ok (.ireturn, 1) := by decide +kernel
set_option maxRecDepth 100000 in
theorem d_B_event_0 : decode prog_1_method_19_code 0 = .ok (.aload_n 0, 1) := by decide +kernel
set_option maxRecDepth 100000 in
theorem d_B_event_1 : decode prog_1_method_19_code 1 = .ok (.iload_n 1, 1) := by decide +kernel
set_option maxRecDepth 100000 in
theorem d_B_event_2 : decode prog_1_method_19_code 2 = .ok (.invokevirtual 220, 3) := by decide +kernel
set_option maxRecDepth 100000 in
theorem d_B_event_5 : decode prog_1_method_19_code 5 = .ok (.aload_n 0, 1) := by decide +kernel
set_option maxRecDepth 100000 in
theorem d_B_event_6 : decode prog_1_method_19_code 6 = .ok (.getfield 34, 3) := by decide +kernel
set_option maxRecDepth 100000 in
theorem d_B_event_9 : decode prog_1_method_19_code 9 = .ok (.getfield 223, 3) := by decide +kernel
set_option maxRecDepth 100000 in
theorem d_B_event_12 : decode prog_1_method_19_code 12 = .ok (.iload_n 1, 1) := by decide +kernel
set_option maxRecDepth 100000 in
theorem d_B_event_13 : decode prog_1_method_19_code 13 = .ok (.bipush 40, 2) := by decide +kernel
set_option maxRecDepth 100000 in
theorem d_B_event_15 : decode prog_1_method_19_code 15 = .ok (.irem, 1) := by decide +kernel
set_option maxRecDepth 100000 in
theorem d_B_event_16 : decode prog_1_method_19_code 16 = .ok (.iaload, 1) := by decide +kernel
set_option maxRecDepth 100000 in
theorem d_B_event_17 : decode prog_1_method_19_code 17 = .ok (.ireturn, 1) := by decide +kernel
set_option maxRecDepth 100000 in
theorem d_B_requireEvent_0 : decode prog_1_method_24_code 0 = .ok (.aload_n 0, 1) := by decide +kernel
set_option maxRecDepth 100000 in
theorem d_B_requireEvent_1 : decode prog_1_method_24_code 1 = .ok (.getfield 34, 3) := by decide +kernel
set_option maxRecDepth 100000 in
theorem d_B_requireEvent_4 : decode prog_1_method_24_code 4 = .ok (.iload_n 1, 1) := by decide +kernel
set_option maxRecDepth 100000 in
theorem d_B_requireEvent_5 : decode prog_1_method_24_code 5 = .ok (.invokevirtual 236, 3) := by decide +kernel
set_option maxRecDepth 100000 in
theorem d_B_requireEvent_8 : decode prog_1_method_24_code 8 = .ok (.ifCond .ne 13, 3) := by decide +kernel
set_option maxRecDepth 100000 in
theorem d_B_requireEvent_11 : decode prog_1_method_24_code 11 = .ok (.new 211, 3) := by decide +kernel
set_option maxRecDepth 100000 in
theorem d_B_requireEvent_14 : decode prog_1_method_24_code 14 = .ok (.dup, 1) := by decide +kernel
set_option maxRecDepth 100000 in
theorem d_B_requireEvent_15 : decode prog_1_method_24_code 15 = .ok (.ldc 239, 2) := by decide +kernel
set_option maxRecDepth 100000 in
theorem d_B_requireEvent_17 : decode prog_1_method_24_code 17 = .ok (.invokespecial 215, 3) := by decide +kernel
set_option maxRecDepth 100000 in
theorem d_B_requireEvent_20 : decode prog_1_method_24_code 20 = .ok (.athrow, 1) := by decide +kernel
set_option maxRecDepth 100000 in
theorem d_B_requireEvent_21 : decode prog_1_method_24_code 21 = .ok (.return_, 1) := by decide +kernel
set_option maxRecDepth 100000 in
theorem d_Lo_keeps_0 : decode prog_4_method_3_code 0 = .ok (.iload_n 1, 1) := by decide +kernel
set_option maxRecDepth 100000 in
theorem d_Lo_keeps_1 : decode prog_4_method_3_code 1 = .ok (.ifCond .lt 26, 3) := by decide +kernel
set_option maxRecDepth 100000 in
theorem d_Lo_keeps_4 : decode prog_4_method_3_code 4 = .ok (.iload_n 1, 1) := by decide +kernel
set_option maxRecDepth 100000 in
theorem d_Lo_keeps_5 : decode prog_4_method_3_code 5 = .ok (.aload_n 0, 1) := by decide +kernel
set_option maxRecDepth 100000 in
theorem d_Lo_keeps_6 : decode prog_4_method_3_code 6 = .ok (.getfield 18, 3) := by decide +kernel
set_option maxRecDepth 100000 in
theorem d_Lo_keeps_9 : decode prog_4_method_3_code 9 = .ok (.if_icmp .ge 18, 3) := by decide +kernel
set_option maxRecDepth 100000 in
theorem d_Lo_keeps_12 : decode prog_4_method_3_code 12 = .ok (.iload_n 1, 1) := by decide +kernel
set_option maxRecDepth 100000 in
theorem d_Lo_keeps_13 : decode prog_4_method_3_code 13 = .ok (.aload_n 0, 1) := by decide +kernel
set_option maxRecDepth 100000 in
theorem d_Lo_keeps_14 : decode prog_4_method_3_code 14 = .ok (.getfield 18, 3) := by decide +kernel
set_option maxRecDepth 100000 in
theorem d_Lo_keeps_17 : decode prog_4_method_3_code 17 = .ok (.bipush 40, 2) := by decide +kernel
set_option maxRecDepth 100000 in
theorem d_Lo_keeps_19 : decode prog_4_method_3_code 19 = .ok (.isub, 1) := by decide +kernel
set_option maxRecDepth 100000 in
theorem d_Lo_keeps_20 : decode prog_4_method_3_code 20 = .ok (.if_icmp .lt 7, 3) := by decide +kernel
set_option maxRecDepth 100000 in
theorem d_Lo_keeps_23 : decode prog_4_method_3_code 23 = .ok (.iconst 1, 1) := by decide +kernel
set_option maxRecDepth 100000 in
theorem d_Lo_keeps_24 : decode prog_4_method_3_code 24 = .ok (.goto 4, 3) := by decide +kernel
set_option maxRecDepth 100000 in
theorem d_Lo_keeps_27 : decode prog_4_method_3_code 27 = .ok (.iconst 0, 1) := by decide +kernel
set_option maxRecDepth 100000 in
theorem d_Lo_keeps_28 : decode prog_4_method_3_code 28 = .ok (.ireturn, 1) := by decide +kernel
set_option maxRecDepth 100000 in
theorem d_B_eventValue_0 : decode prog_1_method_20_code 0 = .ok (.aload_n 0, 1) := by decide +kernel
set_option maxRecDepth 100000 in
theorem d_B_eventValue_1 : decode prog_1_method_20_code 1 = .ok (.iload_n 1, 1) := by decide +kernel
set_option maxRecDepth 100000 in
theorem d_B_eventValue_2 : decode prog_1_method_20_code 2 = .ok (.invokevirtual 220, 3) := by decide +kernel
set_option maxRecDepth 100000 in
theorem d_B_eventValue_5 : decode prog_1_method_20_code 5 = .ok (.aload_n 0, 1) := by decide +kernel
set_option maxRecDepth 100000 in
theorem d_B_eventValue_6 : decode prog_1_method_20_code 6 = .ok (.getfield 34, 3) := by decide +kernel
set_option maxRecDepth 100000 in
theorem d_B_eventValue_9 : decode prog_1_method_20_code 9 = .ok (.getfield 226, 3) := by decide +kernel
set_option maxRecDepth 100000 in
theorem d_B_eventValue_12 : decode prog_1_method_20_code 12 = .ok (.iload_n 1, 1) := by decide +kernel
set_option maxRecDepth 100000 in
theorem d_B_eventValue_13 : decode prog_1_method_20_code 13 = .ok (.bipush 40, 2) := by decide +kernel
set_option maxRecDepth 100000 in
theorem d_B_eventValue_15 : decode prog_1_method_20_code 15 = .ok (.irem, 1) := by decide +kernel
set_option maxRecDepth 100000 in
theorem d_B_eventValue_16 : decode prog_1_method_20_code 16 = .ok (.iaload, 1) := by decide +kernel
set_option maxRecDepth 100000 in
theorem d_B_eventValue_17 : decode prog_1_method_20_code 17 = .ok (.ireturn, 1) := by decide +kernel
set_option maxRecDepth 100000 in
theorem s_B_init_1 : zObj m_B_init 1 := ⟨1, d_B_init_1, List.mem_cons_of_mem _ w_22, List.mem_cons_of_mem _ w_23, List.mem_cons_of_mem _ w_24⟩
set_option maxRecDepth 100000 in
theorem s_B_init_7 : zMath m_B_init 7 Lib.Math.min.name Lib.Math.min.code := ⟨9, d_B_init_7, List.mem_cons_of_mem _ w_25, List.mem_cons_of_mem _ w_26, List.mem_cons_of_mem _ w_2, List.mem_cons_of_mem _ w_27⟩
set_option maxRecDepth 100000 in
theorem s_B_init_10 : zMath m_B_init 10 Lib.Math.max.name Lib.Math.max.code := ⟨15, d_B_init_10, List.mem_cons_of_mem _ w_28, List.mem_cons_of_mem _ w_29, List.mem_cons_of_mem _ w_2, List.mem_cons_of_mem _ w_30⟩
set_option maxRecDepth 100000 in
theorem s_B_init_17 : Cond.arrayClass .int ∈ m_B_init.2.2.2.2.1 := List.mem_cons_of_mem _ w_61
set_option maxRecDepth 100000 in
theorem s_B_init_19 : zPut m_B_init 19 6 0 (.array .int) := ⟨18, R_B, T_B, 3, ty_B, d_B_init_19, rfl, by decide, fun w hw => List.mem_cons_of_mem _ (uws_B w hw), List.mem_cons_of_mem _ w_171, tyok_B, nm_B, tyok_B 0 (by decide), Or.inr ⟨rfl, rfl, rfl⟩⟩
set_option maxRecDepth 100000 in
theorem s_B_init_24 : Cond.classLink m_B_init.1.cls 22 "BufferedCores$Core" ∈ m_B_init.2.2.2.2.1 := List.mem_cons_of_mem _ w_31
set_option maxRecDepth 100000 in
theorem s_B_init_27 : zPut m_B_init 27 6 1 (.array (.object "BufferedCores$Core")) := ⟨24, R_B, T_B, 3, ty_B, d_B_init_27, rfl, by decide, fun w hw => List.mem_cons_of_mem _ (uws_B w hw), List.mem_cons_of_mem _ w_172, tyok_B, nm_B, tyok_B 1 (by decide), Or.inr ⟨rfl, rfl, rfl⟩⟩
set_option maxRecDepth 100000 in
theorem s_B_init_38 : zGet m_B_init 38 6 1 := ⟨24, R_B, T_B, 3, d_B_init_38, rfl, by decide, fun w hw => List.mem_cons_of_mem _ (uws_B w hw), List.mem_cons_of_mem _ w_172⟩
set_option maxRecDepth 100000 in
theorem s_B_init_42 : zNew m_B_init 42 0 7 [.int 0, .null, .null, .null, .null, .null, .int 0] := ⟨22, R_Co, T_Co, ty_Co, d_B_init_42, rfl, fun w hw => List.mem_cons_of_mem _ (uws_Co w hw), tyok_Co, List.mem_cons_of_mem _ w_31, List.mem_cons_of_mem _ w_33, List.mem_cons_of_mem _ w_3, by decide, by decide⟩
set_option maxRecDepth 100000 in
theorem s_B_init_48 : zCI m_B_init 48 m_Co_init 2 := ⟨28, zT, d_B_init_48, zGood w_36, rfl, ⟨List.mem_cons_of_mem _ w_3, List.mem_cons_of_mem _ w_35, rfl⟩, Or.inl (List.mem_cons_of_mem _ w_34), ⟨by decide +kernel, by decide +kernel, by decide +kernel⟩, ⟨by decide, by decide⟩⟩
set_option maxRecDepth 100000 in
theorem s_B_init_59 : zNew m_B_init 59 2 3 [.null, .null, .int 0] := ⟨31, R_Lo, T_Lo, ty_Lo, d_B_init_59, rfl, fun w hw => List.mem_cons_of_mem _ (uws_Lo w hw), tyok_Lo, List.mem_cons_of_mem _ w_152, List.mem_cons_of_mem _ w_153, List.mem_cons_of_mem _ w_8, by decide, by decide⟩
set_option maxRecDepth 100000 in
theorem s_B_init_63 : zCI m_B_init 63 m_Lo_init 0 := ⟨33, zT, d_B_init_63, zGood w_156, rfl, ⟨List.mem_cons_of_mem _ w_8, List.mem_cons_of_mem _ w_155, rfl⟩, Or.inr ⟨"BufferedCores", by decide +kernel⟩, ⟨by decide +kernel, by decide +kernel, by decide +kernel⟩, ⟨by decide, by decide⟩⟩
set_option maxRecDepth 100000 in
theorem s_B_init_66 : zPut m_B_init 66 6 2 (.object "BufferedCores$Log") := ⟨34, R_B, T_B, 3, ty_B, d_B_init_66, rfl, by decide, fun w hw => List.mem_cons_of_mem _ (uws_B w hw), List.mem_cons_of_mem _ w_173, tyok_B, nm_B, tyok_B 2 (by decide), Or.inr ⟨rfl, rfl, rfl⟩⟩
set_option maxRecDepth 100000 in
theorem s_Co_init_1 : zObj m_Co_init 1 := ⟨3, d_Co_init_1, List.mem_cons_of_mem _ w_37, List.mem_cons_of_mem _ w_23, List.mem_cons_of_mem _ w_24⟩
set_option maxRecDepth 100000 in
theorem s_Co_init_6 : Cond.arrayClass .int ∈ m_Co_init.2.2.2.2.1 := List.mem_cons_of_mem _ w_61
set_option maxRecDepth 100000 in
theorem s_Co_init_8 : zPut m_Co_init 8 0 1 (.array .int) := ⟨9, R_Co, T_Co, 7, ty_Co, d_Co_init_8, rfl, by decide, fun w hw => List.mem_cons_of_mem _ (uws_Co w hw), List.mem_cons_of_mem _ w_126, tyok_Co, nm_Co, tyok_Co 1 (by decide), Or.inr ⟨rfl, rfl, rfl⟩⟩
set_option maxRecDepth 100000 in
theorem s_Co_init_12 : zNew m_Co_init 12 3 4 [.null, .null, .null, .int 0] := ⟨15, R_Pr, T_Pr, ty_Pr, d_Co_init_12, rfl, fun w hw => List.mem_cons_of_mem _ (uws_Pr w hw), tyok_Pr, List.mem_cons_of_mem _ w_38, List.mem_cons_of_mem _ w_39, List.mem_cons_of_mem _ w_4, by decide, by decide⟩
set_option maxRecDepth 100000 in
theorem s_Co_init_16 : zCI m_Co_init 16 m_Pr_init 0 := ⟨17, zT, d_Co_init_16, zGood w_42, rfl, ⟨List.mem_cons_of_mem _ w_4, List.mem_cons_of_mem _ w_41, rfl⟩, Or.inr ⟨"BufferedCores", by decide +kernel⟩, ⟨by decide +kernel, by decide +kernel, by decide +kernel⟩, ⟨by decide, by decide⟩⟩
set_option maxRecDepth 100000 in
theorem s_Co_init_19 : zPut m_Co_init 19 0 2 (.object "BufferedCores$Program") := ⟨18, R_Co, T_Co, 7, ty_Co, d_Co_init_19, rfl, by decide, fun w hw => List.mem_cons_of_mem _ (uws_Co w hw), List.mem_cons_of_mem _ w_128, tyok_Co, nm_Co, tyok_Co 2 (by decide), Or.inr ⟨rfl, rfl, rfl⟩⟩
set_option maxRecDepth 100000 in
theorem s_Co_init_24 : Cond.classLink m_Co_init.1.cls 22 "BufferedCores$Line" ∈ m_Co_init.2.2.2.2.1 := List.mem_cons_of_mem _ w_62
set_option maxRecDepth 100000 in
theorem s_Co_init_27 : zPut m_Co_init 27 0 4 (.array (.object "BufferedCores$Line")) := ⟨24, R_Co, T_Co, 7, ty_Co, d_Co_init_27, rfl, by decide, fun w hw => List.mem_cons_of_mem _ (uws_Co w hw), List.mem_cons_of_mem _ w_132, tyok_Co, nm_Co, tyok_Co 4 (by decide), Or.inr ⟨rfl, rfl, rfl⟩⟩
set_option maxRecDepth 100000 in
theorem s_Co_init_31 : zNew m_Co_init 31 4 4 [.int 0, .int 0, .int 0, .int 0] := ⟨28, R_Rq, T_Rq, ty_Rq, d_Co_init_31, rfl, fun w hw => List.mem_cons_of_mem _ (uws_Rq w hw), tyok_Rq, List.mem_cons_of_mem _ w_64, List.mem_cons_of_mem _ w_65, List.mem_cons_of_mem _ w_5, by decide, by decide⟩
set_option maxRecDepth 100000 in
theorem s_Co_init_35 : zCI m_Co_init 35 m_Rq_init 0 := ⟨30, zT, d_Co_init_35, zGood w_68, rfl, ⟨List.mem_cons_of_mem _ w_5, List.mem_cons_of_mem _ w_67, rfl⟩, Or.inr ⟨"BufferedCores", by decide +kernel⟩, ⟨by decide +kernel, by decide +kernel, by decide +kernel⟩, ⟨by decide, by decide⟩⟩
set_option maxRecDepth 100000 in
theorem s_Co_init_38 : zPut m_Co_init 38 0 5 (.object "BufferedCores$Request") := ⟨31, R_Co, T_Co, 7, ty_Co, d_Co_init_38, rfl, by decide, fun w hw => List.mem_cons_of_mem _ (uws_Co w hw), List.mem_cons_of_mem _ w_134, tyok_Co, nm_Co, tyok_Co 5 (by decide), Or.inr ⟨rfl, rfl, rfl⟩⟩
set_option maxRecDepth 100000 in
theorem s_Co_init_43 : zPut m_Co_init 43 0 0 (.int) := ⟨35, R_Co, T_Co, 7, ty_Co, d_Co_init_43, rfl, by decide, fun w hw => List.mem_cons_of_mem _ (uws_Co w hw), List.mem_cons_of_mem _ w_124, tyok_Co, nm_Co, tyok_Co 0 (by decide), Or.inr ⟨rfl, rfl, rfl⟩⟩
set_option maxRecDepth 100000 in
theorem s_Co_init_47 : zNew m_Co_init 47 5 3 [.null, .null, .int 0] := ⟨39, R_Sb, T_Sb, ty_Sb, d_Co_init_47, rfl, fun w hw => List.mem_cons_of_mem _ (uws_Sb w hw), tyok_Sb, List.mem_cons_of_mem _ w_87, List.mem_cons_of_mem _ w_88, List.mem_cons_of_mem _ w_6, by decide, by decide⟩
set_option maxRecDepth 100000 in
theorem s_Co_init_52 : zCI m_Co_init 52 m_Sb_init 1 := ⟨41, zT, d_Co_init_52, zGood w_91, rfl, ⟨List.mem_cons_of_mem _ w_6, List.mem_cons_of_mem _ w_90, rfl⟩, Or.inl (List.mem_cons_of_mem _ w_89), ⟨by decide +kernel, by decide +kernel, by decide +kernel⟩, ⟨by decide, by decide⟩⟩
set_option maxRecDepth 100000 in
theorem s_Co_init_55 : zPut m_Co_init 55 0 3 (.object "BufferedCores$StoreBuffer") := ⟨44, R_Co, T_Co, 7, ty_Co, d_Co_init_55, rfl, by decide, fun w hw => List.mem_cons_of_mem _ (uws_Co w hw), List.mem_cons_of_mem _ w_130, tyok_Co, nm_Co, tyok_Co 3 (by decide), Or.inr ⟨rfl, rfl, rfl⟩⟩
set_option maxRecDepth 100000 in
theorem s_Co_init_66 : zGet m_Co_init 66 0 4 := ⟨24, R_Co, T_Co, 7, d_Co_init_66, rfl, by decide, fun w hw => List.mem_cons_of_mem _ (uws_Co w hw), List.mem_cons_of_mem _ w_132⟩
set_option maxRecDepth 100000 in
theorem s_Co_init_70 : zNew m_Co_init 70 1 3 [.int 0, .int 0, .int 0] := ⟨22, R_Li, T_Li, ty_Li, d_Co_init_70, rfl, fun w hw => List.mem_cons_of_mem _ (uws_Li w hw), tyok_Li, List.mem_cons_of_mem _ w_62, List.mem_cons_of_mem _ w_106, List.mem_cons_of_mem _ w_7, by decide, by decide⟩
set_option maxRecDepth 100000 in
theorem s_Co_init_74 : zCI m_Co_init 74 m_Li_init 0 := ⟨48, zT, d_Co_init_74, zGood w_109, rfl, ⟨List.mem_cons_of_mem _ w_7, List.mem_cons_of_mem _ w_108, rfl⟩, Or.inr ⟨"BufferedCores", by decide +kernel⟩, ⟨by decide +kernel, by decide +kernel, by decide +kernel⟩, ⟨by decide, by decide⟩⟩
set_option maxRecDepth 100000 in
theorem s_Pr_init_1 : zObj m_Pr_init 1 := ⟨3, d_Pr_init_1, List.mem_cons_of_mem _ w_43, List.mem_cons_of_mem _ w_23, List.mem_cons_of_mem _ w_24⟩
set_option maxRecDepth 100000 in
theorem s_Pr_init_7 : Cond.arrayClass .int ∈ m_Pr_init.2.2.2.2.1 := List.mem_cons_of_mem _ w_61
set_option maxRecDepth 100000 in
theorem s_Pr_init_9 : zPut m_Pr_init 9 3 0 (.array .int) := ⟨9, R_Pr, T_Pr, 4, ty_Pr, d_Pr_init_9, rfl, by decide, fun w hw => List.mem_cons_of_mem _ (uws_Pr w hw), List.mem_cons_of_mem _ w_44, tyok_Pr, nm_Pr, tyok_Pr 0 (by decide), Or.inr ⟨rfl, rfl, rfl⟩⟩
set_option maxRecDepth 100000 in
theorem s_Pr_init_15 : Cond.arrayClass .int ∈ m_Pr_init.2.2.2.2.1 := List.mem_cons_of_mem _ w_61
set_option maxRecDepth 100000 in
theorem s_Pr_init_17 : zPut m_Pr_init 17 3 1 (.array .int) := ⟨15, R_Pr, T_Pr, 4, ty_Pr, d_Pr_init_17, rfl, by decide, fun w hw => List.mem_cons_of_mem _ (uws_Pr w hw), List.mem_cons_of_mem _ w_46, tyok_Pr, nm_Pr, tyok_Pr 1 (by decide), Or.inr ⟨rfl, rfl, rfl⟩⟩
set_option maxRecDepth 100000 in
theorem s_Pr_init_23 : Cond.arrayClass .int ∈ m_Pr_init.2.2.2.2.1 := List.mem_cons_of_mem _ w_61
set_option maxRecDepth 100000 in
theorem s_Pr_init_25 : zPut m_Pr_init 25 3 2 (.array .int) := ⟨18, R_Pr, T_Pr, 4, ty_Pr, d_Pr_init_25, rfl, by decide, fun w hw => List.mem_cons_of_mem _ (uws_Pr w hw), List.mem_cons_of_mem _ w_48, tyok_Pr, nm_Pr, tyok_Pr 2 (by decide), Or.inr ⟨rfl, rfl, rfl⟩⟩
set_option maxRecDepth 100000 in
theorem s_Rq_init_1 : zObj m_Rq_init 1 := ⟨3, d_Rq_init_1, List.mem_cons_of_mem _ w_69, List.mem_cons_of_mem _ w_23, List.mem_cons_of_mem _ w_24⟩
set_option maxRecDepth 100000 in
theorem s_Sb_init_1 : zObj m_Sb_init 1 := ⟨1, d_Sb_init_1, List.mem_cons_of_mem _ w_92, List.mem_cons_of_mem _ w_23, List.mem_cons_of_mem _ w_24⟩
set_option maxRecDepth 100000 in
theorem s_Sb_init_6 : Cond.arrayClass .int ∈ m_Sb_init.2.2.2.2.1 := List.mem_cons_of_mem _ w_61
set_option maxRecDepth 100000 in
theorem s_Sb_init_8 : zPut m_Sb_init 8 5 0 (.array .int) := ⟨7, R_Sb, T_Sb, 3, ty_Sb, d_Sb_init_8, rfl, by decide, fun w hw => List.mem_cons_of_mem _ (uws_Sb w hw), List.mem_cons_of_mem _ w_93, tyok_Sb, nm_Sb, tyok_Sb 0 (by decide), Or.inr ⟨rfl, rfl, rfl⟩⟩
set_option maxRecDepth 100000 in
theorem s_Sb_init_13 : Cond.arrayClass .int ∈ m_Sb_init.2.2.2.2.1 := List.mem_cons_of_mem _ w_61
set_option maxRecDepth 100000 in
theorem s_Sb_init_15 : zPut m_Sb_init 15 5 1 (.array .int) := ⟨13, R_Sb, T_Sb, 3, ty_Sb, d_Sb_init_15, rfl, by decide, fun w hw => List.mem_cons_of_mem _ (uws_Sb w hw), List.mem_cons_of_mem _ w_95, tyok_Sb, nm_Sb, tyok_Sb 1 (by decide), Or.inr ⟨rfl, rfl, rfl⟩⟩
set_option maxRecDepth 100000 in
theorem s_Li_init_1 : zObj m_Li_init 1 := ⟨3, d_Li_init_1, List.mem_cons_of_mem _ w_110, List.mem_cons_of_mem _ w_23, List.mem_cons_of_mem _ w_24⟩
set_option maxRecDepth 100000 in
theorem s_Lo_init_1 : zObj m_Lo_init 1 := ⟨3, d_Lo_init_1, List.mem_cons_of_mem _ w_157, List.mem_cons_of_mem _ w_23, List.mem_cons_of_mem _ w_24⟩
set_option maxRecDepth 100000 in
theorem s_Lo_init_7 : Cond.arrayClass .int ∈ m_Lo_init.2.2.2.2.1 := List.mem_cons_of_mem _ w_61
set_option maxRecDepth 100000 in
theorem s_Lo_init_9 : zPut m_Lo_init 9 2 0 (.array .int) := ⟨9, R_Lo, T_Lo, 3, ty_Lo, d_Lo_init_9, rfl, by decide, fun w hw => List.mem_cons_of_mem _ (uws_Lo w hw), List.mem_cons_of_mem _ w_158, tyok_Lo, nm_Lo, tyok_Lo 0 (by decide), Or.inr ⟨rfl, rfl, rfl⟩⟩
set_option maxRecDepth 100000 in
theorem s_Lo_init_15 : Cond.arrayClass .int ∈ m_Lo_init.2.2.2.2.1 := List.mem_cons_of_mem _ w_61
set_option maxRecDepth 100000 in
theorem s_Lo_init_17 : zPut m_Lo_init 17 2 1 (.array .int) := ⟨15, R_Lo, T_Lo, 3, ty_Lo, d_Lo_init_17, rfl, by decide, fun w hw => List.mem_cons_of_mem _ (uws_Lo w hw), List.mem_cons_of_mem _ w_160, tyok_Lo, nm_Lo, tyok_Lo 1 (by decide), Or.inr ⟨rfl, rfl, rfl⟩⟩
set_option maxRecDepth 100000 in
theorem s_B_events_1 : zGet m_B_events 1 6 2 := ⟨34, R_B, T_B, 3, d_B_events_1, rfl, by decide, fun w hw => List.mem_cons_of_mem _ (uws_B w hw), List.mem_cons_of_mem _ w_173⟩
set_option maxRecDepth 100000 in
theorem s_B_events_4 : zGet m_B_events 4 2 2 := ⟨217, R_Lo, T_Lo, 3, d_B_events_4, rfl, by decide, fun w hw => List.mem_cons_of_mem _ (uws_Lo w hw), List.mem_cons_of_mem _ w_163⟩
set_option maxRecDepth 100000 in
theorem s_B_code_2 : zCV m_B_code 2 m_B_coreAt 1 := ⟨38, zT, d_B_code_2, zGoodV w_198 w_200 ws_0 w_1 w_201, rfl, ⟨by decide +kernel, by decide +kernel, by decide +kernel⟩, ⟨by decide, by decide⟩⟩
set_option maxRecDepth 100000 in
theorem s_B_code_5 : zGet m_B_code 5 0 2 := ⟨42, R_Co, T_Co, 7, d_B_code_5, rfl, by decide, fun w hw => List.mem_cons_of_mem _ (uws_Co w hw), List.mem_cons_of_mem _ w_129⟩
set_option maxRecDepth 100000 in
theorem s_B_code_14 : zCS m_B_code 14 m_B_isInstruction 3 := ⟨46, zT, d_B_code_14, zGoodS w_271 w_272 w_1 w_273, Or.inl rfl, ⟨by decide +kernel, by decide +kernel, by decide +kernel⟩, ⟨by decide, by decide⟩⟩
set_option maxRecDepth 100000 in
theorem s_B_code_20 : zThr m_B_code 20 "java/lang/IllegalArgumentException" := ⟨50, 52, 54, 1, "no such instruction", d_B_code_20, d_B_code_23, d_B_code_24, d_B_code_26, d_B_code_29, rfl, by decide +kernel, List.mem_cons_of_mem _ w_277, List.mem_cons_of_mem _ w_14, fun w hw => List.mem_cons_of_mem _ (zT.at ((by decide +kernel : ∀ w ∈ (vx_atS "BufferedCores" 54 "java/lang/IllegalArgumentException" ["java/lang/RuntimeException", "java/lang/Exception"]).filter goodWord, w ∈ lw_tbl) w hw) (List.mem_filter.mp hw).2), by decide +kernel, by decide +kernel, rfl, by decide⟩
set_option maxRecDepth 100000 in
theorem s_B_code_32 : zGet m_B_code 32 3 3 := ⟨57, R_Pr, T_Pr, 4, d_B_code_32, rfl, by decide, fun w hw => List.mem_cons_of_mem _ (uws_Pr w hw), List.mem_cons_of_mem _ w_51⟩
set_option maxRecDepth 100000 in
theorem s_B_code_40 : zThr m_B_code 40 "java/lang/IllegalStateException" := ⟨63, 65, 67, 2, "the program is full", d_B_code_40, d_B_code_43, d_B_code_44, d_B_code_46, d_B_code_49, rfl, by decide +kernel, List.mem_cons_of_mem _ w_293, List.mem_cons_of_mem _ w_15, fun w hw => List.mem_cons_of_mem _ (zT.at ((by decide +kernel : ∀ w ∈ (vx_atS "BufferedCores" 67 "java/lang/IllegalStateException" ["java/lang/RuntimeException", "java/lang/Exception"]).filter goodWord, w ∈ lw_tbl) w hw) (List.mem_filter.mp hw).2), by decide +kernel, by decide +kernel, rfl, by decide⟩
set_option maxRecDepth 100000 in
theorem s_B_code_56 : zCV m_B_code 56 m_Pr_append 3 := ⟨68, zT, d_B_code_56, zGoodV w_309 w_310 w_311 w_4 w_312, rfl, ⟨by decide +kernel, by decide +kernel, by decide +kernel⟩, ⟨by decide, by decide⟩⟩
set_option maxRecDepth 100000 in
theorem s_B_code_61 : zGet m_B_code 61 3 3 := ⟨57, R_Pr, T_Pr, 4, d_B_code_61, rfl, by decide, fun w hw => List.mem_cons_of_mem _ (uws_Pr w hw), List.mem_cons_of_mem _ w_51⟩
set_option maxRecDepth 100000 in
theorem s_B_coreAt_9 : zThr m_B_coreAt 9 "java/lang/IndexOutOfBoundsException" := ⟨227, 229, 231, 0, "no such core", d_B_coreAt_9, d_B_coreAt_12, d_B_coreAt_13, d_B_coreAt_15, d_B_coreAt_18, rfl, by decide +kernel, List.mem_cons_of_mem _ w_202, List.mem_cons_of_mem _ w_13, fun w hw => List.mem_cons_of_mem _ (zT.at ((by decide +kernel : ∀ w ∈ (vx_atS "BufferedCores" 231 "java/lang/IndexOutOfBoundsException" ["java/lang/RuntimeException", "java/lang/Exception"]).filter goodWord, w ∈ lw_tbl) w hw) (List.mem_filter.mp hw).2), by decide +kernel, by decide +kernel, rfl, by decide⟩
set_option maxRecDepth 100000 in
theorem s_B_coreAt_20 : zGet m_B_coreAt 20 6 1 := ⟨24, R_B, T_B, 3, d_B_coreAt_20, rfl, by decide, fun w hw => List.mem_cons_of_mem _ (uws_B w hw), List.mem_cons_of_mem _ w_172⟩
set_option maxRecDepth 100000 in
theorem s_B_isInstruction_49 : zCS m_B_isInstruction 49 m_B_isRegister 1 := ⟨186, zT, d_B_isInstruction_49, zGoodS w_274 w_275 w_1 w_276, Or.inl rfl, ⟨by decide +kernel, by decide +kernel, by decide +kernel⟩, ⟨by decide, by decide⟩⟩
set_option maxRecDepth 100000 in
theorem s_B_isInstruction_56 : zCS m_B_isInstruction 56 m_B_isRegister 1 := ⟨186, zT, d_B_isInstruction_56, zGoodS w_274 w_275 w_1 w_276, Or.inl rfl, ⟨by decide +kernel, by decide +kernel, by decide +kernel⟩, ⟨by decide, by decide⟩⟩
set_option maxRecDepth 100000 in
theorem s_B_isInstruction_69 : zCS m_B_isInstruction 69 m_B_isRegister 1 := ⟨186, zT, d_B_isInstruction_69, zGoodS w_274 w_275 w_1 w_276, Or.inl rfl, ⟨by decide +kernel, by decide +kernel, by decide +kernel⟩, ⟨by decide, by decide⟩⟩
set_option maxRecDepth 100000 in
theorem s_B_isInstruction_74 : zCS m_B_isInstruction 74 m_B_isRegister 1 := ⟨186, zT, d_B_isInstruction_74, zGoodS w_274 w_275 w_1 w_276, Or.inl rfl, ⟨by decide +kernel, by decide +kernel, by decide +kernel⟩, ⟨by decide, by decide⟩⟩
set_option maxRecDepth 100000 in
theorem s_Pr_append_1 : zGet m_Pr_append 1 3 0 := ⟨9, R_Pr, T_Pr, 4, d_Pr_append_1, rfl, by decide, fun w hw => List.mem_cons_of_mem _ (uws_Pr w hw), List.mem_cons_of_mem _ w_44⟩
set_option maxRecDepth 100000 in
theorem s_Pr_append_5 : zGet m_Pr_append 5 3 3 := ⟨21, R_Pr, T_Pr, 4, d_Pr_append_5, rfl, by decide, fun w hw => List.mem_cons_of_mem _ (uws_Pr w hw), List.mem_cons_of_mem _ w_50⟩
set_option maxRecDepth 100000 in
theorem s_Pr_append_11 : zGet m_Pr_append 11 3 1 := ⟨15, R_Pr, T_Pr, 4, d_Pr_append_11, rfl, by decide, fun w hw => List.mem_cons_of_mem _ (uws_Pr w hw), List.mem_cons_of_mem _ w_46⟩
set_option maxRecDepth 100000 in
theorem s_Pr_append_15 : zGet m_Pr_append 15 3 3 := ⟨21, R_Pr, T_Pr, 4, d_Pr_append_15, rfl, by decide, fun w hw => List.mem_cons_of_mem _ (uws_Pr w hw), List.mem_cons_of_mem _ w_50⟩
set_option maxRecDepth 100000 in
theorem s_Pr_append_21 : zGet m_Pr_append 21 3 2 := ⟨18, R_Pr, T_Pr, 4, d_Pr_append_21, rfl, by decide, fun w hw => List.mem_cons_of_mem _ (uws_Pr w hw), List.mem_cons_of_mem _ w_48⟩
set_option maxRecDepth 100000 in
theorem s_Pr_append_25 : zGet m_Pr_append 25 3 3 := ⟨21, R_Pr, T_Pr, 4, d_Pr_append_25, rfl, by decide, fun w hw => List.mem_cons_of_mem _ (uws_Pr w hw), List.mem_cons_of_mem _ w_50⟩
set_option maxRecDepth 100000 in
theorem s_Pr_append_32 : zGet m_Pr_append 32 3 3 := ⟨21, R_Pr, T_Pr, 4, d_Pr_append_32, rfl, by decide, fun w hw => List.mem_cons_of_mem _ (uws_Pr w hw), List.mem_cons_of_mem _ w_50⟩
set_option maxRecDepth 100000 in
theorem s_Pr_append_37 : zPut m_Pr_append 37 3 3 (.int) := ⟨21, R_Pr, T_Pr, 4, ty_Pr, d_Pr_append_37, rfl, by decide, fun w hw => List.mem_cons_of_mem _ (uws_Pr w hw), List.mem_cons_of_mem _ w_50, tyok_Pr, nm_Pr, tyok_Pr 3 (by decide), Or.inl rfl⟩
set_option maxRecDepth 100000 in
theorem s_B_poke_1 : zCS m_B_poke 1 m_B_requireAddress 1 := ⟨72, zT, d_B_poke_1, zGoodS w_320 w_321 w_1 w_322, Or.inl rfl, ⟨by decide +kernel, by decide +kernel, by decide +kernel⟩, ⟨by decide, by decide⟩⟩
set_option maxRecDepth 100000 in
theorem s_B_poke_6 : zCV m_B_poke 6 m_B_isInUse 1 := ⟨76, zT, d_B_poke_6, zGoodV w_324 w_326 ws_2 w_1 w_327, rfl, ⟨by decide +kernel, by decide +kernel, by decide +kernel⟩, ⟨by decide, by decide⟩⟩
set_option maxRecDepth 100000 in
theorem s_B_poke_12 : zThr m_B_poke 12 "java/lang/IllegalStateException" := ⟨63, 80, 67, 4, "a core has the word, or it is in flight", d_B_poke_12, d_B_poke_15, d_B_poke_16, d_B_poke_18, d_B_poke_21, rfl, by decide +kernel, List.mem_cons_of_mem _ w_293, List.mem_cons_of_mem _ w_15, fun w hw => List.mem_cons_of_mem _ (zT.at ((by decide +kernel : ∀ w ∈ (vx_atS "BufferedCores" 67 "java/lang/IllegalStateException" ["java/lang/RuntimeException", "java/lang/Exception"]).filter goodWord, w ∈ lw_tbl) w hw) (List.mem_filter.mp hw).2), by decide +kernel, by decide +kernel, rfl, by decide⟩
set_option maxRecDepth 100000 in
theorem s_B_poke_23 : zGet m_B_poke 23 6 0 := ⟨18, R_B, T_B, 3, d_B_poke_23, rfl, by decide, fun w hw => List.mem_cons_of_mem _ (uws_B w hw), List.mem_cons_of_mem _ w_171⟩
set_option maxRecDepth 100000 in
theorem s_B_requireAddress_10 : zThr m_B_requireAddress 10 "java/lang/IllegalArgumentException" := ⟨50, 232, 54, 3, "no such address", d_B_requireAddress_10, d_B_requireAddress_13, d_B_requireAddress_14, d_B_requireAddress_16, d_B_requireAddress_19, rfl, by decide +kernel, List.mem_cons_of_mem _ w_277, List.mem_cons_of_mem _ w_14, fun w hw => List.mem_cons_of_mem _ (zT.at ((by decide +kernel : ∀ w ∈ (vx_atS "BufferedCores" 54 "java/lang/IllegalArgumentException" ["java/lang/RuntimeException", "java/lang/Exception"]).filter goodWord, w ∈ lw_tbl) w hw) (List.mem_filter.mp hw).2), by decide +kernel, by decide +kernel, rfl, by decide⟩
set_option maxRecDepth 100000 in
theorem s_B_isInUse_8 : zGet m_B_isInUse 8 6 1 := ⟨24, R_B, T_B, 3, d_B_isInUse_8, rfl, by decide, fun w hw => List.mem_cons_of_mem _ (uws_B w hw), List.mem_cons_of_mem _ w_172⟩
set_option maxRecDepth 100000 in
theorem s_B_isInUse_14 : zCV m_B_isInUse 14 m_Co_lineFor 1 := ⟨110, zT, d_B_isInUse_14, zGoodV w_328 w_329 w_330 w_3 w_331, rfl, ⟨by decide +kernel, by decide +kernel, by decide +kernel⟩, ⟨by decide, by decide⟩⟩
set_option maxRecDepth 100000 in
theorem s_B_isInUse_18 : zCV m_B_isInUse 18 m_Li_has 1 := ⟨208, zT, d_B_isInUse_18, zGoodV w_332 w_333 w_334 w_7 w_335, rfl, ⟨by decide +kernel, by decide +kernel, by decide +kernel⟩, ⟨by decide, by decide⟩⟩
set_option maxRecDepth 100000 in
theorem s_B_isInUse_25 : zGet m_B_isInUse 25 6 1 := ⟨24, R_B, T_B, 3, d_B_isInUse_25, rfl, by decide, fun w hw => List.mem_cons_of_mem _ (uws_B w hw), List.mem_cons_of_mem _ w_172⟩
set_option maxRecDepth 100000 in
theorem s_B_isInUse_30 : zGet m_B_isInUse 30 0 5 := ⟨139, R_Co, T_Co, 7, d_B_isInUse_30, rfl, by decide, fun w hw => List.mem_cons_of_mem _ (uws_Co w hw), List.mem_cons_of_mem _ w_135⟩
set_option maxRecDepth 100000 in
theorem s_B_isInUse_34 : zCV m_B_isInUse 34 m_Rq_fliesFor 1 := ⟨266, zT, d_B_isInUse_34, zGoodV w_336 w_337 w_338 w_5 w_339, rfl, ⟨by decide +kernel, by decide +kernel, by decide +kernel⟩, ⟨by decide, by decide⟩⟩
set_option maxRecDepth 100000 in
theorem s_Co_lineFor_1 : zGet m_Co_lineFor 1 0 4 := ⟨24, R_Co, T_Co, 7, d_Co_lineFor_1, rfl, by decide, fun w hw => List.mem_cons_of_mem _ (uws_Co w hw), List.mem_cons_of_mem _ w_132⟩
set_option maxRecDepth 100000 in
theorem s_Li_has_1 : zGet m_Li_has 1 1 0 := ⟨9, R_Li, T_Li, 3, d_Li_has_1, rfl, by decide, fun w hw => List.mem_cons_of_mem _ (uws_Li w hw), List.mem_cons_of_mem _ w_111⟩
set_option maxRecDepth 100000 in
theorem s_Li_has_8 : zGet m_Li_has 8 1 1 := ⟨15, R_Li, T_Li, 3, d_Li_has_8, rfl, by decide, fun w hw => List.mem_cons_of_mem _ (uws_Li w hw), List.mem_cons_of_mem _ w_113⟩
set_option maxRecDepth 100000 in
theorem s_Rq_fliesFor_1 : zGet m_Rq_fliesFor 1 4 2 := ⟨9, R_Rq, T_Rq, 4, d_Rq_fliesFor_1, rfl, by decide, fun w hw => List.mem_cons_of_mem _ (uws_Rq w hw), List.mem_cons_of_mem _ w_74⟩
set_option maxRecDepth 100000 in
theorem s_Rq_fliesFor_8 : zGet m_Rq_fliesFor 8 4 1 := ⟨15, R_Rq, T_Rq, 4, d_Rq_fliesFor_8, rfl, by decide, fun w hw => List.mem_cons_of_mem _ (uws_Rq w hw), List.mem_cons_of_mem _ w_72⟩
set_option maxRecDepth 100000 in
theorem s_B_step_2 : zCV m_B_step 2 m_B_coreAt 1 := ⟨38, zT, d_B_step_2, zGoodV w_198 w_200 ws_0 w_1 w_201, rfl, ⟨by decide +kernel, by decide +kernel, by decide +kernel⟩, ⟨by decide, by decide⟩⟩
set_option maxRecDepth 100000 in
theorem s_B_step_7 : zGet m_B_step 7 0 2 := ⟨42, R_Co, T_Co, 7, d_B_step_7, rfl, by decide, fun w hw => List.mem_cons_of_mem _ (uws_Co w hw), List.mem_cons_of_mem _ w_129⟩
set_option maxRecDepth 100000 in
theorem s_B_step_12 : zGet m_B_step 12 0 6 := ⟨82, R_Co, T_Co, 7, d_B_step_12, rfl, by decide, fun w hw => List.mem_cons_of_mem _ (uws_Co w hw), List.mem_cons_of_mem _ w_136⟩
set_option maxRecDepth 100000 in
theorem s_B_step_20 : zGet m_B_step 20 3 3 := ⟨57, R_Pr, T_Pr, 4, d_B_step_20, rfl, by decide, fun w hw => List.mem_cons_of_mem _ (uws_Pr w hw), List.mem_cons_of_mem _ w_51⟩
set_option maxRecDepth 100000 in
theorem s_B_step_31 : zGet m_B_step 31 3 0 := ⟨85, R_Pr, T_Pr, 4, d_B_step_31, rfl, by decide, fun w hw => List.mem_cons_of_mem _ (uws_Pr w hw), List.mem_cons_of_mem _ w_45⟩
set_option maxRecDepth 100000 in
theorem s_B_step_38 : zGet m_B_step 38 3 1 := ⟨88, R_Pr, T_Pr, 4, d_B_step_38, rfl, by decide, fun w hw => List.mem_cons_of_mem _ (uws_Pr w hw), List.mem_cons_of_mem _ w_47⟩
set_option maxRecDepth 100000 in
theorem s_B_step_45 : zGet m_B_step 45 3 2 := ⟨91, R_Pr, T_Pr, 4, d_B_step_45, rfl, by decide, fun w hw => List.mem_cons_of_mem _ (uws_Pr w hw), List.mem_cons_of_mem _ w_49⟩
set_option maxRecDepth 100000 in
theorem s_B_step_51 : zCV m_B_step 51 m_B_execute 4 := ⟨94, zT, d_B_step_51, zGoodV w_348 w_350 ws_3 w_1 w_351, rfl, ⟨by decide +kernel, by decide +kernel, by decide +kernel⟩, ⟨by decide, by decide⟩⟩
set_option maxRecDepth 100000 in
theorem s_B_execute_1 : zGet m_B_execute 1 0 1 := ⟨191, R_Co, T_Co, 7, d_B_execute_1, rfl, by decide, fun w hw => List.mem_cons_of_mem _ (uws_Co w hw), List.mem_cons_of_mem _ w_127⟩
set_option maxRecDepth 100000 in
theorem s_B_execute_59 : zCV m_B_execute 59 m_B_executeLoad 3 := ⟨241, zT, d_B_execute_59, zGoodV w_352 w_354 ws_4 w_1 w_355, rfl, ⟨by decide +kernel, by decide +kernel, by decide +kernel⟩, ⟨by decide, by decide⟩⟩
set_option maxRecDepth 100000 in
theorem s_B_execute_76 : zCS m_B_execute 76 m_B_executeStore 3 := ⟨244, zT, d_B_execute_76, zGoodS w_377 w_378 w_1 w_379, Or.inl rfl, ⟨by decide +kernel, by decide +kernel, by decide +kernel⟩, ⟨by decide, by decide⟩⟩
set_option maxRecDepth 100000 in
theorem s_B_execute_81 : zGet m_B_execute 81 0 3 := ⟨98, R_Co, T_Co, 7, d_B_execute_81, rfl, by decide, fun w hw => List.mem_cons_of_mem _ (uws_Co w hw), List.mem_cons_of_mem _ w_131⟩
set_option maxRecDepth 100000 in
theorem s_B_execute_84 : zGet m_B_execute 84 5 2 := ⟨102, R_Sb, T_Sb, 3, d_B_execute_84, rfl, by decide, fun w hw => List.mem_cons_of_mem _ (uws_Sb w hw), List.mem_cons_of_mem _ w_98⟩
set_option maxRecDepth 100000 in
theorem s_B_execute_92 : zGet m_B_execute 92 0 6 := ⟨82, R_Co, T_Co, 7, d_B_execute_92, rfl, by decide, fun w hw => List.mem_cons_of_mem _ (uws_Co w hw), List.mem_cons_of_mem _ w_136⟩
set_option maxRecDepth 100000 in
theorem s_B_execute_97 : zCS m_B_execute 97 m_B_goTo 2 := ⟨247, zT, d_B_execute_97, zGoodS w_374 w_375 w_1 w_376, Or.inl rfl, ⟨by decide +kernel, by decide +kernel, by decide +kernel⟩, ⟨by decide, by decide⟩⟩
set_option maxRecDepth 100000 in
theorem s_B_execute_119 : zCV m_B_execute 119 m_B_executeSwap 3 := ⟨251, zT, d_B_execute_119, zGoodV w_388 w_390 ws_5 w_1 w_391, rfl, ⟨by decide +kernel, by decide +kernel, by decide +kernel⟩, ⟨by decide, by decide⟩⟩
set_option maxRecDepth 100000 in
theorem s_B_execute_137 : zGet m_B_execute 137 0 6 := ⟨82, R_Co, T_Co, 7, d_B_execute_137, rfl, by decide, fun w hw => List.mem_cons_of_mem _ (uws_Co w hw), List.mem_cons_of_mem _ w_136⟩
set_option maxRecDepth 100000 in
theorem s_B_execute_142 : zCS m_B_execute 142 m_B_goTo 2 := ⟨247, zT, d_B_execute_142, zGoodS w_374 w_375 w_1 w_376, Or.inl rfl, ⟨by decide +kernel, by decide +kernel, by decide +kernel⟩, ⟨by decide, by decide⟩⟩
set_option maxRecDepth 100000 in
theorem s_B_execute_154 : zGet m_B_execute 154 0 6 := ⟨82, R_Co, T_Co, 7, d_B_execute_154, rfl, by decide, fun w hw => List.mem_cons_of_mem _ (uws_Co w hw), List.mem_cons_of_mem _ w_136⟩
set_option maxRecDepth 100000 in
theorem s_B_execute_159 : zCS m_B_execute 159 m_B_goTo 2 := ⟨247, zT, d_B_execute_159, zGoodS w_374 w_375 w_1 w_376, Or.inl rfl, ⟨by decide +kernel, by decide +kernel, by decide +kernel⟩, ⟨by decide, by decide⟩⟩
set_option maxRecDepth 100000 in
theorem s_B_execute_177 : zGet m_B_execute 177 0 6 := ⟨82, R_Co, T_Co, 7, d_B_execute_177, rfl, by decide, fun w hw => List.mem_cons_of_mem _ (uws_Co w hw), List.mem_cons_of_mem _ w_136⟩
set_option maxRecDepth 100000 in
theorem s_B_execute_182 : zCS m_B_execute 182 m_B_goTo 2 := ⟨247, zT, d_B_execute_182, zGoodS w_374 w_375 w_1 w_376, Or.inl rfl, ⟨by decide +kernel, by decide +kernel, by decide +kernel⟩, ⟨by decide, by decide⟩⟩
set_option maxRecDepth 100000 in
theorem s_B_executeLoad_1 : zGet m_B_executeLoad 1 0 3 := ⟨98, R_Co, T_Co, 7, d_B_executeLoad_1, rfl, by decide, fun w hw => List.mem_cons_of_mem _ (uws_Co w hw), List.mem_cons_of_mem _ w_131⟩
set_option maxRecDepth 100000 in
theorem s_B_executeLoad_5 : zCV m_B_executeLoad 5 m_Sb_youngestTo 1 := ⟨254, zT, d_B_executeLoad_5, zGoodV w_356 w_357 w_358 w_6 w_359, rfl, ⟨by decide +kernel, by decide +kernel, by decide +kernel⟩, ⟨by decide, by decide⟩⟩
set_option maxRecDepth 100000 in
theorem s_B_executeLoad_12 : zCV m_B_executeLoad 12 m_Co_lineFor 1 := ⟨110, zT, d_B_executeLoad_12, zGoodV w_328 w_329 w_330 w_3 w_331, rfl, ⟨by decide +kernel, by decide +kernel, by decide +kernel⟩, ⟨by decide, by decide⟩⟩
set_option maxRecDepth 100000 in
theorem s_B_executeLoad_25 : zCV m_B_executeLoad 25 m_Li_has 1 := ⟨208, zT, d_B_executeLoad_25, zGoodV w_332 w_333 w_334 w_7 w_335, rfl, ⟨by decide +kernel, by decide +kernel, by decide +kernel⟩, ⟨by decide, by decide⟩⟩
set_option maxRecDepth 100000 in
theorem s_B_executeLoad_34 : zCS m_B_executeLoad 34 m_B_ask 3 := ⟨119, zT, d_B_executeLoad_34, zGoodS w_360 w_361 w_1 w_362, Or.inl rfl, ⟨by decide +kernel, by decide +kernel, by decide +kernel⟩, ⟨by decide, by decide⟩⟩
set_option maxRecDepth 100000 in
theorem s_B_executeLoad_44 : zGet m_B_executeLoad 44 0 3 := ⟨98, R_Co, T_Co, 7, d_B_executeLoad_44, rfl, by decide, fun w hw => List.mem_cons_of_mem _ (uws_Co w hw), List.mem_cons_of_mem _ w_131⟩
set_option maxRecDepth 100000 in
theorem s_B_executeLoad_47 : zGet m_B_executeLoad 47 5 1 := ⟨123, R_Sb, T_Sb, 3, d_B_executeLoad_47, rfl, by decide, fun w hw => List.mem_cons_of_mem _ (uws_Sb w hw), List.mem_cons_of_mem _ w_96⟩
set_option maxRecDepth 100000 in
theorem s_B_executeLoad_58 : zGet m_B_executeLoad 58 1 2 := ⟨216, R_Li, T_Li, 3, d_B_executeLoad_58, rfl, by decide, fun w hw => List.mem_cons_of_mem _ (uws_Li w hw), List.mem_cons_of_mem _ w_116⟩
set_option maxRecDepth 100000 in
theorem s_B_executeLoad_64 : zGet m_B_executeLoad 64 0 1 := ⟨191, R_Co, T_Co, 7, d_B_executeLoad_64, rfl, by decide, fun w hw => List.mem_cons_of_mem _ (uws_Co w hw), List.mem_cons_of_mem _ w_127⟩
set_option maxRecDepth 100000 in
theorem s_B_executeLoad_72 : zGet m_B_executeLoad 72 6 2 := ⟨34, R_B, T_B, 3, d_B_executeLoad_72, rfl, by decide, fun w hw => List.mem_cons_of_mem _ (uws_B w hw), List.mem_cons_of_mem _ w_173⟩
set_option maxRecDepth 100000 in
theorem s_B_executeLoad_77 : zGet m_B_executeLoad 77 0 0 := ⟨132, R_Co, T_Co, 7, d_B_executeLoad_77, rfl, by decide, fun w hw => List.mem_cons_of_mem _ (uws_Co w hw), List.mem_cons_of_mem _ w_125⟩
set_option maxRecDepth 100000 in
theorem s_B_executeLoad_83 : zCV m_B_executeLoad 83 m_Lo_enter 4 := ⟨135, zT, d_B_executeLoad_83, zGoodV w_367 w_368 w_369 w_8 w_370, rfl, ⟨by decide +kernel, by decide +kernel, by decide +kernel⟩, ⟨by decide, by decide⟩⟩
set_option maxRecDepth 100000 in
theorem s_B_executeLoad_88 : zGet m_B_executeLoad 88 0 6 := ⟨82, R_Co, T_Co, 7, d_B_executeLoad_88, rfl, by decide, fun w hw => List.mem_cons_of_mem _ (uws_Co w hw), List.mem_cons_of_mem _ w_136⟩
set_option maxRecDepth 100000 in
theorem s_B_executeLoad_93 : zCS m_B_executeLoad 93 m_B_goTo 2 := ⟨247, zT, d_B_executeLoad_93, zGoodS w_374 w_375 w_1 w_376, Or.inl rfl, ⟨by decide +kernel, by decide +kernel, by decide +kernel⟩, ⟨by decide, by decide⟩⟩
set_option maxRecDepth 100000 in
theorem s_Sb_youngestTo_1 : zGet m_Sb_youngestTo 1 5 2 := ⟨16, R_Sb, T_Sb, 3, d_Sb_youngestTo_1, rfl, by decide, fun w hw => List.mem_cons_of_mem _ (uws_Sb w hw), List.mem_cons_of_mem _ w_97⟩
set_option maxRecDepth 100000 in
theorem s_Sb_youngestTo_12 : zGet m_Sb_youngestTo 12 5 0 := ⟨7, R_Sb, T_Sb, 3, d_Sb_youngestTo_12, rfl, by decide, fun w hw => List.mem_cons_of_mem _ (uws_Sb w hw), List.mem_cons_of_mem _ w_93⟩
set_option maxRecDepth 100000 in
theorem s_B_ask_1 : zGet m_B_ask 1 0 5 := ⟨139, R_Co, T_Co, 7, d_B_ask_1, rfl, by decide, fun w hw => List.mem_cons_of_mem _ (uws_Co w hw), List.mem_cons_of_mem _ w_135⟩
set_option maxRecDepth 100000 in
theorem s_B_ask_4 : zGet m_B_ask 4 4 0 := ⟨143, R_Rq, T_Rq, 4, d_B_ask_4, rfl, by decide, fun w hw => List.mem_cons_of_mem _ (uws_Rq w hw), List.mem_cons_of_mem _ w_71⟩
set_option maxRecDepth 100000 in
theorem s_B_ask_11 : zGet m_B_ask 11 0 5 := ⟨139, R_Co, T_Co, 7, d_B_ask_11, rfl, by decide, fun w hw => List.mem_cons_of_mem _ (uws_Co w hw), List.mem_cons_of_mem _ w_135⟩
set_option maxRecDepth 100000 in
theorem s_B_ask_16 : zCV m_B_ask 16 m_Rq_begin 2 := ⟨263, zT, d_B_ask_16, zGoodV w_363 w_364 w_365 w_5 w_366, rfl, ⟨by decide +kernel, by decide +kernel, by decide +kernel⟩, ⟨by decide, by decide⟩⟩
set_option maxRecDepth 100000 in
theorem s_Rq_begin_2 : zPut m_Rq_begin 2 4 0 (.int) := ⟨19, R_Rq, T_Rq, 4, ty_Rq, d_Rq_begin_2, rfl, by decide, fun w hw => List.mem_cons_of_mem _ (uws_Rq w hw), List.mem_cons_of_mem _ w_70, tyok_Rq, nm_Rq, tyok_Rq 0 (by decide), Or.inl rfl⟩
set_option maxRecDepth 100000 in
theorem s_Rq_begin_7 : zPut m_Rq_begin 7 4 1 (.int) := ⟨15, R_Rq, T_Rq, 4, ty_Rq, d_Rq_begin_7, rfl, by decide, fun w hw => List.mem_cons_of_mem _ (uws_Rq w hw), List.mem_cons_of_mem _ w_72, tyok_Rq, nm_Rq, tyok_Rq 1 (by decide), Or.inl rfl⟩
set_option maxRecDepth 100000 in
theorem s_Lo_enter_1 : zGet m_Lo_enter 1 2 2 := ⟨18, R_Lo, T_Lo, 3, d_Lo_enter_1, rfl, by decide, fun w hw => List.mem_cons_of_mem _ (uws_Lo w hw), List.mem_cons_of_mem _ w_162⟩
set_option maxRecDepth 100000 in
theorem s_Lo_enter_6 : zCS m_Lo_enter 6 m_J_floorMod 2 := ⟨22, zT, d_Lo_enter_6, zGoodS w_371 w_372 w_2 w_373, Or.inl rfl, ⟨by decide +kernel, by decide +kernel, by decide +kernel⟩, ⟨by decide, by decide⟩⟩
set_option maxRecDepth 100000 in
theorem s_Lo_enter_12 : zGet m_Lo_enter 12 2 0 := ⟨9, R_Lo, T_Lo, 3, d_Lo_enter_12, rfl, by decide, fun w hw => List.mem_cons_of_mem _ (uws_Lo w hw), List.mem_cons_of_mem _ w_158⟩
set_option maxRecDepth 100000 in
theorem s_Lo_enter_29 : zGet m_Lo_enter 29 2 1 := ⟨15, R_Lo, T_Lo, 3, d_Lo_enter_29, rfl, by decide, fun w hw => List.mem_cons_of_mem _ (uws_Lo w hw), List.mem_cons_of_mem _ w_160⟩
set_option maxRecDepth 100000 in
theorem s_Lo_enter_39 : zGet m_Lo_enter 39 2 2 := ⟨18, R_Lo, T_Lo, 3, d_Lo_enter_39, rfl, by decide, fun w hw => List.mem_cons_of_mem _ (uws_Lo w hw), List.mem_cons_of_mem _ w_162⟩
set_option maxRecDepth 100000 in
theorem s_Lo_enter_44 : zPut m_Lo_enter 44 2 2 (.int) := ⟨18, R_Lo, T_Lo, 3, ty_Lo, d_Lo_enter_44, rfl, by decide, fun w hw => List.mem_cons_of_mem _ (uws_Lo w hw), List.mem_cons_of_mem _ w_162, tyok_Lo, nm_Lo, tyok_Lo 2 (by decide), Or.inl rfl⟩
set_option maxRecDepth 100000 in
theorem s_B_goTo_2 : zPut m_B_goTo 2 0 6 (.int) := ⟨82, R_Co, T_Co, 7, ty_Co, d_B_goTo_2, rfl, by decide, fun w hw => List.mem_cons_of_mem _ (uws_Co w hw), List.mem_cons_of_mem _ w_136, tyok_Co, nm_Co, tyok_Co 6 (by decide), Or.inl rfl⟩
set_option maxRecDepth 100000 in
theorem s_B_executeStore_1 : zGet m_B_executeStore 1 0 3 := ⟨98, R_Co, T_Co, 7, d_B_executeStore_1, rfl, by decide, fun w hw => List.mem_cons_of_mem _ (uws_Co w hw), List.mem_cons_of_mem _ w_131⟩
set_option maxRecDepth 100000 in
theorem s_B_executeStore_4 : zCV m_B_executeStore 4 m_Sb_isFull 0 := ⟨257, zT, d_B_executeStore_4, zGoodV w_380 w_381 w_382 w_6 w_383, rfl, ⟨by decide +kernel, by decide +kernel, by decide +kernel⟩, ⟨by decide, by decide⟩⟩
set_option maxRecDepth 100000 in
theorem s_B_executeStore_13 : zGet m_B_executeStore 13 0 3 := ⟨98, R_Co, T_Co, 7, d_B_executeStore_13, rfl, by decide, fun w hw => List.mem_cons_of_mem _ (uws_Co w hw), List.mem_cons_of_mem _ w_131⟩
set_option maxRecDepth 100000 in
theorem s_B_executeStore_18 : zCV m_B_executeStore 18 m_Sb_append 2 := ⟨261, zT, d_B_executeStore_18, zGoodV w_384 w_385 w_386 w_6 w_387, rfl, ⟨by decide +kernel, by decide +kernel, by decide +kernel⟩, ⟨by decide, by decide⟩⟩
set_option maxRecDepth 100000 in
theorem s_B_executeStore_23 : zGet m_B_executeStore 23 0 6 := ⟨82, R_Co, T_Co, 7, d_B_executeStore_23, rfl, by decide, fun w hw => List.mem_cons_of_mem _ (uws_Co w hw), List.mem_cons_of_mem _ w_136⟩
set_option maxRecDepth 100000 in
theorem s_B_executeStore_28 : zCS m_B_executeStore 28 m_B_goTo 2 := ⟨247, zT, d_B_executeStore_28, zGoodS w_374 w_375 w_1 w_376, Or.inl rfl, ⟨by decide +kernel, by decide +kernel, by decide +kernel⟩, ⟨by decide, by decide⟩⟩
set_option maxRecDepth 100000 in
theorem s_Sb_isFull_1 : zGet m_Sb_isFull 1 5 2 := ⟨16, R_Sb, T_Sb, 3, d_Sb_isFull_1, rfl, by decide, fun w hw => List.mem_cons_of_mem _ (uws_Sb w hw), List.mem_cons_of_mem _ w_97⟩
set_option maxRecDepth 100000 in
theorem s_Sb_isFull_5 : zGet m_Sb_isFull 5 5 0 := ⟨7, R_Sb, T_Sb, 3, d_Sb_isFull_5, rfl, by decide, fun w hw => List.mem_cons_of_mem _ (uws_Sb w hw), List.mem_cons_of_mem _ w_93⟩
set_option maxRecDepth 100000 in
theorem s_Sb_append_1 : zGet m_Sb_append 1 5 0 := ⟨7, R_Sb, T_Sb, 3, d_Sb_append_1, rfl, by decide, fun w hw => List.mem_cons_of_mem _ (uws_Sb w hw), List.mem_cons_of_mem _ w_93⟩
set_option maxRecDepth 100000 in
theorem s_Sb_append_5 : zGet m_Sb_append 5 5 2 := ⟨16, R_Sb, T_Sb, 3, d_Sb_append_5, rfl, by decide, fun w hw => List.mem_cons_of_mem _ (uws_Sb w hw), List.mem_cons_of_mem _ w_97⟩
set_option maxRecDepth 100000 in
theorem s_Sb_append_11 : zGet m_Sb_append 11 5 1 := ⟨13, R_Sb, T_Sb, 3, d_Sb_append_11, rfl, by decide, fun w hw => List.mem_cons_of_mem _ (uws_Sb w hw), List.mem_cons_of_mem _ w_95⟩
set_option maxRecDepth 100000 in
theorem s_Sb_append_15 : zGet m_Sb_append 15 5 2 := ⟨16, R_Sb, T_Sb, 3, d_Sb_append_15, rfl, by decide, fun w hw => List.mem_cons_of_mem _ (uws_Sb w hw), List.mem_cons_of_mem _ w_97⟩
set_option maxRecDepth 100000 in
theorem s_Sb_append_22 : zGet m_Sb_append 22 5 2 := ⟨16, R_Sb, T_Sb, 3, d_Sb_append_22, rfl, by decide, fun w hw => List.mem_cons_of_mem _ (uws_Sb w hw), List.mem_cons_of_mem _ w_97⟩
set_option maxRecDepth 100000 in
theorem s_Sb_append_27 : zPut m_Sb_append 27 5 2 (.int) := ⟨16, R_Sb, T_Sb, 3, ty_Sb, d_Sb_append_27, rfl, by decide, fun w hw => List.mem_cons_of_mem _ (uws_Sb w hw), List.mem_cons_of_mem _ w_97, tyok_Sb, nm_Sb, tyok_Sb 2 (by decide), Or.inl rfl⟩
set_option maxRecDepth 100000 in
theorem s_B_executeSwap_1 : zGet m_B_executeSwap 1 0 3 := ⟨98, R_Co, T_Co, 7, d_B_executeSwap_1, rfl, by decide, fun w hw => List.mem_cons_of_mem _ (uws_Co w hw), List.mem_cons_of_mem _ w_131⟩
set_option maxRecDepth 100000 in
theorem s_B_executeSwap_4 : zGet m_B_executeSwap 4 5 2 := ⟨102, R_Sb, T_Sb, 3, d_B_executeSwap_4, rfl, by decide, fun w hw => List.mem_cons_of_mem _ (uws_Sb w hw), List.mem_cons_of_mem _ w_98⟩
set_option maxRecDepth 100000 in
theorem s_B_executeSwap_14 : zCV m_B_executeSwap 14 m_Co_lineFor 1 := ⟨110, zT, d_B_executeSwap_14, zGoodV w_328 w_329 w_330 w_3 w_331, rfl, ⟨by decide +kernel, by decide +kernel, by decide +kernel⟩, ⟨by decide, by decide⟩⟩
set_option maxRecDepth 100000 in
theorem s_B_executeSwap_22 : zCV m_B_executeSwap 22 m_Li_owns 1 := ⟨114, zT, d_B_executeSwap_22, zGoodV w_392 w_393 w_394 w_7 w_395, rfl, ⟨by decide +kernel, by decide +kernel, by decide +kernel⟩, ⟨by decide, by decide⟩⟩
set_option maxRecDepth 100000 in
theorem s_B_executeSwap_31 : zCS m_B_executeSwap 31 m_B_ask 3 := ⟨119, zT, d_B_executeSwap_31, zGoodS w_360 w_361 w_1 w_362, Or.inl rfl, ⟨by decide +kernel, by decide +kernel, by decide +kernel⟩, ⟨by decide, by decide⟩⟩
set_option maxRecDepth 100000 in
theorem s_B_executeSwap_37 : zGet m_B_executeSwap 37 1 2 := ⟨216, R_Li, T_Li, 3, d_B_executeSwap_37, rfl, by decide, fun w hw => List.mem_cons_of_mem _ (uws_Li w hw), List.mem_cons_of_mem _ w_116⟩
set_option maxRecDepth 100000 in
theorem s_B_executeSwap_45 : zGet m_B_executeSwap 45 0 1 := ⟨191, R_Co, T_Co, 7, d_B_executeSwap_45, rfl, by decide, fun w hw => List.mem_cons_of_mem _ (uws_Co w hw), List.mem_cons_of_mem _ w_127⟩
set_option maxRecDepth 100000 in
theorem s_B_executeSwap_68 : zCV m_B_executeSwap 68 m_Li_modify 1 := ⟨126, zT, d_B_executeSwap_68, zGoodV w_397 w_398 w_399 w_7 w_400, rfl, ⟨by decide +kernel, by decide +kernel, by decide +kernel⟩, ⟨by decide, by decide⟩⟩
set_option maxRecDepth 100000 in
theorem s_B_executeSwap_72 : zGet m_B_executeSwap 72 0 1 := ⟨191, R_Co, T_Co, 7, d_B_executeSwap_72, rfl, by decide, fun w hw => List.mem_cons_of_mem _ (uws_Co w hw), List.mem_cons_of_mem _ w_127⟩
set_option maxRecDepth 100000 in
theorem s_B_executeSwap_88 : zGet m_B_executeSwap 88 6 2 := ⟨34, R_B, T_B, 3, d_B_executeSwap_88, rfl, by decide, fun w hw => List.mem_cons_of_mem _ (uws_B w hw), List.mem_cons_of_mem _ w_173⟩
set_option maxRecDepth 100000 in
theorem s_B_executeSwap_93 : zGet m_B_executeSwap 93 0 0 := ⟨132, R_Co, T_Co, 7, d_B_executeSwap_93, rfl, by decide, fun w hw => List.mem_cons_of_mem _ (uws_Co w hw), List.mem_cons_of_mem _ w_125⟩
set_option maxRecDepth 100000 in
theorem s_B_executeSwap_99 : zCV m_B_executeSwap 99 m_Lo_enter 4 := ⟨135, zT, d_B_executeSwap_99, zGoodV w_367 w_368 w_369 w_8 w_370, rfl, ⟨by decide +kernel, by decide +kernel, by decide +kernel⟩, ⟨by decide, by decide⟩⟩
set_option maxRecDepth 100000 in
theorem s_B_executeSwap_104 : zGet m_B_executeSwap 104 0 6 := ⟨82, R_Co, T_Co, 7, d_B_executeSwap_104, rfl, by decide, fun w hw => List.mem_cons_of_mem _ (uws_Co w hw), List.mem_cons_of_mem _ w_136⟩
set_option maxRecDepth 100000 in
theorem s_B_executeSwap_109 : zCS m_B_executeSwap 109 m_B_goTo 2 := ⟨247, zT, d_B_executeSwap_109, zGoodS w_374 w_375 w_1 w_376, Or.inl rfl, ⟨by decide +kernel, by decide +kernel, by decide +kernel⟩, ⟨by decide, by decide⟩⟩
set_option maxRecDepth 100000 in
theorem s_Li_owns_2 : zCV m_Li_owns 2 m_Li_has 1 := ⟨18, zT, d_Li_owns_2, zGoodV w_396 w_333 w_334 w_7 w_335, rfl, ⟨by decide +kernel, by decide +kernel, by decide +kernel⟩, ⟨by decide, by decide⟩⟩
set_option maxRecDepth 100000 in
theorem s_Li_owns_9 : zGet m_Li_owns 9 1 0 := ⟨9, R_Li, T_Li, 3, d_Li_owns_9, rfl, by decide, fun w hw => List.mem_cons_of_mem _ (uws_Li w hw), List.mem_cons_of_mem _ w_111⟩
set_option maxRecDepth 100000 in
theorem s_Li_modify_2 : zPut m_Li_modify 2 1 0 (.int) := ⟨9, R_Li, T_Li, 3, ty_Li, d_Li_modify_2, rfl, by decide, fun w hw => List.mem_cons_of_mem _ (uws_Li w hw), List.mem_cons_of_mem _ w_111, tyok_Li, nm_Li, tyok_Li 0 (by decide), Or.inl rfl⟩
set_option maxRecDepth 100000 in
theorem s_Li_modify_7 : zPut m_Li_modify 7 1 2 (.int) := ⟨22, R_Li, T_Li, 3, ty_Li, d_Li_modify_7, rfl, by decide, fun w hw => List.mem_cons_of_mem _ (uws_Li w hw), List.mem_cons_of_mem _ w_115, tyok_Li, nm_Li, tyok_Li 2 (by decide), Or.inl rfl⟩
set_option maxRecDepth 100000 in
theorem s_B_drain_2 : zCV m_B_drain 2 m_B_coreAt 1 := ⟨38, zT, d_B_drain_2, zGoodV w_198 w_200 ws_0 w_1 w_201, rfl, ⟨by decide +kernel, by decide +kernel, by decide +kernel⟩, ⟨by decide, by decide⟩⟩
set_option maxRecDepth 100000 in
theorem s_B_drain_7 : zGet m_B_drain 7 0 3 := ⟨98, R_Co, T_Co, 7, d_B_drain_7, rfl, by decide, fun w hw => List.mem_cons_of_mem _ (uws_Co w hw), List.mem_cons_of_mem _ w_131⟩
set_option maxRecDepth 100000 in
theorem s_B_drain_10 : zGet m_B_drain 10 5 2 := ⟨102, R_Sb, T_Sb, 3, d_B_drain_10, rfl, by decide, fun w hw => List.mem_cons_of_mem _ (uws_Sb w hw), List.mem_cons_of_mem _ w_98⟩
set_option maxRecDepth 100000 in
theorem s_B_drain_19 : zGet m_B_drain 19 0 3 := ⟨98, R_Co, T_Co, 7, d_B_drain_19, rfl, by decide, fun w hw => List.mem_cons_of_mem _ (uws_Co w hw), List.mem_cons_of_mem _ w_131⟩
set_option maxRecDepth 100000 in
theorem s_B_drain_22 : zGet m_B_drain 22 5 0 := ⟨107, R_Sb, T_Sb, 3, d_B_drain_22, rfl, by decide, fun w hw => List.mem_cons_of_mem _ (uws_Sb w hw), List.mem_cons_of_mem _ w_94⟩
set_option maxRecDepth 100000 in
theorem s_B_drain_30 : zCV m_B_drain 30 m_Co_lineFor 1 := ⟨110, zT, d_B_drain_30, zGoodV w_328 w_329 w_330 w_3 w_331, rfl, ⟨by decide +kernel, by decide +kernel, by decide +kernel⟩, ⟨by decide, by decide⟩⟩
set_option maxRecDepth 100000 in
theorem s_B_drain_38 : zCV m_B_drain 38 m_Li_owns 1 := ⟨114, zT, d_B_drain_38, zGoodV w_392 w_393 w_394 w_7 w_395, rfl, ⟨by decide +kernel, by decide +kernel, by decide +kernel⟩, ⟨by decide, by decide⟩⟩
set_option maxRecDepth 100000 in
theorem s_B_drain_47 : zCS m_B_drain 47 m_B_ask 3 := ⟨119, zT, d_B_drain_47, zGoodS w_360 w_361 w_1 w_362, Or.inl rfl, ⟨by decide +kernel, by decide +kernel, by decide +kernel⟩, ⟨by decide, by decide⟩⟩
set_option maxRecDepth 100000 in
theorem s_B_drain_52 : zGet m_B_drain 52 0 3 := ⟨98, R_Co, T_Co, 7, d_B_drain_52, rfl, by decide, fun w hw => List.mem_cons_of_mem _ (uws_Co w hw), List.mem_cons_of_mem _ w_131⟩
set_option maxRecDepth 100000 in
theorem s_B_drain_55 : zGet m_B_drain 55 5 1 := ⟨123, R_Sb, T_Sb, 3, d_B_drain_55, rfl, by decide, fun w hw => List.mem_cons_of_mem _ (uws_Sb w hw), List.mem_cons_of_mem _ w_96⟩
set_option maxRecDepth 100000 in
theorem s_B_drain_66 : zCV m_B_drain 66 m_Li_modify 1 := ⟨126, zT, d_B_drain_66, zGoodV w_397 w_398 w_399 w_7 w_400, rfl, ⟨by decide +kernel, by decide +kernel, by decide +kernel⟩, ⟨by decide, by decide⟩⟩
set_option maxRecDepth 100000 in
theorem s_B_drain_70 : zGet m_B_drain 70 0 3 := ⟨98, R_Co, T_Co, 7, d_B_drain_70, rfl, by decide, fun w hw => List.mem_cons_of_mem _ (uws_Co w hw), List.mem_cons_of_mem _ w_131⟩
set_option maxRecDepth 100000 in
theorem s_B_drain_73 : zCV m_B_drain 73 m_Sb_removeOldest 0 := ⟨129, zT, d_B_drain_73, zGoodV w_408 w_409 w_410 w_6 w_411, rfl, ⟨by decide +kernel, by decide +kernel, by decide +kernel⟩, ⟨by decide, by decide⟩⟩
set_option maxRecDepth 100000 in
theorem s_B_drain_77 : zGet m_B_drain 77 6 2 := ⟨34, R_B, T_B, 3, d_B_drain_77, rfl, by decide, fun w hw => List.mem_cons_of_mem _ (uws_B w hw), List.mem_cons_of_mem _ w_173⟩
set_option maxRecDepth 100000 in
theorem s_B_drain_82 : zGet m_B_drain 82 0 0 := ⟨132, R_Co, T_Co, 7, d_B_drain_82, rfl, by decide, fun w hw => List.mem_cons_of_mem _ (uws_Co w hw), List.mem_cons_of_mem _ w_125⟩
set_option maxRecDepth 100000 in
theorem s_B_drain_88 : zCV m_B_drain 88 m_Lo_enter 4 := ⟨135, zT, d_B_drain_88, zGoodV w_367 w_368 w_369 w_8 w_370, rfl, ⟨by decide +kernel, by decide +kernel, by decide +kernel⟩, ⟨by decide, by decide⟩⟩
set_option maxRecDepth 100000 in
theorem s_Sb_removeOldest_2 : zGet m_Sb_removeOldest 2 5 2 := ⟨16, R_Sb, T_Sb, 3, d_Sb_removeOldest_2, rfl, by decide, fun w hw => List.mem_cons_of_mem _ (uws_Sb w hw), List.mem_cons_of_mem _ w_97⟩
set_option maxRecDepth 100000 in
theorem s_Sb_removeOldest_7 : zPut m_Sb_removeOldest 7 5 2 (.int) := ⟨16, R_Sb, T_Sb, 3, ty_Sb, d_Sb_removeOldest_7, rfl, by decide, fun w hw => List.mem_cons_of_mem _ (uws_Sb w hw), List.mem_cons_of_mem _ w_97, tyok_Sb, nm_Sb, tyok_Sb 2 (by decide), Or.inl rfl⟩
set_option maxRecDepth 100000 in
theorem s_Sb_removeOldest_14 : zGet m_Sb_removeOldest 14 5 2 := ⟨16, R_Sb, T_Sb, 3, d_Sb_removeOldest_14, rfl, by decide, fun w hw => List.mem_cons_of_mem _ (uws_Sb w hw), List.mem_cons_of_mem _ w_97⟩
set_option maxRecDepth 100000 in
theorem s_Sb_removeOldest_21 : zGet m_Sb_removeOldest 21 5 0 := ⟨7, R_Sb, T_Sb, 3, d_Sb_removeOldest_21, rfl, by decide, fun w hw => List.mem_cons_of_mem _ (uws_Sb w hw), List.mem_cons_of_mem _ w_93⟩
set_option maxRecDepth 100000 in
theorem s_Sb_removeOldest_26 : zGet m_Sb_removeOldest 26 5 0 := ⟨7, R_Sb, T_Sb, 3, d_Sb_removeOldest_26, rfl, by decide, fun w hw => List.mem_cons_of_mem _ (uws_Sb w hw), List.mem_cons_of_mem _ w_93⟩
set_option maxRecDepth 100000 in
theorem s_Sb_removeOldest_35 : zGet m_Sb_removeOldest 35 5 1 := ⟨13, R_Sb, T_Sb, 3, d_Sb_removeOldest_35, rfl, by decide, fun w hw => List.mem_cons_of_mem _ (uws_Sb w hw), List.mem_cons_of_mem _ w_95⟩
set_option maxRecDepth 100000 in
theorem s_Sb_removeOldest_40 : zGet m_Sb_removeOldest 40 5 1 := ⟨13, R_Sb, T_Sb, 3, d_Sb_removeOldest_40, rfl, by decide, fun w hw => List.mem_cons_of_mem _ (uws_Sb w hw), List.mem_cons_of_mem _ w_95⟩
set_option maxRecDepth 100000 in
theorem s_B_grant_2 : zCV m_B_grant 2 m_B_coreAt 1 := ⟨38, zT, d_B_grant_2, zGoodV w_198 w_200 ws_0 w_1 w_201, rfl, ⟨by decide +kernel, by decide +kernel, by decide +kernel⟩, ⟨by decide, by decide⟩⟩
set_option maxRecDepth 100000 in
theorem s_B_grant_7 : zGet m_B_grant 7 0 5 := ⟨139, R_Co, T_Co, 7, d_B_grant_7, rfl, by decide, fun w hw => List.mem_cons_of_mem _ (uws_Co w hw), List.mem_cons_of_mem _ w_135⟩
set_option maxRecDepth 100000 in
theorem s_B_grant_12 : zGet m_B_grant 12 4 0 := ⟨143, R_Rq, T_Rq, 4, d_B_grant_12, rfl, by decide, fun w hw => List.mem_cons_of_mem _ (uws_Rq w hw), List.mem_cons_of_mem _ w_71⟩
set_option maxRecDepth 100000 in
theorem s_B_grant_19 : zGet m_B_grant 19 4 2 := ⟨148, R_Rq, T_Rq, 4, d_B_grant_19, rfl, by decide, fun w hw => List.mem_cons_of_mem _ (uws_Rq w hw), List.mem_cons_of_mem _ w_75⟩
set_option maxRecDepth 100000 in
theorem s_B_grant_28 : zGet m_B_grant 28 4 1 := ⟨152, R_Rq, T_Rq, 4, d_B_grant_28, rfl, by decide, fun w hw => List.mem_cons_of_mem _ (uws_Rq w hw), List.mem_cons_of_mem _ w_73⟩
set_option maxRecDepth 100000 in
theorem s_B_grant_37 : zCV m_B_grant 37 m_B_isInFlightElsewhere 2 := ⟨155, zT, d_B_grant_37, zGoodV w_419 w_421 ws_6 w_1 w_422, rfl, ⟨by decide +kernel, by decide +kernel, by decide +kernel⟩, ⟨by decide, by decide⟩⟩
set_option maxRecDepth 100000 in
theorem s_B_grant_49 : zCV m_B_grant 49 m_Co_lineFor 1 := ⟨110, zT, d_B_grant_49, zGoodV w_328 w_329 w_330 w_3 w_331, rfl, ⟨by decide +kernel, by decide +kernel, by decide +kernel⟩, ⟨by decide, by decide⟩⟩
set_option maxRecDepth 100000 in
theorem s_B_grant_54 : zCV m_B_grant 54 m_B_makeRoom 2 := ⟨159, zT, d_B_grant_54, zGoodV w_423 w_425 ws_7 w_1 w_426, rfl, ⟨by decide +kernel, by decide +kernel, by decide +kernel⟩, ⟨by decide, by decide⟩⟩
set_option maxRecDepth 100000 in
theorem s_B_grant_60 : zCV m_B_grant 60 m_B_wordAt 1 := ⟨163, zT, d_B_grant_60, zGoodV w_431 w_433 ws_9 w_1 w_434, rfl, ⟨by decide +kernel, by decide +kernel, by decide +kernel⟩, ⟨by decide, by decide⟩⟩
set_option maxRecDepth 100000 in
theorem s_B_grant_75 : zGet m_B_grant 75 6 1 := ⟨24, R_B, T_B, 3, d_B_grant_75, rfl, by decide, fun w hw => List.mem_cons_of_mem _ (uws_B w hw), List.mem_cons_of_mem _ w_172⟩
set_option maxRecDepth 100000 in
theorem s_B_grant_87 : zGet m_B_grant 87 6 1 := ⟨24, R_B, T_B, 3, d_B_grant_87, rfl, by decide, fun w hw => List.mem_cons_of_mem _ (uws_B w hw), List.mem_cons_of_mem _ w_172⟩
set_option maxRecDepth 100000 in
theorem s_B_grant_95 : zCV m_B_grant 95 m_Co_lineFor 1 := ⟨110, zT, d_B_grant_95, zGoodV w_328 w_329 w_330 w_3 w_331, rfl, ⟨by decide +kernel, by decide +kernel, by decide +kernel⟩, ⟨by decide, by decide⟩⟩
set_option maxRecDepth 100000 in
theorem s_B_grant_101 : zGet m_B_grant 101 4 0 := ⟨143, R_Rq, T_Rq, 4, d_B_grant_101, rfl, by decide, fun w hw => List.mem_cons_of_mem _ (uws_Rq w hw), List.mem_cons_of_mem _ w_71⟩
set_option maxRecDepth 100000 in
theorem s_B_grant_104 : zCV m_B_grant 104 m_B_giveWay 3 := ⟨167, zT, d_B_grant_104, zGoodV w_435 w_437 ws_10 w_1 w_438, rfl, ⟨by decide +kernel, by decide +kernel, by decide +kernel⟩, ⟨by decide, by decide⟩⟩
set_option maxRecDepth 100000 in
theorem s_B_grant_116 : zCV m_B_grant 116 m_Rq_takeOff 1 := ⟨171, zT, d_B_grant_116, zGoodV w_439 w_440 w_441 w_5 w_442, rfl, ⟨by decide +kernel, by decide +kernel, by decide +kernel⟩, ⟨by decide, by decide⟩⟩
set_option maxRecDepth 100000 in
theorem s_B_isInFlightElsewhere_8 : zGet m_B_isInFlightElsewhere 8 6 1 := ⟨24, R_B, T_B, 3, d_B_isInFlightElsewhere_8, rfl, by decide, fun w hw => List.mem_cons_of_mem _ (uws_B w hw), List.mem_cons_of_mem _ w_172⟩
set_option maxRecDepth 100000 in
theorem s_B_isInFlightElsewhere_18 : zGet m_B_isInFlightElsewhere 18 6 1 := ⟨24, R_B, T_B, 3, d_B_isInFlightElsewhere_18, rfl, by decide, fun w hw => List.mem_cons_of_mem _ (uws_B w hw), List.mem_cons_of_mem _ w_172⟩
set_option maxRecDepth 100000 in
theorem s_B_isInFlightElsewhere_23 : zGet m_B_isInFlightElsewhere 23 0 5 := ⟨139, R_Co, T_Co, 7, d_B_isInFlightElsewhere_23, rfl, by decide, fun w hw => List.mem_cons_of_mem _ (uws_Co w hw), List.mem_cons_of_mem _ w_135⟩
set_option maxRecDepth 100000 in
theorem s_B_isInFlightElsewhere_27 : zCV m_B_isInFlightElsewhere 27 m_Rq_fliesFor 1 := ⟨266, zT, d_B_isInFlightElsewhere_27, zGoodV w_336 w_337 w_338 w_5 w_339, rfl, ⟨by decide +kernel, by decide +kernel, by decide +kernel⟩, ⟨by decide, by decide⟩⟩
set_option maxRecDepth 100000 in
theorem s_B_makeRoom_2 : zCV m_B_makeRoom 2 m_Li_has 1 := ⟨208, zT, d_B_makeRoom_2, zGoodV w_332 w_333 w_334 w_7 w_335, rfl, ⟨by decide +kernel, by decide +kernel, by decide +kernel⟩, ⟨by decide, by decide⟩⟩
set_option maxRecDepth 100000 in
theorem s_B_makeRoom_10 : zCV m_B_makeRoom 10 m_B_writeBack 1 := ⟨269, zT, d_B_makeRoom_10, zGoodV w_427 w_429 ws_8 w_1 w_430, rfl, ⟨by decide +kernel, by decide +kernel, by decide +kernel⟩, ⟨by decide, by decide⟩⟩
set_option maxRecDepth 100000 in
theorem s_B_makeRoom_15 : zPut m_B_makeRoom 15 1 0 (.int) := ⟨204, R_Li, T_Li, 3, ty_Li, d_B_makeRoom_15, rfl, by decide, fun w hw => List.mem_cons_of_mem _ (uws_Li w hw), List.mem_cons_of_mem _ w_112, tyok_Li, nm_Li, tyok_Li 0 (by decide), Or.inl rfl⟩
set_option maxRecDepth 100000 in
theorem s_B_writeBack_1 : zGet m_B_writeBack 1 1 0 := ⟨204, R_Li, T_Li, 3, d_B_writeBack_1, rfl, by decide, fun w hw => List.mem_cons_of_mem _ (uws_Li w hw), List.mem_cons_of_mem _ w_112⟩
set_option maxRecDepth 100000 in
theorem s_B_writeBack_9 : zGet m_B_writeBack 9 6 0 := ⟨18, R_B, T_B, 3, d_B_writeBack_9, rfl, by decide, fun w hw => List.mem_cons_of_mem _ (uws_B w hw), List.mem_cons_of_mem _ w_171⟩
set_option maxRecDepth 100000 in
theorem s_B_writeBack_13 : zGet m_B_writeBack 13 1 1 := ⟨207, R_Li, T_Li, 3, d_B_writeBack_13, rfl, by decide, fun w hw => List.mem_cons_of_mem _ (uws_Li w hw), List.mem_cons_of_mem _ w_114⟩
set_option maxRecDepth 100000 in
theorem s_B_writeBack_17 : zGet m_B_writeBack 17 1 2 := ⟨216, R_Li, T_Li, 3, d_B_writeBack_17, rfl, by decide, fun w hw => List.mem_cons_of_mem _ (uws_Li w hw), List.mem_cons_of_mem _ w_116⟩
set_option maxRecDepth 100000 in
theorem s_B_wordAt_8 : zGet m_B_wordAt 8 6 1 := ⟨24, R_B, T_B, 3, d_B_wordAt_8, rfl, by decide, fun w hw => List.mem_cons_of_mem _ (uws_B w hw), List.mem_cons_of_mem _ w_172⟩
set_option maxRecDepth 100000 in
theorem s_B_wordAt_14 : zCV m_B_wordAt 14 m_Co_lineFor 1 := ⟨110, zT, d_B_wordAt_14, zGoodV w_328 w_329 w_330 w_3 w_331, rfl, ⟨by decide +kernel, by decide +kernel, by decide +kernel⟩, ⟨by decide, by decide⟩⟩
set_option maxRecDepth 100000 in
theorem s_B_wordAt_20 : zCV m_B_wordAt 20 m_Li_has 1 := ⟨208, zT, d_B_wordAt_20, zGoodV w_332 w_333 w_334 w_7 w_335, rfl, ⟨by decide +kernel, by decide +kernel, by decide +kernel⟩, ⟨by decide, by decide⟩⟩
set_option maxRecDepth 100000 in
theorem s_B_wordAt_27 : zGet m_B_wordAt 27 1 0 := ⟨204, R_Li, T_Li, 3, d_B_wordAt_27, rfl, by decide, fun w hw => List.mem_cons_of_mem _ (uws_Li w hw), List.mem_cons_of_mem _ w_112⟩
set_option maxRecDepth 100000 in
theorem s_B_wordAt_35 : zGet m_B_wordAt 35 1 2 := ⟨216, R_Li, T_Li, 3, d_B_wordAt_35, rfl, by decide, fun w hw => List.mem_cons_of_mem _ (uws_Li w hw), List.mem_cons_of_mem _ w_116⟩
set_option maxRecDepth 100000 in
theorem s_B_wordAt_46 : zGet m_B_wordAt 46 6 0 := ⟨18, R_B, T_B, 3, d_B_wordAt_46, rfl, by decide, fun w hw => List.mem_cons_of_mem _ (uws_B w hw), List.mem_cons_of_mem _ w_171⟩
set_option maxRecDepth 100000 in
theorem s_B_giveWay_2 : zCV m_B_giveWay 2 m_Li_has 1 := ⟨208, zT, d_B_giveWay_2, zGoodV w_332 w_333 w_334 w_7 w_335, rfl, ⟨by decide +kernel, by decide +kernel, by decide +kernel⟩, ⟨by decide, by decide⟩⟩
set_option maxRecDepth 100000 in
theorem s_B_giveWay_10 : zCV m_B_giveWay 10 m_B_writeBack 1 := ⟨269, zT, d_B_giveWay_10, zGoodV w_427 w_429 ws_8 w_1 w_430, rfl, ⟨by decide +kernel, by decide +kernel, by decide +kernel⟩, ⟨by decide, by decide⟩⟩
set_option maxRecDepth 100000 in
theorem s_B_giveWay_24 : zPut m_B_giveWay 24 1 0 (.int) := ⟨204, R_Li, T_Li, 3, ty_Li, d_B_giveWay_24, rfl, by decide, fun w hw => List.mem_cons_of_mem _ (uws_Li w hw), List.mem_cons_of_mem _ w_112, tyok_Li, nm_Li, tyok_Li 0 (by decide), Or.inl rfl⟩
set_option maxRecDepth 100000 in
theorem s_Rq_takeOff_2 : zPut m_Rq_takeOff 2 4 2 (.boolean) := ⟨9, R_Rq, T_Rq, 4, ty_Rq, d_Rq_takeOff_2, rfl, by decide, fun w hw => List.mem_cons_of_mem _ (uws_Rq w hw), List.mem_cons_of_mem _ w_74, tyok_Rq, nm_Rq, tyok_Rq 2 (by decide), Or.inl rfl⟩
set_option maxRecDepth 100000 in
theorem s_Rq_takeOff_7 : zPut m_Rq_takeOff 7 4 3 (.int) := ⟨22, R_Rq, T_Rq, 4, ty_Rq, d_Rq_takeOff_7, rfl, by decide, fun w hw => List.mem_cons_of_mem _ (uws_Rq w hw), List.mem_cons_of_mem _ w_76, tyok_Rq, nm_Rq, tyok_Rq 3 (by decide), Or.inl rfl⟩
set_option maxRecDepth 100000 in
theorem s_B_fill_2 : zCV m_B_fill 2 m_B_coreAt 1 := ⟨38, zT, d_B_fill_2, zGoodV w_198 w_200 ws_0 w_1 w_201, rfl, ⟨by decide +kernel, by decide +kernel, by decide +kernel⟩, ⟨by decide, by decide⟩⟩
set_option maxRecDepth 100000 in
theorem s_B_fill_7 : zGet m_B_fill 7 0 5 := ⟨139, R_Co, T_Co, 7, d_B_fill_7, rfl, by decide, fun w hw => List.mem_cons_of_mem _ (uws_Co w hw), List.mem_cons_of_mem _ w_135⟩
set_option maxRecDepth 100000 in
theorem s_B_fill_12 : zGet m_B_fill 12 4 2 := ⟨148, R_Rq, T_Rq, 4, d_B_fill_12, rfl, by decide, fun w hw => List.mem_cons_of_mem _ (uws_Rq w hw), List.mem_cons_of_mem _ w_75⟩
set_option maxRecDepth 100000 in
theorem s_B_fill_21 : zGet m_B_fill 21 4 1 := ⟨152, R_Rq, T_Rq, 4, d_B_fill_21, rfl, by decide, fun w hw => List.mem_cons_of_mem _ (uws_Rq w hw), List.mem_cons_of_mem _ w_73⟩
set_option maxRecDepth 100000 in
theorem s_B_fill_27 : zGet m_B_fill 27 4 0 := ⟨143, R_Rq, T_Rq, 4, d_B_fill_27, rfl, by decide, fun w hw => List.mem_cons_of_mem _ (uws_Rq w hw), List.mem_cons_of_mem _ w_71⟩
set_option maxRecDepth 100000 in
theorem s_B_fill_38 : zCV m_B_fill 38 m_B_isHeldElsewhere 2 := ⟨174, zT, d_B_fill_38, zGoodV w_450 w_452 ws_11 w_1 w_453, rfl, ⟨by decide +kernel, by decide +kernel, by decide +kernel⟩, ⟨by decide, by decide⟩⟩
set_option maxRecDepth 100000 in
theorem s_B_fill_54 : zCV m_B_fill 54 m_Co_lineFor 1 := ⟨110, zT, d_B_fill_54, zGoodV w_328 w_329 w_330 w_3 w_331, rfl, ⟨by decide +kernel, by decide +kernel, by decide +kernel⟩, ⟨by decide, by decide⟩⟩
set_option maxRecDepth 100000 in
theorem s_B_fill_70 : zGet m_B_fill 70 4 3 := ⟨177, R_Rq, T_Rq, 4, d_B_fill_70, rfl, by decide, fun w hw => List.mem_cons_of_mem _ (uws_Rq w hw), List.mem_cons_of_mem _ w_77⟩
set_option maxRecDepth 100000 in
theorem s_B_fill_73 : zCV m_B_fill 73 m_Li_take 3 := ⟨180, zT, d_B_fill_73, zGoodV w_454 w_455 w_456 w_7 w_457, rfl, ⟨by decide +kernel, by decide +kernel, by decide +kernel⟩, ⟨by decide, by decide⟩⟩
set_option maxRecDepth 100000 in
theorem s_B_fill_77 : zCV m_B_fill 77 m_Rq_forget 0 := ⟨183, zT, d_B_fill_77, zGoodV w_458 w_459 w_460 w_5 w_461, rfl, ⟨by decide +kernel, by decide +kernel, by decide +kernel⟩, ⟨by decide, by decide⟩⟩
set_option maxRecDepth 100000 in
theorem s_B_isHeldElsewhere_8 : zGet m_B_isHeldElsewhere 8 6 1 := ⟨24, R_B, T_B, 3, d_B_isHeldElsewhere_8, rfl, by decide, fun w hw => List.mem_cons_of_mem _ (uws_B w hw), List.mem_cons_of_mem _ w_172⟩
set_option maxRecDepth 100000 in
theorem s_B_isHeldElsewhere_18 : zGet m_B_isHeldElsewhere 18 6 1 := ⟨24, R_B, T_B, 3, d_B_isHeldElsewhere_18, rfl, by decide, fun w hw => List.mem_cons_of_mem _ (uws_B w hw), List.mem_cons_of_mem _ w_172⟩
set_option maxRecDepth 100000 in
theorem s_B_isHeldElsewhere_24 : zCV m_B_isHeldElsewhere 24 m_Co_lineFor 1 := ⟨110, zT, d_B_isHeldElsewhere_24, zGoodV w_328 w_329 w_330 w_3 w_331, rfl, ⟨by decide +kernel, by decide +kernel, by decide +kernel⟩, ⟨by decide, by decide⟩⟩
set_option maxRecDepth 100000 in
theorem s_B_isHeldElsewhere_28 : zCV m_B_isHeldElsewhere 28 m_Li_has 1 := ⟨208, zT, d_B_isHeldElsewhere_28, zGoodV w_332 w_333 w_334 w_7 w_335, rfl, ⟨by decide +kernel, by decide +kernel, by decide +kernel⟩, ⟨by decide, by decide⟩⟩
set_option maxRecDepth 100000 in
theorem s_Li_take_2 : zPut m_Li_take 2 1 0 (.int) := ⟨9, R_Li, T_Li, 3, ty_Li, d_Li_take_2, rfl, by decide, fun w hw => List.mem_cons_of_mem _ (uws_Li w hw), List.mem_cons_of_mem _ w_111, tyok_Li, nm_Li, tyok_Li 0 (by decide), Or.inl rfl⟩
set_option maxRecDepth 100000 in
theorem s_Li_take_7 : zPut m_Li_take 7 1 1 (.int) := ⟨15, R_Li, T_Li, 3, ty_Li, d_Li_take_7, rfl, by decide, fun w hw => List.mem_cons_of_mem _ (uws_Li w hw), List.mem_cons_of_mem _ w_113, tyok_Li, nm_Li, tyok_Li 1 (by decide), Or.inl rfl⟩
set_option maxRecDepth 100000 in
theorem s_Li_take_12 : zPut m_Li_take 12 1 2 (.int) := ⟨22, R_Li, T_Li, 3, ty_Li, d_Li_take_12, rfl, by decide, fun w hw => List.mem_cons_of_mem _ (uws_Li w hw), List.mem_cons_of_mem _ w_115, tyok_Li, nm_Li, tyok_Li 2 (by decide), Or.inl rfl⟩
set_option maxRecDepth 100000 in
theorem s_Rq_forget_2 : zPut m_Rq_forget 2 4 0 (.int) := ⟨19, R_Rq, T_Rq, 4, ty_Rq, d_Rq_forget_2, rfl, by decide, fun w hw => List.mem_cons_of_mem _ (uws_Rq w hw), List.mem_cons_of_mem _ w_70, tyok_Rq, nm_Rq, tyok_Rq 0 (by decide), Or.inl rfl⟩
set_option maxRecDepth 100000 in
theorem s_Rq_forget_7 : zPut m_Rq_forget 7 4 2 (.boolean) := ⟨9, R_Rq, T_Rq, 4, ty_Rq, d_Rq_forget_7, rfl, by decide, fun w hw => List.mem_cons_of_mem _ (uws_Rq w hw), List.mem_cons_of_mem _ w_74, tyok_Rq, nm_Rq, tyok_Rq 2 (by decide), Or.inl rfl⟩
set_option maxRecDepth 100000 in
theorem s_B_register_2 : zCV m_B_register 2 m_B_coreAt 1 := ⟨38, zT, d_B_register_2, zGoodV w_198 w_200 ws_0 w_1 w_201, rfl, ⟨by decide +kernel, by decide +kernel, by decide +kernel⟩, ⟨by decide, by decide⟩⟩
set_option maxRecDepth 100000 in
theorem s_B_register_7 : zCS m_B_register 7 m_B_isRegister 1 := ⟨186, zT, d_B_register_7, zGoodS w_274 w_275 w_1 w_276, Or.inl rfl, ⟨by decide +kernel, by decide +kernel, by decide +kernel⟩, ⟨by decide, by decide⟩⟩
set_option maxRecDepth 100000 in
theorem s_B_register_13 : zThr m_B_register 13 "java/lang/IllegalArgumentException" := ⟨50, 189, 54, 5, "no such register", d_B_register_13, d_B_register_16, d_B_register_17, d_B_register_19, d_B_register_22, rfl, by decide +kernel, List.mem_cons_of_mem _ w_277, List.mem_cons_of_mem _ w_14, fun w hw => List.mem_cons_of_mem _ (zT.at ((by decide +kernel : ∀ w ∈ (vx_atS "BufferedCores" 54 "java/lang/IllegalArgumentException" ["java/lang/RuntimeException", "java/lang/Exception"]).filter goodWord, w ∈ lw_tbl) w hw) (List.mem_filter.mp hw).2), by decide +kernel, by decide +kernel, rfl, by decide⟩
set_option maxRecDepth 100000 in
theorem s_B_register_24 : zGet m_B_register 24 0 1 := ⟨191, R_Co, T_Co, 7, d_B_register_24, rfl, by decide, fun w hw => List.mem_cons_of_mem _ (uws_Co w hw), List.mem_cons_of_mem _ w_127⟩
set_option maxRecDepth 100000 in
theorem s_B_place_2 : zCV m_B_place 2 m_B_coreAt 1 := ⟨38, zT, d_B_place_2, zGoodV w_198 w_200 ws_0 w_1 w_201, rfl, ⟨by decide +kernel, by decide +kernel, by decide +kernel⟩, ⟨by decide, by decide⟩⟩
set_option maxRecDepth 100000 in
theorem s_B_place_5 : zGet m_B_place 5 0 6 := ⟨82, R_Co, T_Co, 7, d_B_place_5, rfl, by decide, fun w hw => List.mem_cons_of_mem _ (uws_Co w hw), List.mem_cons_of_mem _ w_136⟩
set_option maxRecDepth 100000 in
theorem s_B_buffered_2 : zCV m_B_buffered 2 m_B_coreAt 1 := ⟨38, zT, d_B_buffered_2, zGoodV w_198 w_200 ws_0 w_1 w_201, rfl, ⟨by decide +kernel, by decide +kernel, by decide +kernel⟩, ⟨by decide, by decide⟩⟩
set_option maxRecDepth 100000 in
theorem s_B_buffered_5 : zGet m_B_buffered 5 0 3 := ⟨98, R_Co, T_Co, 7, d_B_buffered_5, rfl, by decide, fun w hw => List.mem_cons_of_mem _ (uws_Co w hw), List.mem_cons_of_mem _ w_131⟩
set_option maxRecDepth 100000 in
theorem s_B_buffered_8 : zGet m_B_buffered 8 5 2 := ⟨102, R_Sb, T_Sb, 3, d_B_buffered_8, rfl, by decide, fun w hw => List.mem_cons_of_mem _ (uws_Sb w hw), List.mem_cons_of_mem _ w_98⟩
set_option maxRecDepth 100000 in
theorem s_B_storeAddress_2 : zCV m_B_storeAddress 2 m_B_coreAt 1 := ⟨38, zT, d_B_storeAddress_2, zGoodV w_198 w_200 ws_0 w_1 w_201, rfl, ⟨by decide +kernel, by decide +kernel, by decide +kernel⟩, ⟨by decide, by decide⟩⟩
set_option maxRecDepth 100000 in
theorem s_B_storeAddress_5 : zGet m_B_storeAddress 5 0 3 := ⟨98, R_Co, T_Co, 7, d_B_storeAddress_5, rfl, by decide, fun w hw => List.mem_cons_of_mem _ (uws_Co w hw), List.mem_cons_of_mem _ w_131⟩
set_option maxRecDepth 100000 in
theorem s_B_storeAddress_11 : zCS m_B_storeAddress 11 m_B_requireStore 2 := ⟨194, zT, d_B_storeAddress_11, zGoodS w_492 w_493 w_1 w_494, Or.inl rfl, ⟨by decide +kernel, by decide +kernel, by decide +kernel⟩, ⟨by decide, by decide⟩⟩
set_option maxRecDepth 100000 in
theorem s_B_storeAddress_15 : zGet m_B_storeAddress 15 5 0 := ⟨107, R_Sb, T_Sb, 3, d_B_storeAddress_15, rfl, by decide, fun w hw => List.mem_cons_of_mem _ (uws_Sb w hw), List.mem_cons_of_mem _ w_94⟩
set_option maxRecDepth 100000 in
theorem s_B_requireStore_6 : zGet m_B_requireStore 6 5 2 := ⟨102, R_Sb, T_Sb, 3, d_B_requireStore_6, rfl, by decide, fun w hw => List.mem_cons_of_mem _ (uws_Sb w hw), List.mem_cons_of_mem _ w_98⟩
set_option maxRecDepth 100000 in
theorem s_B_storeValue_2 : zCV m_B_storeValue 2 m_B_coreAt 1 := ⟨38, zT, d_B_storeValue_2, zGoodV w_198 w_200 ws_0 w_1 w_201, rfl, ⟨by decide +kernel, by decide +kernel, by decide +kernel⟩, ⟨by decide, by decide⟩⟩
set_option maxRecDepth 100000 in
theorem s_B_storeValue_5 : zGet m_B_storeValue 5 0 3 := ⟨98, R_Co, T_Co, 7, d_B_storeValue_5, rfl, by decide, fun w hw => List.mem_cons_of_mem _ (uws_Co w hw), List.mem_cons_of_mem _ w_131⟩
set_option maxRecDepth 100000 in
theorem s_B_storeValue_11 : zCS m_B_storeValue 11 m_B_requireStore 2 := ⟨194, zT, d_B_storeValue_11, zGoodS w_492 w_493 w_1 w_494, Or.inl rfl, ⟨by decide +kernel, by decide +kernel, by decide +kernel⟩, ⟨by decide, by decide⟩⟩
set_option maxRecDepth 100000 in
theorem s_B_storeValue_15 : zGet m_B_storeValue 15 5 1 := ⟨123, R_Sb, T_Sb, 3, d_B_storeValue_15, rfl, by decide, fun w hw => List.mem_cons_of_mem _ (uws_Sb w hw), List.mem_cons_of_mem _ w_96⟩
set_option maxRecDepth 100000 in
theorem s_B_line_2 : zCV m_B_line 2 m_B_coreAt 1 := ⟨38, zT, d_B_line_2, zGoodV w_198 w_200 ws_0 w_1 w_201, rfl, ⟨by decide +kernel, by decide +kernel, by decide +kernel⟩, ⟨by decide, by decide⟩⟩
set_option maxRecDepth 100000 in
theorem s_B_line_15 : zThr m_B_line 15 "java/lang/IllegalArgumentException" := ⟨50, 198, 54, 7, "no such line", d_B_line_15, d_B_line_18, d_B_line_19, d_B_line_21, d_B_line_24, rfl, by decide +kernel, List.mem_cons_of_mem _ w_277, List.mem_cons_of_mem _ w_14, fun w hw => List.mem_cons_of_mem _ (zT.at ((by decide +kernel : ∀ w ∈ (vx_atS "BufferedCores" 54 "java/lang/IllegalArgumentException" ["java/lang/RuntimeException", "java/lang/Exception"]).filter goodWord, w ∈ lw_tbl) w hw) (List.mem_filter.mp hw).2), by decide +kernel, by decide +kernel, rfl, by decide⟩
set_option maxRecDepth 100000 in
theorem s_B_line_26 : zGet m_B_line 26 0 4 := ⟨200, R_Co, T_Co, 7, d_B_line_26, rfl, by decide, fun w hw => List.mem_cons_of_mem _ (uws_Co w hw), List.mem_cons_of_mem _ w_133⟩
set_option maxRecDepth 100000 in
theorem s_B_line_35 : zGet m_B_line 35 1 0 := ⟨204, R_Li, T_Li, 3, d_B_line_35, rfl, by decide, fun w hw => List.mem_cons_of_mem _ (uws_Li w hw), List.mem_cons_of_mem _ w_112⟩
set_option maxRecDepth 100000 in
theorem s_B_line_47 : zGet m_B_line 47 1 0 := ⟨204, R_Li, T_Li, 3, d_B_line_47, rfl, by decide, fun w hw => List.mem_cons_of_mem _ (uws_Li w hw), List.mem_cons_of_mem _ w_112⟩
set_option maxRecDepth 100000 in
theorem s_B_line_53 : zGet m_B_line 53 1 1 := ⟨207, R_Li, T_Li, 3, d_B_line_53, rfl, by decide, fun w hw => List.mem_cons_of_mem _ (uws_Li w hw), List.mem_cons_of_mem _ w_114⟩
set_option maxRecDepth 100000 in
theorem s_B_cached_2 : zCV m_B_cached 2 m_B_coreAt 1 := ⟨38, zT, d_B_cached_2, zGoodV w_198 w_200 ws_0 w_1 w_201, rfl, ⟨by decide +kernel, by decide +kernel, by decide +kernel⟩, ⟨by decide, by decide⟩⟩
set_option maxRecDepth 100000 in
theorem s_B_cached_7 : zCS m_B_cached 7 m_B_requireAddress 1 := ⟨72, zT, d_B_cached_7, zGoodS w_320 w_321 w_1 w_322, Or.inl rfl, ⟨by decide +kernel, by decide +kernel, by decide +kernel⟩, ⟨by decide, by decide⟩⟩
set_option maxRecDepth 100000 in
theorem s_B_cached_12 : zCV m_B_cached 12 m_Co_lineFor 1 := ⟨110, zT, d_B_cached_12, zGoodV w_328 w_329 w_330 w_3 w_331, rfl, ⟨by decide +kernel, by decide +kernel, by decide +kernel⟩, ⟨by decide, by decide⟩⟩
set_option maxRecDepth 100000 in
theorem s_B_cached_20 : zCV m_B_cached 20 m_Li_has 1 := ⟨208, zT, d_B_cached_20, zGoodV w_332 w_333 w_334 w_7 w_335, rfl, ⟨by decide +kernel, by decide +kernel, by decide +kernel⟩, ⟨by decide, by decide⟩⟩
set_option maxRecDepth 100000 in
theorem s_B_cached_38 : zGet m_B_cached 38 1 2 := ⟨216, R_Li, T_Li, 3, d_B_cached_38, rfl, by decide, fun w hw => List.mem_cons_of_mem _ (uws_Li w hw), List.mem_cons_of_mem _ w_116⟩
set_option maxRecDepth 100000 in
theorem s_B_request_2 : zCV m_B_request 2 m_B_coreAt 1 := ⟨38, zT, d_B_request_2, zGoodV w_198 w_200 ws_0 w_1 w_201, rfl, ⟨by decide +kernel, by decide +kernel, by decide +kernel⟩, ⟨by decide, by decide⟩⟩
set_option maxRecDepth 100000 in
theorem s_B_request_5 : zGet m_B_request 5 0 5 := ⟨139, R_Co, T_Co, 7, d_B_request_5, rfl, by decide, fun w hw => List.mem_cons_of_mem _ (uws_Co w hw), List.mem_cons_of_mem _ w_135⟩
set_option maxRecDepth 100000 in
theorem s_B_request_10 : zGet m_B_request 10 4 0 := ⟨143, R_Rq, T_Rq, 4, d_B_request_10, rfl, by decide, fun w hw => List.mem_cons_of_mem _ (uws_Rq w hw), List.mem_cons_of_mem _ w_71⟩
set_option maxRecDepth 100000 in
theorem s_B_request_19 : zGet m_B_request 19 4 0 := ⟨143, R_Rq, T_Rq, 4, d_B_request_19, rfl, by decide, fun w hw => List.mem_cons_of_mem _ (uws_Rq w hw), List.mem_cons_of_mem _ w_71⟩
set_option maxRecDepth 100000 in
theorem s_B_request_23 : zGet m_B_request 23 4 2 := ⟨148, R_Rq, T_Rq, 4, d_B_request_23, rfl, by decide, fun w hw => List.mem_cons_of_mem _ (uws_Rq w hw), List.mem_cons_of_mem _ w_75⟩
set_option maxRecDepth 100000 in
theorem s_B_request_38 : zGet m_B_request 38 4 1 := ⟨152, R_Rq, T_Rq, 4, d_B_request_38, rfl, by decide, fun w hw => List.mem_cons_of_mem _ (uws_Rq w hw), List.mem_cons_of_mem _ w_73⟩
set_option maxRecDepth 100000 in
theorem s_B_memory_1 : zCS m_B_memory 1 m_B_requireAddress 1 := ⟨72, zT, d_B_memory_1, zGoodS w_320 w_321 w_1 w_322, Or.inl rfl, ⟨by decide +kernel, by decide +kernel, by decide +kernel⟩, ⟨by decide, by decide⟩⟩
set_option maxRecDepth 100000 in
theorem s_B_memory_5 : zGet m_B_memory 5 6 0 := ⟨18, R_B, T_B, 3, d_B_memory_5, rfl, by decide, fun w hw => List.mem_cons_of_mem _ (uws_B w hw), List.mem_cons_of_mem _ w_171⟩
set_option maxRecDepth 100000 in
theorem s_B_word_1 : zCS m_B_word 1 m_B_requireAddress 1 := ⟨72, zT, d_B_word_1, zGoodS w_320 w_321 w_1 w_322, Or.inl rfl, ⟨by decide +kernel, by decide +kernel, by decide +kernel⟩, ⟨by decide, by decide⟩⟩
set_option maxRecDepth 100000 in
theorem s_B_word_6 : zCV m_B_word 6 m_B_wordAt 1 := ⟨163, zT, d_B_word_6, zGoodV w_431 w_433 ws_9 w_1 w_434, rfl, ⟨by decide +kernel, by decide +kernel, by decide +kernel⟩, ⟨by decide, by decide⟩⟩
set_option maxRecDepth 100000 in
theorem s_B_event_2 : zCV m_B_event 2 m_B_requireEvent 1 := ⟨220, zT, d_B_event_2, zGoodV w_562 w_564 ws_12 w_1 w_565, rfl, ⟨by decide +kernel, by decide +kernel, by decide +kernel⟩, ⟨by decide, by decide⟩⟩
set_option maxRecDepth 100000 in
theorem s_B_event_6 : zGet m_B_event 6 6 2 := ⟨34, R_B, T_B, 3, d_B_event_6, rfl, by decide, fun w hw => List.mem_cons_of_mem _ (uws_B w hw), List.mem_cons_of_mem _ w_173⟩
set_option maxRecDepth 100000 in
theorem s_B_event_9 : zGet m_B_event 9 2 0 := ⟨223, R_Lo, T_Lo, 3, d_B_event_9, rfl, by decide, fun w hw => List.mem_cons_of_mem _ (uws_Lo w hw), List.mem_cons_of_mem _ w_159⟩
set_option maxRecDepth 100000 in
theorem s_B_requireEvent_1 : zGet m_B_requireEvent 1 6 2 := ⟨34, R_B, T_B, 3, d_B_requireEvent_1, rfl, by decide, fun w hw => List.mem_cons_of_mem _ (uws_B w hw), List.mem_cons_of_mem _ w_173⟩
set_option maxRecDepth 100000 in
theorem s_B_requireEvent_5 : zCV m_B_requireEvent 5 m_Lo_keeps 1 := ⟨236, zT, d_B_requireEvent_5, zGoodV w_566 w_567 w_568 w_8 w_569, rfl, ⟨by decide +kernel, by decide +kernel, by decide +kernel⟩, ⟨by decide, by decide⟩⟩
set_option maxRecDepth 100000 in
theorem s_Lo_keeps_6 : zGet m_Lo_keeps 6 2 2 := ⟨18, R_Lo, T_Lo, 3, d_Lo_keeps_6, rfl, by decide, fun w hw => List.mem_cons_of_mem _ (uws_Lo w hw), List.mem_cons_of_mem _ w_162⟩
set_option maxRecDepth 100000 in
theorem s_Lo_keeps_14 : zGet m_Lo_keeps 14 2 2 := ⟨18, R_Lo, T_Lo, 3, d_Lo_keeps_14, rfl, by decide, fun w hw => List.mem_cons_of_mem _ (uws_Lo w hw), List.mem_cons_of_mem _ w_162⟩
set_option maxRecDepth 100000 in
theorem s_B_eventValue_2 : zCV m_B_eventValue 2 m_B_requireEvent 1 := ⟨220, zT, d_B_eventValue_2, zGoodV w_562 w_564 ws_12 w_1 w_565, rfl, ⟨by decide +kernel, by decide +kernel, by decide +kernel⟩, ⟨by decide, by decide⟩⟩
set_option maxRecDepth 100000 in
theorem s_B_eventValue_6 : zGet m_B_eventValue 6 6 2 := ⟨34, R_B, T_B, 3, d_B_eventValue_6, rfl, by decide, fun w hw => List.mem_cons_of_mem _ (uws_B w hw), List.mem_cons_of_mem _ w_173⟩
set_option maxRecDepth 100000 in
theorem s_B_eventValue_9 : zGet m_B_eventValue 9 2 1 := ⟨226, R_Lo, T_Lo, 3, d_B_eventValue_9, rfl, by decide, fun w hw => List.mem_cons_of_mem _ (uws_Lo w hw), List.mem_cons_of_mem _ w_161⟩
