def m_M_init : zMI := (⟨"BufferedCoresModel", "<init>", "(I)V"⟩, prog_9_method_1_code, 2, none, Cond.code ⟨"BufferedCoresModel", "<init>", "(I)V"⟩ prog_9_method_1_code 2 none :: zT, { frames := 1, cells := 19, slots := 307, locals := 20 }, [])
def m_M_thrown : zMI := (⟨"BufferedCoresModel", "thrown", "()I"⟩, prog_9_method_2_code, 1, (some .int), Cond.code ⟨"BufferedCoresModel", "thrown", "()I"⟩ prog_9_method_2_code 1 (some .int) :: zT, { frames := 0, cells := 0, slots := 0, locals := 0 }, [])
def m_M_code : zMI := (⟨"BufferedCoresModel", "code", "(IIII)I"⟩, prog_9_method_5_code, 8, (some .int), Cond.code ⟨"BufferedCoresModel", "code", "(IIII)I"⟩ prog_9_method_5_code 8 (some .int) :: zT, { frames := 1, cells := 0, slots := 0, locals := 21 }, [])
def m_M_core : zMI := (⟨"BufferedCoresModel", "core", "(I)Z"⟩, prog_9_method_4_code, 2, (some .boolean), Cond.code ⟨"BufferedCoresModel", "core", "(I)Z"⟩ prog_9_method_4_code 2 (some .boolean) :: zT, { frames := 0, cells := 0, slots := 0, locals := 0 }, [])
def m_M_isRegister : zMI := (⟨"BufferedCoresModel", "isRegister", "(I)Z"⟩, prog_9_method_3_code, 1, (some .boolean), Cond.code ⟨"BufferedCoresModel", "isRegister", "(I)Z"⟩ prog_9_method_3_code 1 (some .boolean) :: zT, { frames := 0, cells := 0, slots := 0, locals := 0 }, [])
def m_M_poke : zMI := (⟨"BufferedCoresModel", "poke", "(II)V"⟩, prog_9_method_10_code, 5, none, Cond.code ⟨"BufferedCoresModel", "poke", "(II)V"⟩ prog_9_method_10_code 5 none :: zT, { frames := 2, cells := 0, slots := 0, locals := 45 }, [])
def m_M_has : zMI := (⟨"BufferedCoresModel", "has", "(II)Z"⟩, prog_9_method_7_code, 4, (some .boolean), Cond.code ⟨"BufferedCoresModel", "has", "(II)Z"⟩ prog_9_method_7_code 4 (some .boolean) :: zT, { frames := 1, cells := 0, slots := 0, locals := 22 }, [])
def m_M_lineOf : zMI := (⟨"BufferedCoresModel", "lineOf", "(II)I"⟩, prog_9_method_6_code, 3, (some .int), Cond.code ⟨"BufferedCoresModel", "lineOf", "(II)I"⟩ prog_9_method_6_code 3 (some .int) :: zT, { frames := 0, cells := 0, slots := 0, locals := 0 }, [])
def m_M_step : zMI := (⟨"BufferedCoresModel", "step", "(I)I"⟩, prog_9_method_18_code, 5, (some .int), Cond.code ⟨"BufferedCoresModel", "step", "(I)I"⟩ prog_9_method_18_code 5 (some .int) :: zT, { frames := 5, cells := 0, slots := 0, locals := 118 }, [])
def m_M_act : zMI := (⟨"BufferedCoresModel", "act", "(IIII)I"⟩, prog_9_method_17_code, 5, (some .int), Cond.code ⟨"BufferedCoresModel", "act", "(IIII)I"⟩ prog_9_method_17_code 5 (some .int) :: zT, { frames := 4, cells := 0, slots := 0, locals := 94 }, [])
def m_M_load : zMI := (⟨"BufferedCoresModel", "load", "(III)I"⟩, prog_9_method_14_code, 7, (some .int), Cond.code ⟨"BufferedCoresModel", "load", "(III)I"⟩ prog_9_method_14_code 7 (some .int) :: zT, { frames := 2, cells := 0, slots := 0, locals := 45 }, [])
def m_M_ask : zMI := (⟨"BufferedCoresModel", "ask", "(IIZ)V"⟩, prog_9_method_11_code, 4, none, Cond.code ⟨"BufferedCoresModel", "ask", "(IIZ)V"⟩ prog_9_method_11_code 4 none :: zT, { frames := 0, cells := 0, slots := 0, locals := 0 }, [])
def m_M_note : zMI := (⟨"BufferedCoresModel", "note", "(IIII)V"⟩, prog_9_method_12_code, 5, none, Cond.code ⟨"BufferedCoresModel", "note", "(IIII)V"⟩ prog_9_method_12_code 5 none :: zT, { frames := 0, cells := 0, slots := 0, locals := 0 }, [])
def m_M_store : zMI := (⟨"BufferedCoresModel", "store", "(III)I"⟩, prog_9_method_15_code, 4, (some .int), Cond.code ⟨"BufferedCoresModel", "store", "(III)I"⟩ prog_9_method_15_code 4 (some .int) :: zT, { frames := 0, cells := 0, slots := 0, locals := 0 }, [])
def m_M_swap : zMI := (⟨"BufferedCoresModel", "swap", "(III)I"⟩, prog_9_method_16_code, 8, (some .int), Cond.code ⟨"BufferedCoresModel", "swap", "(III)I"⟩ prog_9_method_16_code 8 (some .int) :: zT, { frames := 3, cells := 0, slots := 0, locals := 67 }, [])
def m_M_owns : zMI := (⟨"BufferedCoresModel", "owns", "(II)Z"⟩, prog_9_method_8_code, 3, (some .boolean), Cond.code ⟨"BufferedCoresModel", "owns", "(II)Z"⟩ prog_9_method_8_code 3 (some .boolean) :: zT, { frames := 2, cells := 0, slots := 0, locals := 45 }, [])
def m_M_drain : zMI := (⟨"BufferedCoresModel", "drain", "(I)I"⟩, prog_9_method_19_code, 6, (some .int), Cond.code ⟨"BufferedCoresModel", "drain", "(I)I"⟩ prog_9_method_19_code 6 (some .int) :: zT, { frames := 3, cells := 0, slots := 0, locals := 67 }, [])
def m_M_grant : zMI := (⟨"BufferedCoresModel", "grant", "(I)I"⟩, prog_9_method_20_code, 5, (some .int), Cond.code ⟨"BufferedCoresModel", "grant", "(I)I"⟩ prog_9_method_20_code 5 (some .int) :: zT, { frames := 3, cells := 0, slots := 0, locals := 68 }, [])
def m_M_writeBack : zMI := (⟨"BufferedCoresModel", "writeBack", "(I)V"⟩, prog_9_method_13_code, 2, none, Cond.code ⟨"BufferedCoresModel", "writeBack", "(I)V"⟩ prog_9_method_13_code 2 none :: zT, { frames := 0, cells := 0, slots := 0, locals := 0 }, [])
def m_M_wordAt : zMI := (⟨"BufferedCoresModel", "wordAt", "(I)I"⟩, prog_9_method_9_code, 4, (some .int), Cond.code ⟨"BufferedCoresModel", "wordAt", "(I)I"⟩ prog_9_method_9_code 4 (some .int) :: zT, { frames := 2, cells := 0, slots := 0, locals := 45 }, [])
def m_M_fill : zMI := (⟨"BufferedCoresModel", "fill", "(I)I"⟩, prog_9_method_21_code, 5, (some .int), Cond.code ⟨"BufferedCoresModel", "fill", "(I)I"⟩ prog_9_method_21_code 5 (some .int) :: zT, { frames := 2, cells := 0, slots := 0, locals := 45 }, [])
def m_M_register : zMI := (⟨"BufferedCoresModel", "register", "(II)I"⟩, prog_9_method_22_code, 3, (some .int), Cond.code ⟨"BufferedCoresModel", "register", "(II)I"⟩ prog_9_method_22_code 3 (some .int) :: zT, { frames := 1, cells := 0, slots := 0, locals := 21 }, [])
def m_M_place : zMI := (⟨"BufferedCoresModel", "place", "(I)I"⟩, prog_9_method_23_code, 2, (some .int), Cond.code ⟨"BufferedCoresModel", "place", "(I)I"⟩ prog_9_method_23_code 2 (some .int) :: zT, { frames := 1, cells := 0, slots := 0, locals := 21 }, [])
def m_M_buffered : zMI := (⟨"BufferedCoresModel", "buffered", "(I)I"⟩, prog_9_method_24_code, 2, (some .int), Cond.code ⟨"BufferedCoresModel", "buffered", "(I)I"⟩ prog_9_method_24_code 2 (some .int) :: zT, { frames := 1, cells := 0, slots := 0, locals := 21 }, [])
def m_M_storeAddress : zMI := (⟨"BufferedCoresModel", "storeAddress", "(II)I"⟩, prog_9_method_25_code, 3, (some .int), Cond.code ⟨"BufferedCoresModel", "storeAddress", "(II)I"⟩ prog_9_method_25_code 3 (some .int) :: zT, { frames := 1, cells := 0, slots := 0, locals := 21 }, [])
def m_M_storeValue : zMI := (⟨"BufferedCoresModel", "storeValue", "(II)I"⟩, prog_9_method_26_code, 3, (some .int), Cond.code ⟨"BufferedCoresModel", "storeValue", "(II)I"⟩ prog_9_method_26_code 3 (some .int) :: zT, { frames := 1, cells := 0, slots := 0, locals := 21 }, [])
def m_M_line : zMI := (⟨"BufferedCoresModel", "line", "(II)I"⟩, prog_9_method_27_code, 4, (some .int), Cond.code ⟨"BufferedCoresModel", "line", "(II)I"⟩ prog_9_method_27_code 4 (some .int) :: zT, { frames := 1, cells := 0, slots := 0, locals := 21 }, [])
def m_M_cached : zMI := (⟨"BufferedCoresModel", "cached", "(II)I"⟩, prog_9_method_28_code, 3, (some .int), Cond.code ⟨"BufferedCoresModel", "cached", "(II)I"⟩ prog_9_method_28_code 3 (some .int) :: zT, { frames := 2, cells := 0, slots := 0, locals := 45 }, [])
def m_M_request : zMI := (⟨"BufferedCoresModel", "request", "(I)I"⟩, prog_9_method_29_code, 2, (some .int), Cond.code ⟨"BufferedCoresModel", "request", "(I)I"⟩ prog_9_method_29_code 2 (some .int) :: zT, { frames := 1, cells := 0, slots := 0, locals := 21 }, [])
def m_M_memory : zMI := (⟨"BufferedCoresModel", "memory", "(I)I"⟩, prog_9_method_30_code, 2, (some .int), Cond.code ⟨"BufferedCoresModel", "memory", "(I)I"⟩ prog_9_method_30_code 2 (some .int) :: zT, { frames := 0, cells := 0, slots := 0, locals := 0 }, [])
def m_M_word : zMI := (⟨"BufferedCoresModel", "word", "(I)I"⟩, prog_9_method_31_code, 2, (some .int), Cond.code ⟨"BufferedCoresModel", "word", "(I)I"⟩ prog_9_method_31_code 2 (some .int) :: zT, { frames := 3, cells := 0, slots := 0, locals := 68 }, [])
def m_M_events : zMI := (⟨"BufferedCoresModel", "events", "()I"⟩, prog_9_method_32_code, 1, (some .int), Cond.code ⟨"BufferedCoresModel", "events", "()I"⟩ prog_9_method_32_code 1 (some .int) :: zT, { frames := 0, cells := 0, slots := 0, locals := 0 }, [])
def m_M_event : zMI := (⟨"BufferedCoresModel", "event", "(I)I"⟩, prog_9_method_33_code, 2, (some .int), Cond.code ⟨"BufferedCoresModel", "event", "(I)I"⟩ prog_9_method_33_code 2 (some .int) :: zT, { frames := 0, cells := 0, slots := 0, locals := 0 }, [])
def m_M_eventValue : zMI := (⟨"BufferedCoresModel", "eventValue", "(I)I"⟩, prog_9_method_34_code, 2, (some .int), Cond.code ⟨"BufferedCoresModel", "eventValue", "(I)I"⟩ prog_9_method_34_code 2 (some .int) :: zT, { frames := 0, cells := 0, slots := 0, locals := 0 }, [])
set_option maxRecDepth 100000 in
theorem d_M_init_0 : decode prog_9_method_1_code 0 = .ok (.aload_n 0, 1) := by decide +kernel
set_option maxRecDepth 100000 in
theorem d_M_init_1 : decode prog_9_method_1_code 1 = .ok (.invokespecial 1, 3) := by decide +kernel
set_option maxRecDepth 100000 in
theorem d_M_init_4 : decode prog_9_method_1_code 4 = .ok (.aload_n 0, 1) := by decide +kernel
set_option maxRecDepth 100000 in
theorem d_M_init_5 : decode prog_9_method_1_code 5 = .ok (.bipush 8, 2) := by decide +kernel
set_option maxRecDepth 100000 in
theorem d_M_init_7 : decode prog_9_method_1_code 7 = .ok (.newarray .int, 2) := by decide +kernel
set_option maxRecDepth 100000 in
theorem d_M_init_9 : decode prog_9_method_1_code 9 = .ok (.putfield 7, 3) := by decide +kernel
set_option maxRecDepth 100000 in
theorem d_M_init_12 : decode prog_9_method_1_code 12 = .ok (.aload_n 0, 1) := by decide +kernel
set_option maxRecDepth 100000 in
theorem d_M_init_13 : decode prog_9_method_1_code 13 = .ok (.bipush 12, 2) := by decide +kernel
set_option maxRecDepth 100000 in
theorem d_M_init_15 : decode prog_9_method_1_code 15 = .ok (.newarray .int, 2) := by decide +kernel
set_option maxRecDepth 100000 in
theorem d_M_init_17 : decode prog_9_method_1_code 17 = .ok (.putfield 13, 3) := by decide +kernel
set_option maxRecDepth 100000 in
theorem d_M_init_20 : decode prog_9_method_1_code 20 = .ok (.aload_n 0, 1) := by decide +kernel
set_option maxRecDepth 100000 in
theorem d_M_init_21 : decode prog_9_method_1_code 21 = .ok (.iconst 3, 1) := by decide +kernel
set_option maxRecDepth 100000 in
theorem d_M_init_22 : decode prog_9_method_1_code 22 = .ok (.newarray .int, 2) := by decide +kernel
set_option maxRecDepth 100000 in
theorem d_M_init_24 : decode prog_9_method_1_code 24 = .ok (.putfield 16, 3) := by decide +kernel
set_option maxRecDepth 100000 in
theorem d_M_init_27 : decode prog_9_method_1_code 27 = .ok (.aload_n 0, 1) := by decide +kernel
set_option maxRecDepth 100000 in
theorem d_M_init_28 : decode prog_9_method_1_code 28 = .ok (.bipush 48, 2) := by decide +kernel
set_option maxRecDepth 100000 in
theorem d_M_init_30 : decode prog_9_method_1_code 30 = .ok (.newarray .int, 2) := by decide +kernel
set_option maxRecDepth 100000 in
theorem d_M_init_32 : decode prog_9_method_1_code 32 = .ok (.putfield 19, 3) := by decide +kernel
set_option maxRecDepth 100000 in
theorem d_M_init_35 : decode prog_9_method_1_code 35 = .ok (.aload_n 0, 1) := by decide +kernel
set_option maxRecDepth 100000 in
theorem d_M_init_36 : decode prog_9_method_1_code 36 = .ok (.bipush 48, 2) := by decide +kernel
set_option maxRecDepth 100000 in
theorem d_M_init_38 : decode prog_9_method_1_code 38 = .ok (.newarray .int, 2) := by decide +kernel
set_option maxRecDepth 100000 in
theorem d_M_init_40 : decode prog_9_method_1_code 40 = .ok (.putfield 22, 3) := by decide +kernel
set_option maxRecDepth 100000 in
theorem d_M_init_43 : decode prog_9_method_1_code 43 = .ok (.aload_n 0, 1) := by decide +kernel
set_option maxRecDepth 100000 in
theorem d_M_init_44 : decode prog_9_method_1_code 44 = .ok (.bipush 48, 2) := by decide +kernel
set_option maxRecDepth 100000 in
theorem d_M_init_46 : decode prog_9_method_1_code 46 = .ok (.newarray .int, 2) := by decide +kernel
set_option maxRecDepth 100000 in
theorem d_M_init_48 : decode prog_9_method_1_code 48 = .ok (.putfield 25, 3) := by decide +kernel
set_option maxRecDepth 100000 in
theorem d_M_init_51 : decode prog_9_method_1_code 51 = .ok (.aload_n 0, 1) := by decide +kernel
set_option maxRecDepth 100000 in
theorem d_M_init_52 : decode prog_9_method_1_code 52 = .ok (.iconst 3, 1) := by decide +kernel
set_option maxRecDepth 100000 in
theorem d_M_init_53 : decode prog_9_method_1_code 53 = .ok (.newarray .int, 2) := by decide +kernel
set_option maxRecDepth 100000 in
theorem d_M_init_55 : decode prog_9_method_1_code 55 = .ok (.putfield 28, 3) := by decide +kernel
set_option maxRecDepth 100000 in
theorem d_M_init_58 : decode prog_9_method_1_code 58 = .ok (.aload_n 0, 1) := by decide +kernel
set_option maxRecDepth 100000 in
theorem d_M_init_59 : decode prog_9_method_1_code 59 = .ok (.iconst 3, 1) := by decide +kernel
set_option maxRecDepth 100000 in
theorem d_M_init_60 : decode prog_9_method_1_code 60 = .ok (.newarray .int, 2) := by decide +kernel
set_option maxRecDepth 100000 in
theorem d_M_init_62 : decode prog_9_method_1_code 62 = .ok (.putfield 31, 3) := by decide +kernel
set_option maxRecDepth 100000 in
theorem d_M_init_65 : decode prog_9_method_1_code 65 = .ok (.aload_n 0, 1) := by decide +kernel
set_option maxRecDepth 100000 in
theorem d_M_init_66 : decode prog_9_method_1_code 66 = .ok (.bipush 12, 2) := by decide +kernel
set_option maxRecDepth 100000 in
theorem d_M_init_68 : decode prog_9_method_1_code 68 = .ok (.newarray .int, 2) := by decide +kernel
set_option maxRecDepth 100000 in
theorem d_M_init_70 : decode prog_9_method_1_code 70 = .ok (.putfield 34, 3) := by decide +kernel
set_option maxRecDepth 100000 in
theorem d_M_init_73 : decode prog_9_method_1_code 73 = .ok (.aload_n 0, 1) := by decide +kernel
set_option maxRecDepth 100000 in
theorem d_M_init_74 : decode prog_9_method_1_code 74 = .ok (.bipush 12, 2) := by decide +kernel
set_option maxRecDepth 100000 in
theorem d_M_init_76 : decode prog_9_method_1_code 76 = .ok (.newarray .int, 2) := by decide +kernel
set_option maxRecDepth 100000 in
theorem d_M_init_78 : decode prog_9_method_1_code 78 = .ok (.putfield 37, 3) := by decide +kernel
set_option maxRecDepth 100000 in
theorem d_M_init_81 : decode prog_9_method_1_code 81 = .ok (.aload_n 0, 1) := by decide +kernel
set_option maxRecDepth 100000 in
theorem d_M_init_82 : decode prog_9_method_1_code 82 = .ok (.bipush 6, 2) := by decide +kernel
set_option maxRecDepth 100000 in
theorem d_M_init_84 : decode prog_9_method_1_code 84 = .ok (.newarray .int, 2) := by decide +kernel
set_option maxRecDepth 100000 in
theorem d_M_init_86 : decode prog_9_method_1_code 86 = .ok (.putfield 40, 3) := by decide +kernel
set_option maxRecDepth 100000 in
theorem d_M_init_89 : decode prog_9_method_1_code 89 = .ok (.aload_n 0, 1) := by decide +kernel
set_option maxRecDepth 100000 in
theorem d_M_init_90 : decode prog_9_method_1_code 90 = .ok (.bipush 6, 2) := by decide +kernel
set_option maxRecDepth 100000 in
theorem d_M_init_92 : decode prog_9_method_1_code 92 = .ok (.newarray .int, 2) := by decide +kernel
set_option maxRecDepth 100000 in
theorem d_M_init_94 : decode prog_9_method_1_code 94 = .ok (.putfield 43, 3) := by decide +kernel
set_option maxRecDepth 100000 in
theorem d_M_init_97 : decode prog_9_method_1_code 97 = .ok (.aload_n 0, 1) := by decide +kernel
set_option maxRecDepth 100000 in
theorem d_M_init_98 : decode prog_9_method_1_code 98 = .ok (.bipush 6, 2) := by decide +kernel
set_option maxRecDepth 100000 in
theorem d_M_init_100 : decode prog_9_method_1_code 100 = .ok (.newarray .int, 2) := by decide +kernel
set_option maxRecDepth 100000 in
theorem d_M_init_102 : decode prog_9_method_1_code 102 = .ok (.putfield 46, 3) := by decide +kernel
set_option maxRecDepth 100000 in
theorem d_M_init_105 : decode prog_9_method_1_code 105 = .ok (.aload_n 0, 1) := by decide +kernel
set_option maxRecDepth 100000 in
theorem d_M_init_106 : decode prog_9_method_1_code 106 = .ok (.iconst 3, 1) := by decide +kernel
set_option maxRecDepth 100000 in
theorem d_M_init_107 : decode prog_9_method_1_code 107 = .ok (.newarray .int, 2) := by decide +kernel
set_option maxRecDepth 100000 in
theorem d_M_init_109 : decode prog_9_method_1_code 109 = .ok (.putfield 49, 3) := by decide +kernel
set_option maxRecDepth 100000 in
theorem d_M_init_112 : decode prog_9_method_1_code 112 = .ok (.aload_n 0, 1) := by decide +kernel
set_option maxRecDepth 100000 in
theorem d_M_init_113 : decode prog_9_method_1_code 113 = .ok (.iconst 3, 1) := by decide +kernel
set_option maxRecDepth 100000 in
theorem d_M_init_114 : decode prog_9_method_1_code 114 = .ok (.newarray .int, 2) := by decide +kernel
set_option maxRecDepth 100000 in
theorem d_M_init_116 : decode prog_9_method_1_code 116 = .ok (.putfield 52, 3) := by decide +kernel
set_option maxRecDepth 100000 in
theorem d_M_init_119 : decode prog_9_method_1_code 119 = .ok (.aload_n 0, 1) := by decide +kernel
set_option maxRecDepth 100000 in
theorem d_M_init_120 : decode prog_9_method_1_code 120 = .ok (.iconst 3, 1) := by decide +kernel
set_option maxRecDepth 100000 in
theorem d_M_init_121 : decode prog_9_method_1_code 121 = .ok (.newarray .boolean, 2) := by decide +kernel
set_option maxRecDepth 100000 in
theorem d_M_init_123 : decode prog_9_method_1_code 123 = .ok (.putfield 55, 3) := by decide +kernel
set_option maxRecDepth 100000 in
theorem d_M_init_126 : decode prog_9_method_1_code 126 = .ok (.aload_n 0, 1) := by decide +kernel
set_option maxRecDepth 100000 in
theorem d_M_init_127 : decode prog_9_method_1_code 127 = .ok (.iconst 3, 1) := by decide +kernel
set_option maxRecDepth 100000 in
theorem d_M_init_128 : decode prog_9_method_1_code 128 = .ok (.newarray .int, 2) := by decide +kernel
set_option maxRecDepth 100000 in
theorem d_M_init_130 : decode prog_9_method_1_code 130 = .ok (.putfield 59, 3) := by decide +kernel
set_option maxRecDepth 100000 in
theorem d_M_init_133 : decode prog_9_method_1_code 133 = .ok (.aload_n 0, 1) := by decide +kernel
set_option maxRecDepth 100000 in
theorem d_M_init_134 : decode prog_9_method_1_code 134 = .ok (.bipush 40, 2) := by decide +kernel
set_option maxRecDepth 100000 in
theorem d_M_init_136 : decode prog_9_method_1_code 136 = .ok (.newarray .int, 2) := by decide +kernel
set_option maxRecDepth 100000 in
theorem d_M_init_138 : decode prog_9_method_1_code 138 = .ok (.putfield 62, 3) := by decide +kernel
set_option maxRecDepth 100000 in
theorem d_M_init_141 : decode prog_9_method_1_code 141 = .ok (.aload_n 0, 1) := by decide +kernel
set_option maxRecDepth 100000 in
theorem d_M_init_142 : decode prog_9_method_1_code 142 = .ok (.bipush 40, 2) := by decide +kernel
set_option maxRecDepth 100000 in
theorem d_M_init_144 : decode prog_9_method_1_code 144 = .ok (.newarray .int, 2) := by decide +kernel
set_option maxRecDepth 100000 in
theorem d_M_init_146 : decode prog_9_method_1_code 146 = .ok (.putfield 65, 3) := by decide +kernel
set_option maxRecDepth 100000 in
theorem d_M_init_149 : decode prog_9_method_1_code 149 = .ok (.aload_n 0, 1) := by decide +kernel
set_option maxRecDepth 100000 in
theorem d_M_init_150 : decode prog_9_method_1_code 150 = .ok (.iload_n 1, 1) := by decide +kernel
set_option maxRecDepth 100000 in
theorem d_M_init_151 : decode prog_9_method_1_code 151 = .ok (.iconst 1, 1) := by decide +kernel
set_option maxRecDepth 100000 in
theorem d_M_init_152 : decode prog_9_method_1_code 152 = .ok (.if_icmp .ge 7, 3) := by decide +kernel
set_option maxRecDepth 100000 in
theorem d_M_init_155 : decode prog_9_method_1_code 155 = .ok (.iconst 1, 1) := by decide +kernel
set_option maxRecDepth 100000 in
theorem d_M_init_156 : decode prog_9_method_1_code 156 = .ok (.goto 13, 3) := by decide +kernel
set_option maxRecDepth 100000 in
theorem d_M_init_159 : decode prog_9_method_1_code 159 = .ok (.iload_n 1, 1) := by decide +kernel
set_option maxRecDepth 100000 in
theorem d_M_init_160 : decode prog_9_method_1_code 160 = .ok (.iconst 4, 1) := by decide +kernel
set_option maxRecDepth 100000 in
theorem d_M_init_161 : decode prog_9_method_1_code 161 = .ok (.if_icmp .le 7, 3) := by decide +kernel
set_option maxRecDepth 100000 in
theorem d_M_init_164 : decode prog_9_method_1_code 164 = .ok (.iconst 4, 1) := by decide +kernel
set_option maxRecDepth 100000 in
theorem d_M_init_165 : decode prog_9_method_1_code 165 = .ok (.goto 4, 3) := by decide +kernel
set_option maxRecDepth 100000 in
theorem d_M_init_168 : decode prog_9_method_1_code 168 = .ok (.iload_n 1, 1) := by decide +kernel
set_option maxRecDepth 100000 in
theorem d_M_init_169 : decode prog_9_method_1_code 169 = .ok (.putfield 68, 3) := by decide +kernel
set_option maxRecDepth 100000 in
theorem d_M_init_172 : decode prog_9_method_1_code 172 = .ok (.return_, 1) := by decide +kernel
set_option maxRecDepth 100000 in
theorem d_M_thrown_0 : decode prog_9_method_2_code 0 = .ok (.aload_n 0, 1) := by decide +kernel
set_option maxRecDepth 100000 in
theorem d_M_thrown_1 : decode prog_9_method_2_code 1 = .ok (.getfield 72, 3) := by decide +kernel
set_option maxRecDepth 100000 in
theorem d_M_thrown_4 : decode prog_9_method_2_code 4 = .ok (.ireturn, 1) := by decide +kernel
set_option maxRecDepth 100000 in
theorem d_M_code_0 : decode prog_9_method_5_code 0 = .ok (.aload_n 0, 1) := by decide +kernel
set_option maxRecDepth 100000 in
theorem d_M_code_1 : decode prog_9_method_5_code 1 = .ok (.iload_n 1, 1) := by decide +kernel
set_option maxRecDepth 100000 in
theorem d_M_code_2 : decode prog_9_method_5_code 2 = .ok (.invokevirtual 75, 3) := by decide +kernel
set_option maxRecDepth 100000 in
theorem d_M_code_5 : decode prog_9_method_5_code 5 = .ok (.ifCond .ne 5, 3) := by decide +kernel
set_option maxRecDepth 100000 in
theorem d_M_code_8 : decode prog_9_method_5_code 8 = .ok (.iconst 0, 1) := by decide +kernel
set_option maxRecDepth 100000 in
theorem d_M_code_9 : decode prog_9_method_5_code 9 = .ok (.ireturn, 1) := by decide +kernel
set_option maxRecDepth 100000 in
theorem d_M_code_10 : decode prog_9_method_5_code 10 = .ok (.iload_n 2, 1) := by decide +kernel
set_option maxRecDepth 100000 in
theorem d_M_code_11 : decode prog_9_method_5_code 11 = .ok (.iconst 2, 1) := by decide +kernel
set_option maxRecDepth 100000 in
theorem d_M_code_12 : decode prog_9_method_5_code 12 = .ok (.if_icmp .eq 16, 3) := by decide +kernel
set_option maxRecDepth 100000 in
theorem d_M_code_15 : decode prog_9_method_5_code 15 = .ok (.iload_n 2, 1) := by decide +kernel
set_option maxRecDepth 100000 in
theorem d_M_code_16 : decode prog_9_method_5_code 16 = .ok (.bipush 7, 2) := by decide +kernel
set_option maxRecDepth 100000 in
theorem d_M_code_18 : decode prog_9_method_5_code 18 = .ok (.if_icmp .eq 10, 3) := by decide +kernel
set_option maxRecDepth 100000 in
theorem d_M_code_21 : decode prog_9_method_5_code 21 = .ok (.iload_n 3, 1) := by decide +kernel
set_option maxRecDepth 100000 in
theorem d_M_code_22 : decode prog_9_method_5_code 22 = .ok (.invokestatic 79, 3) := by decide +kernel
set_option maxRecDepth 100000 in
theorem d_M_code_25 : decode prog_9_method_5_code 25 = .ok (.ifCond .eq 7, 3) := by decide +kernel
set_option maxRecDepth 100000 in
theorem d_M_code_28 : decode prog_9_method_5_code 28 = .ok (.iconst 1, 1) := by decide +kernel
set_option maxRecDepth 100000 in
theorem d_M_code_29 : decode prog_9_method_5_code 29 = .ok (.goto 4, 3) := by decide +kernel
set_option maxRecDepth 100000 in
theorem d_M_code_32 : decode prog_9_method_5_code 32 = .ok (.iconst 0, 1) := by decide +kernel
set_option maxRecDepth 100000 in
theorem d_M_code_33 : decode prog_9_method_5_code 33 = .ok (.istore 5, 2) := by decide +kernel
set_option maxRecDepth 100000 in
theorem d_M_code_35 : decode prog_9_method_5_code 35 = .ok (.iload_n 2, 1) := by decide +kernel
set_option maxRecDepth 100000 in
theorem d_M_code_36 : decode prog_9_method_5_code 36 = .ok (.ifCond .eq 18, 3) := by decide +kernel
set_option maxRecDepth 100000 in
theorem d_M_code_39 : decode prog_9_method_5_code 39 = .ok (.iload_n 2, 1) := by decide +kernel
set_option maxRecDepth 100000 in
theorem d_M_code_40 : decode prog_9_method_5_code 40 = .ok (.iconst 1, 1) := by decide +kernel
set_option maxRecDepth 100000 in
theorem d_M_code_41 : decode prog_9_method_5_code 41 = .ok (.if_icmp .eq 13, 3) := by decide +kernel
set_option maxRecDepth 100000 in
theorem d_M_code_44 : decode prog_9_method_5_code 44 = .ok (.iload_n 2, 1) := by decide +kernel
set_option maxRecDepth 100000 in
theorem d_M_code_45 : decode prog_9_method_5_code 45 = .ok (.iconst 3, 1) := by decide +kernel
set_option maxRecDepth 100000 in
theorem d_M_code_46 : decode prog_9_method_5_code 46 = .ok (.if_icmp .eq 8, 3) := by decide +kernel
set_option maxRecDepth 100000 in
theorem d_M_code_49 : decode prog_9_method_5_code 49 = .ok (.iload_n 2, 1) := by decide +kernel
set_option maxRecDepth 100000 in
theorem d_M_code_50 : decode prog_9_method_5_code 50 = .ok (.iconst 4, 1) := by decide +kernel
set_option maxRecDepth 100000 in
theorem d_M_code_51 : decode prog_9_method_5_code 51 = .ok (.if_icmp .ne 11, 3) := by decide +kernel
set_option maxRecDepth 100000 in
theorem d_M_code_54 : decode prog_9_method_5_code 54 = .ok (.iload 4, 2) := by decide +kernel
set_option maxRecDepth 100000 in
theorem d_M_code_56 : decode prog_9_method_5_code 56 = .ok (.invokestatic 79, 3) := by decide +kernel
set_option maxRecDepth 100000 in
theorem d_M_code_59 : decode prog_9_method_5_code 59 = .ok (.goto 26, 3) := by decide +kernel
set_option maxRecDepth 100000 in
theorem d_M_code_62 : decode prog_9_method_5_code 62 = .ok (.iload_n 2, 1) := by decide +kernel
set_option maxRecDepth 100000 in
theorem d_M_code_63 : decode prog_9_method_5_code 63 = .ok (.bipush 6, 2) := by decide +kernel
set_option maxRecDepth 100000 in
theorem d_M_code_65 : decode prog_9_method_5_code 65 = .ok (.if_icmp .ne 15, 3) := by decide +kernel
set_option maxRecDepth 100000 in
theorem d_M_code_68 : decode prog_9_method_5_code 68 = .ok (.iload 4, 2) := by decide +kernel
set_option maxRecDepth 100000 in
theorem d_M_code_70 : decode prog_9_method_5_code 70 = .ok (.ifCond .lt 14, 3) := by decide +kernel
set_option maxRecDepth 100000 in
theorem d_M_code_73 : decode prog_9_method_5_code 73 = .ok (.iload 4, 2) := by decide +kernel
set_option maxRecDepth 100000 in
theorem d_M_code_75 : decode prog_9_method_5_code 75 = .ok (.bipush 15, 2) := by decide +kernel
set_option maxRecDepth 100000 in
theorem d_M_code_77 : decode prog_9_method_5_code 77 = .ok (.if_icmp .gt 7, 3) := by decide +kernel
set_option maxRecDepth 100000 in
theorem d_M_code_80 : decode prog_9_method_5_code 80 = .ok (.iconst 1, 1) := by decide +kernel
set_option maxRecDepth 100000 in
theorem d_M_code_81 : decode prog_9_method_5_code 81 = .ok (.goto 4, 3) := by decide +kernel
set_option maxRecDepth 100000 in
theorem d_M_code_84 : decode prog_9_method_5_code 84 = .ok (.iconst 0, 1) := by decide +kernel
set_option maxRecDepth 100000 in
theorem d_M_code_85 : decode prog_9_method_5_code 85 = .ok (.istore 6, 2) := by decide +kernel
set_option maxRecDepth 100000 in
theorem d_M_code_87 : decode prog_9_method_5_code 87 = .ok (.aload_n 0, 1) := by decide +kernel
set_option maxRecDepth 100000 in
theorem d_M_code_88 : decode prog_9_method_5_code 88 = .ok (.iload_n 2, 1) := by decide +kernel
set_option maxRecDepth 100000 in
theorem d_M_code_89 : decode prog_9_method_5_code 89 = .ok (.ifCond .lt 19, 3) := by decide +kernel
set_option maxRecDepth 100000 in
theorem d_M_code_92 : decode prog_9_method_5_code 92 = .ok (.iload_n 2, 1) := by decide +kernel
set_option maxRecDepth 100000 in
theorem d_M_code_93 : decode prog_9_method_5_code 93 = .ok (.bipush 7, 2) := by decide +kernel
set_option maxRecDepth 100000 in
theorem d_M_code_95 : decode prog_9_method_5_code 95 = .ok (.if_icmp .gt 13, 3) := by decide +kernel
set_option maxRecDepth 100000 in
theorem d_M_code_98 : decode prog_9_method_5_code 98 = .ok (.iload 5, 2) := by decide +kernel
set_option maxRecDepth 100000 in
theorem d_M_code_100 : decode prog_9_method_5_code 100 = .ok (.ifCond .eq 8, 3) := by decide +kernel
set_option maxRecDepth 100000 in
theorem d_M_code_103 : decode prog_9_method_5_code 103 = .ok (.iload 6, 2) := by decide +kernel
set_option maxRecDepth 100000 in
theorem d_M_code_105 : decode prog_9_method_5_code 105 = .ok (.ifCond .ne 7, 3) := by decide +kernel
set_option maxRecDepth 100000 in
theorem d_M_code_108 : decode prog_9_method_5_code 108 = .ok (.iconst 2, 1) := by decide +kernel
set_option maxRecDepth 100000 in
theorem d_M_code_109 : decode prog_9_method_5_code 109 = .ok (.goto 19, 3) := by decide +kernel
set_option maxRecDepth 100000 in
theorem d_M_code_112 : decode prog_9_method_5_code 112 = .ok (.aload_n 0, 1) := by decide +kernel
set_option maxRecDepth 100000 in
theorem d_M_code_113 : decode prog_9_method_5_code 113 = .ok (.getfield 16, 3) := by decide +kernel
set_option maxRecDepth 100000 in
theorem d_M_code_116 : decode prog_9_method_5_code 116 = .ok (.iload_n 1, 1) := by decide +kernel
set_option maxRecDepth 100000 in
theorem d_M_code_117 : decode prog_9_method_5_code 117 = .ok (.iaload, 1) := by decide +kernel
set_option maxRecDepth 100000 in
theorem d_M_code_118 : decode prog_9_method_5_code 118 = .ok (.bipush 16, 2) := by decide +kernel
set_option maxRecDepth 100000 in
theorem d_M_code_120 : decode prog_9_method_5_code 120 = .ok (.if_icmp .ne 7, 3) := by decide +kernel
set_option maxRecDepth 100000 in
theorem d_M_code_123 : decode prog_9_method_5_code 123 = .ok (.iconst 3, 1) := by decide +kernel
set_option maxRecDepth 100000 in
theorem d_M_code_124 : decode prog_9_method_5_code 124 = .ok (.goto 4, 3) := by decide +kernel
set_option maxRecDepth 100000 in
theorem d_M_code_127 : decode prog_9_method_5_code 127 = .ok (.iconst 0, 1) := by decide +kernel
set_option maxRecDepth 100000 in
theorem d_M_code_128 : decode prog_9_method_5_code 128 = .ok (.putfield 72, 3) := by decide +kernel
set_option maxRecDepth 100000 in
theorem d_M_code_131 : decode prog_9_method_5_code 131 = .ok (.aload_n 0, 1) := by decide +kernel
set_option maxRecDepth 100000 in
theorem d_M_code_132 : decode prog_9_method_5_code 132 = .ok (.getfield 72, 3) := by decide +kernel
set_option maxRecDepth 100000 in
theorem d_M_code_135 : decode prog_9_method_5_code 135 = .ok (.ifCond .le 5, 3) := by decide +kernel
set_option maxRecDepth 100000 in
theorem d_M_code_138 : decode prog_9_method_5_code 138 = .ok (.iconst 0, 1) := by decide +kernel
set_option maxRecDepth 100000 in
theorem d_M_code_139 : decode prog_9_method_5_code 139 = .ok (.ireturn, 1) := by decide +kernel
set_option maxRecDepth 100000 in
theorem d_M_code_140 : decode prog_9_method_5_code 140 = .ok (.bipush 16, 2) := by decide +kernel
set_option maxRecDepth 100000 in
theorem d_M_code_142 : decode prog_9_method_5_code 142 = .ok (.iload_n 1, 1) := by decide +kernel
set_option maxRecDepth 100000 in
theorem d_M_code_143 : decode prog_9_method_5_code 143 = .ok (.imul, 1) := by decide +kernel
set_option maxRecDepth 100000 in
theorem d_M_code_144 : decode prog_9_method_5_code 144 = .ok (.aload_n 0, 1) := by decide +kernel
set_option maxRecDepth 100000 in
theorem d_M_code_145 : decode prog_9_method_5_code 145 = .ok (.getfield 16, 3) := by decide +kernel
set_option maxRecDepth 100000 in
theorem d_M_code_148 : decode prog_9_method_5_code 148 = .ok (.iload_n 1, 1) := by decide +kernel
set_option maxRecDepth 100000 in
theorem d_M_code_149 : decode prog_9_method_5_code 149 = .ok (.iaload, 1) := by decide +kernel
set_option maxRecDepth 100000 in
theorem d_M_code_150 : decode prog_9_method_5_code 150 = .ok (.iadd, 1) := by decide +kernel
set_option maxRecDepth 100000 in
theorem d_M_code_151 : decode prog_9_method_5_code 151 = .ok (.istore 7, 2) := by decide +kernel
set_option maxRecDepth 100000 in
theorem d_M_code_153 : decode prog_9_method_5_code 153 = .ok (.aload_n 0, 1) := by decide +kernel
set_option maxRecDepth 100000 in
theorem d_M_code_154 : decode prog_9_method_5_code 154 = .ok (.getfield 19, 3) := by decide +kernel
set_option maxRecDepth 100000 in
theorem d_M_code_157 : decode prog_9_method_5_code 157 = .ok (.iload 7, 2) := by decide +kernel
set_option maxRecDepth 100000 in
theorem d_M_code_159 : decode prog_9_method_5_code 159 = .ok (.iload_n 2, 1) := by decide +kernel
set_option maxRecDepth 100000 in
theorem d_M_code_160 : decode prog_9_method_5_code 160 = .ok (.iastore, 1) := by decide +kernel
set_option maxRecDepth 100000 in
theorem d_M_code_161 : decode prog_9_method_5_code 161 = .ok (.aload_n 0, 1) := by decide +kernel
set_option maxRecDepth 100000 in
theorem d_M_code_162 : decode prog_9_method_5_code 162 = .ok (.getfield 22, 3) := by decide +kernel
set_option maxRecDepth 100000 in
theorem d_M_code_165 : decode prog_9_method_5_code 165 = .ok (.iload 7, 2) := by decide +kernel
set_option maxRecDepth 100000 in
theorem d_M_code_167 : decode prog_9_method_5_code 167 = .ok (.iload_n 3, 1) := by decide +kernel
set_option maxRecDepth 100000 in
theorem d_M_code_168 : decode prog_9_method_5_code 168 = .ok (.iastore, 1) := by decide +kernel
set_option maxRecDepth 100000 in
theorem d_M_code_169 : decode prog_9_method_5_code 169 = .ok (.aload_n 0, 1) := by decide +kernel
set_option maxRecDepth 100000 in
theorem d_M_code_170 : decode prog_9_method_5_code 170 = .ok (.getfield 25, 3) := by decide +kernel
set_option maxRecDepth 100000 in
theorem d_M_code_173 : decode prog_9_method_5_code 173 = .ok (.iload 7, 2) := by decide +kernel
set_option maxRecDepth 100000 in
theorem d_M_code_175 : decode prog_9_method_5_code 175 = .ok (.iload 4, 2) := by decide +kernel
set_option maxRecDepth 100000 in
theorem d_M_code_177 : decode prog_9_method_5_code 177 = .ok (.iastore, 1) := by decide +kernel
set_option maxRecDepth 100000 in
theorem d_M_code_178 : decode prog_9_method_5_code 178 = .ok (.aload_n 0, 1) := by decide +kernel
set_option maxRecDepth 100000 in
theorem d_M_code_179 : decode prog_9_method_5_code 179 = .ok (.getfield 16, 3) := by decide +kernel
set_option maxRecDepth 100000 in
theorem d_M_code_182 : decode prog_9_method_5_code 182 = .ok (.iload_n 1, 1) := by decide +kernel
set_option maxRecDepth 100000 in
theorem d_M_code_183 : decode prog_9_method_5_code 183 = .ok (.dup2, 1) := by decide +kernel
set_option maxRecDepth 100000 in
theorem d_M_code_184 : decode prog_9_method_5_code 184 = .ok (.iaload, 1) := by decide +kernel
set_option maxRecDepth 100000 in
theorem d_M_code_185 : decode prog_9_method_5_code 185 = .ok (.iconst 1, 1) := by decide +kernel
set_option maxRecDepth 100000 in
theorem d_M_code_186 : decode prog_9_method_5_code 186 = .ok (.iadd, 1) := by decide +kernel
set_option maxRecDepth 100000 in
theorem d_M_code_187 : decode prog_9_method_5_code 187 = .ok (.iastore, 1) := by decide +kernel
set_option maxRecDepth 100000 in
theorem d_M_code_188 : decode prog_9_method_5_code 188 = .ok (.aload_n 0, 1) := by decide +kernel
set_option maxRecDepth 100000 in
theorem d_M_code_189 : decode prog_9_method_5_code 189 = .ok (.getfield 16, 3) := by decide +kernel
set_option maxRecDepth 100000 in
theorem d_M_code_192 : decode prog_9_method_5_code 192 = .ok (.iload_n 1, 1) := by decide +kernel
set_option maxRecDepth 100000 in
theorem d_M_code_193 : decode prog_9_method_5_code 193 = .ok (.iaload, 1) := by decide +kernel
set_option maxRecDepth 100000 in
theorem d_M_code_194 : decode prog_9_method_5_code 194 = .ok (.ireturn, 1) := by decide +kernel
set_option maxRecDepth 100000 in
theorem d_M_core_0 : decode prog_9_method_4_code 0 = .ok (.aload_n 0, 1) := by decide +kernel
set_option maxRecDepth 100000 in
theorem d_M_core_1 : decode prog_9_method_4_code 1 = .ok (.iload_n 1, 1) := by decide +kernel
set_option maxRecDepth 100000 in
theorem d_M_core_2 : decode prog_9_method_4_code 2 = .ok (.ifCond .lt 12, 3) := by decide +kernel
set_option maxRecDepth 100000 in
theorem d_M_core_5 : decode prog_9_method_4_code 5 = .ok (.iload_n 1, 1) := by decide +kernel
set_option maxRecDepth 100000 in
theorem d_M_core_6 : decode prog_9_method_4_code 6 = .ok (.iconst 3, 1) := by decide +kernel
set_option maxRecDepth 100000 in
theorem d_M_core_7 : decode prog_9_method_4_code 7 = .ok (.if_icmp .ge 7, 3) := by decide +kernel
set_option maxRecDepth 100000 in
theorem d_M_core_10 : decode prog_9_method_4_code 10 = .ok (.iconst 0, 1) := by decide +kernel
set_option maxRecDepth 100000 in
theorem d_M_core_11 : decode prog_9_method_4_code 11 = .ok (.goto 4, 3) := by decide +kernel
set_option maxRecDepth 100000 in
theorem d_M_core_14 : decode prog_9_method_4_code 14 = .ok (.iconst 1, 1) := by decide +kernel
set_option maxRecDepth 100000 in
theorem d_M_core_15 : decode prog_9_method_4_code 15 = .ok (.putfield 72, 3) := by decide +kernel
set_option maxRecDepth 100000 in
theorem d_M_core_18 : decode prog_9_method_4_code 18 = .ok (.aload_n 0, 1) := by decide +kernel
set_option maxRecDepth 100000 in
theorem d_M_core_19 : decode prog_9_method_4_code 19 = .ok (.getfield 72, 3) := by decide +kernel
set_option maxRecDepth 100000 in
theorem d_M_core_22 : decode prog_9_method_4_code 22 = .ok (.ifCond .ne 7, 3) := by decide +kernel
set_option maxRecDepth 100000 in
theorem d_M_core_25 : decode prog_9_method_4_code 25 = .ok (.iconst 1, 1) := by decide +kernel
set_option maxRecDepth 100000 in
theorem d_M_core_26 : decode prog_9_method_4_code 26 = .ok (.goto 4, 3) := by decide +kernel
set_option maxRecDepth 100000 in
theorem d_M_core_29 : decode prog_9_method_4_code 29 = .ok (.iconst 0, 1) := by decide +kernel
set_option maxRecDepth 100000 in
theorem d_M_core_30 : decode prog_9_method_4_code 30 = .ok (.ireturn, 1) := by decide +kernel
set_option maxRecDepth 100000 in
theorem d_M_isRegister_0 : decode prog_9_method_3_code 0 = .ok (.iload_n 0, 1) := by decide +kernel
set_option maxRecDepth 100000 in
theorem d_M_isRegister_1 : decode prog_9_method_3_code 1 = .ok (.ifCond .lt 12, 3) := by decide +kernel
set_option maxRecDepth 100000 in
theorem d_M_isRegister_4 : decode prog_9_method_3_code 4 = .ok (.iload_n 0, 1) := by decide +kernel
set_option maxRecDepth 100000 in
theorem d_M_isRegister_5 : decode prog_9_method_3_code 5 = .ok (.iconst 4, 1) := by decide +kernel
set_option maxRecDepth 100000 in
theorem d_M_isRegister_6 : decode prog_9_method_3_code 6 = .ok (.if_icmp .ge 7, 3) := by decide +kernel
set_option maxRecDepth 100000 in
theorem d_M_isRegister_9 : decode prog_9_method_3_code 9 = .ok (.iconst 1, 1) := by decide +kernel
set_option maxRecDepth 100000 in
theorem d_M_isRegister_10 : decode prog_9_method_3_code 10 = .ok (.goto 4, 3) := by decide +kernel
set_option maxRecDepth 100000 in
theorem d_M_isRegister_13 : decode prog_9_method_3_code 13 = .ok (.iconst 0, 1) := by decide +kernel
set_option maxRecDepth 100000 in
theorem d_M_isRegister_14 : decode prog_9_method_3_code 14 = .ok (.ireturn, 1) := by decide +kernel
set_option maxRecDepth 100000 in
theorem d_M_poke_0 : decode prog_9_method_10_code 0 = .ok (.iconst 0, 1) := by decide +kernel
set_option maxRecDepth 100000 in
theorem d_M_poke_1 : decode prog_9_method_10_code 1 = .ok (.istore_n 3, 1) := by decide +kernel
set_option maxRecDepth 100000 in
theorem d_M_poke_2 : decode prog_9_method_10_code 2 = .ok (.iconst 0, 1) := by decide +kernel
set_option maxRecDepth 100000 in
theorem d_M_poke_3 : decode prog_9_method_10_code 3 = .ok (.istore 4, 2) := by decide +kernel
set_option maxRecDepth 100000 in
theorem d_M_poke_5 : decode prog_9_method_10_code 5 = .ok (.iload 4, 2) := by decide +kernel
set_option maxRecDepth 100000 in
theorem d_M_poke_7 : decode prog_9_method_10_code 7 = .ok (.iconst 3, 1) := by decide +kernel
set_option maxRecDepth 100000 in
theorem d_M_poke_8 : decode prog_9_method_10_code 8 = .ok (.if_icmp .ge 60, 3) := by decide +kernel
set_option maxRecDepth 100000 in
theorem d_M_poke_11 : decode prog_9_method_10_code 11 = .ok (.iload_n 1, 1) := by decide +kernel
set_option maxRecDepth 100000 in
theorem d_M_poke_12 : decode prog_9_method_10_code 12 = .ok (.ifCond .lt 56, 3) := by decide +kernel
set_option maxRecDepth 100000 in
theorem d_M_poke_15 : decode prog_9_method_10_code 15 = .ok (.iload_n 1, 1) := by decide +kernel
set_option maxRecDepth 100000 in
theorem d_M_poke_16 : decode prog_9_method_10_code 16 = .ok (.bipush 8, 2) := by decide +kernel
set_option maxRecDepth 100000 in
theorem d_M_poke_18 : decode prog_9_method_10_code 18 = .ok (.if_icmp .ge 50, 3) := by decide +kernel
set_option maxRecDepth 100000 in
theorem d_M_poke_21 : decode prog_9_method_10_code 21 = .ok (.iload_n 3, 1) := by decide +kernel
set_option maxRecDepth 100000 in
theorem d_M_poke_22 : decode prog_9_method_10_code 22 = .ok (.ifCond .ne 34, 3) := by decide +kernel
set_option maxRecDepth 100000 in
theorem d_M_poke_25 : decode prog_9_method_10_code 25 = .ok (.aload_n 0, 1) := by decide +kernel
set_option maxRecDepth 100000 in
theorem d_M_poke_26 : decode prog_9_method_10_code 26 = .ok (.iload 4, 2) := by decide +kernel
set_option maxRecDepth 100000 in
theorem d_M_poke_28 : decode prog_9_method_10_code 28 = .ok (.iload_n 1, 1) := by decide +kernel
set_option maxRecDepth 100000 in
theorem d_M_poke_29 : decode prog_9_method_10_code 29 = .ok (.invokevirtual 86, 3) := by decide +kernel
set_option maxRecDepth 100000 in
theorem d_M_poke_32 : decode prog_9_method_10_code 32 = .ok (.ifCond .ne 24, 3) := by decide +kernel
set_option maxRecDepth 100000 in
theorem d_M_poke_35 : decode prog_9_method_10_code 35 = .ok (.aload_n 0, 1) := by decide +kernel
set_option maxRecDepth 100000 in
theorem d_M_poke_36 : decode prog_9_method_10_code 36 = .ok (.getfield 55, 3) := by decide +kernel
set_option maxRecDepth 100000 in
theorem d_M_poke_39 : decode prog_9_method_10_code 39 = .ok (.iload 4, 2) := by decide +kernel
set_option maxRecDepth 100000 in
theorem d_M_poke_41 : decode prog_9_method_10_code 41 = .ok (.baload, 1) := by decide +kernel
set_option maxRecDepth 100000 in
theorem d_M_poke_42 : decode prog_9_method_10_code 42 = .ok (.ifCond .eq 18, 3) := by decide +kernel
set_option maxRecDepth 100000 in
theorem d_M_poke_45 : decode prog_9_method_10_code 45 = .ok (.aload_n 0, 1) := by decide +kernel
set_option maxRecDepth 100000 in
theorem d_M_poke_46 : decode prog_9_method_10_code 46 = .ok (.getfield 52, 3) := by decide +kernel
set_option maxRecDepth 100000 in
theorem d_M_poke_49 : decode prog_9_method_10_code 49 = .ok (.iload 4, 2) := by decide +kernel
set_option maxRecDepth 100000 in
theorem d_M_poke_51 : decode prog_9_method_10_code 51 = .ok (.iaload, 1) := by decide +kernel
set_option maxRecDepth 100000 in
theorem d_M_poke_52 : decode prog_9_method_10_code 52 = .ok (.iload_n 1, 1) := by decide +kernel
set_option maxRecDepth 100000 in
theorem d_M_poke_53 : decode prog_9_method_10_code 53 = .ok (.if_icmp .ne 7, 3) := by decide +kernel
set_option maxRecDepth 100000 in
theorem d_M_poke_56 : decode prog_9_method_10_code 56 = .ok (.iconst 1, 1) := by decide +kernel
set_option maxRecDepth 100000 in
theorem d_M_poke_57 : decode prog_9_method_10_code 57 = .ok (.goto 4, 3) := by decide +kernel
set_option maxRecDepth 100000 in
theorem d_M_poke_60 : decode prog_9_method_10_code 60 = .ok (.iconst 0, 1) := by decide +kernel
set_option maxRecDepth 100000 in
theorem d_M_poke_61 : decode prog_9_method_10_code 61 = .ok (.istore_n 3, 1) := by decide +kernel
set_option maxRecDepth 100000 in
theorem d_M_poke_62 : decode prog_9_method_10_code 62 = .ok (.iinc 4 1, 3) := by decide +kernel
set_option maxRecDepth 100000 in
theorem d_M_poke_65 : decode prog_9_method_10_code 65 = .ok (.goto (-60), 3) := by decide +kernel
set_option maxRecDepth 100000 in
theorem d_M_poke_68 : decode prog_9_method_10_code 68 = .ok (.aload_n 0, 1) := by decide +kernel
set_option maxRecDepth 100000 in
theorem d_M_poke_69 : decode prog_9_method_10_code 69 = .ok (.iload_n 1, 1) := by decide +kernel
set_option maxRecDepth 100000 in
theorem d_M_poke_70 : decode prog_9_method_10_code 70 = .ok (.ifCond .lt 9, 3) := by decide +kernel
set_option maxRecDepth 100000 in
theorem d_M_poke_73 : decode prog_9_method_10_code 73 = .ok (.iload_n 1, 1) := by decide +kernel
set_option maxRecDepth 100000 in
theorem d_M_poke_74 : decode prog_9_method_10_code 74 = .ok (.bipush 7, 2) := by decide +kernel
set_option maxRecDepth 100000 in
theorem d_M_poke_76 : decode prog_9_method_10_code 76 = .ok (.if_icmp .le 7, 3) := by decide +kernel
set_option maxRecDepth 100000 in
theorem d_M_poke_79 : decode prog_9_method_10_code 79 = .ok (.iconst 1, 1) := by decide +kernel
set_option maxRecDepth 100000 in
theorem d_M_poke_80 : decode prog_9_method_10_code 80 = .ok (.goto 12, 3) := by decide +kernel
set_option maxRecDepth 100000 in
theorem d_M_poke_83 : decode prog_9_method_10_code 83 = .ok (.iload_n 3, 1) := by decide +kernel
set_option maxRecDepth 100000 in
theorem d_M_poke_84 : decode prog_9_method_10_code 84 = .ok (.ifCond .eq 7, 3) := by decide +kernel
set_option maxRecDepth 100000 in
theorem d_M_poke_87 : decode prog_9_method_10_code 87 = .ok (.iconst 2, 1) := by decide +kernel
set_option maxRecDepth 100000 in
theorem d_M_poke_88 : decode prog_9_method_10_code 88 = .ok (.goto 4, 3) := by decide +kernel
set_option maxRecDepth 100000 in
theorem d_M_poke_91 : decode prog_9_method_10_code 91 = .ok (.iconst 0, 1) := by decide +kernel
set_option maxRecDepth 100000 in
theorem d_M_poke_92 : decode prog_9_method_10_code 92 = .ok (.putfield 72, 3) := by decide +kernel
set_option maxRecDepth 100000 in
theorem d_M_poke_95 : decode prog_9_method_10_code 95 = .ok (.aload_n 0, 1) := by decide +kernel
set_option maxRecDepth 100000 in
theorem d_M_poke_96 : decode prog_9_method_10_code 96 = .ok (.getfield 72, 3) := by decide +kernel
set_option maxRecDepth 100000 in
theorem d_M_poke_99 : decode prog_9_method_10_code 99 = .ok (.ifCond .ne 10, 3) := by decide +kernel
set_option maxRecDepth 100000 in
theorem d_M_poke_102 : decode prog_9_method_10_code 102 = .ok (.aload_n 0, 1) := by decide +kernel
set_option maxRecDepth 100000 in
theorem d_M_poke_103 : decode prog_9_method_10_code 103 = .ok (.getfield 7, 3) := by decide +kernel
set_option maxRecDepth 100000 in
theorem d_M_poke_106 : decode prog_9_method_10_code 106 = .ok (.iload_n 1, 1) := by decide +kernel
set_option maxRecDepth 100000 in
theorem d_M_poke_107 : decode prog_9_method_10_code 107 = .ok (.iload_n 2, 1) := by decide +kernel
set_option maxRecDepth 100000 in
theorem d_M_poke_108 : decode prog_9_method_10_code 108 = .ok (.iastore, 1) := by decide +kernel
set_option maxRecDepth 100000 in
theorem d_M_poke_109 : decode prog_9_method_10_code 109 = .ok (.return_, 1) := by decide +kernel
set_option maxRecDepth 100000 in
theorem d_M_has_0 : decode prog_9_method_7_code 0 = .ok (.aload_n 0, 1) := by decide +kernel
set_option maxRecDepth 100000 in
theorem d_M_has_1 : decode prog_9_method_7_code 1 = .ok (.iload_n 1, 1) := by decide +kernel
set_option maxRecDepth 100000 in
theorem d_M_has_2 : decode prog_9_method_7_code 2 = .ok (.iload_n 2, 1) := by decide +kernel
set_option maxRecDepth 100000 in
theorem d_M_has_3 : decode prog_9_method_7_code 3 = .ok (.invokevirtual 82, 3) := by decide +kernel
set_option maxRecDepth 100000 in
theorem d_M_has_6 : decode prog_9_method_7_code 6 = .ok (.istore_n 3, 1) := by decide +kernel
set_option maxRecDepth 100000 in
theorem d_M_has_7 : decode prog_9_method_7_code 7 = .ok (.aload_n 0, 1) := by decide +kernel
set_option maxRecDepth 100000 in
theorem d_M_has_8 : decode prog_9_method_7_code 8 = .ok (.getfield 40, 3) := by decide +kernel
set_option maxRecDepth 100000 in
theorem d_M_has_11 : decode prog_9_method_7_code 11 = .ok (.iload_n 3, 1) := by decide +kernel
set_option maxRecDepth 100000 in
theorem d_M_has_12 : decode prog_9_method_7_code 12 = .ok (.iaload, 1) := by decide +kernel
set_option maxRecDepth 100000 in
theorem d_M_has_13 : decode prog_9_method_7_code 13 = .ok (.ifCond .eq 17, 3) := by decide +kernel
set_option maxRecDepth 100000 in
theorem d_M_has_16 : decode prog_9_method_7_code 16 = .ok (.aload_n 0, 1) := by decide +kernel
set_option maxRecDepth 100000 in
theorem d_M_has_17 : decode prog_9_method_7_code 17 = .ok (.getfield 43, 3) := by decide +kernel
set_option maxRecDepth 100000 in
theorem d_M_has_20 : decode prog_9_method_7_code 20 = .ok (.iload_n 3, 1) := by decide +kernel
set_option maxRecDepth 100000 in
theorem d_M_has_21 : decode prog_9_method_7_code 21 = .ok (.iaload, 1) := by decide +kernel
set_option maxRecDepth 100000 in
theorem d_M_has_22 : decode prog_9_method_7_code 22 = .ok (.iload_n 2, 1) := by decide +kernel
set_option maxRecDepth 100000 in
theorem d_M_has_23 : decode prog_9_method_7_code 23 = .ok (.if_icmp .ne 7, 3) := by decide +kernel
set_option maxRecDepth 100000 in
theorem d_M_has_26 : decode prog_9_method_7_code 26 = .ok (.iconst 1, 1) := by decide +kernel
set_option maxRecDepth 100000 in
theorem d_M_has_27 : decode prog_9_method_7_code 27 = .ok (.goto 4, 3) := by decide +kernel
set_option maxRecDepth 100000 in
theorem d_M_has_30 : decode prog_9_method_7_code 30 = .ok (.iconst 0, 1) := by decide +kernel
set_option maxRecDepth 100000 in
theorem d_M_has_31 : decode prog_9_method_7_code 31 = .ok (.ireturn, 1) := by decide +kernel
set_option maxRecDepth 100000 in
theorem d_M_lineOf_0 : decode prog_9_method_6_code 0 = .ok (.iconst 2, 1) := by decide +kernel
set_option maxRecDepth 100000 in
theorem d_M_lineOf_1 : decode prog_9_method_6_code 1 = .ok (.iload_n 1, 1) := by decide +kernel
set_option maxRecDepth 100000 in
theorem d_M_lineOf_2 : decode prog_9_method_6_code 2 = .ok (.imul, 1) := by decide +kernel
set_option maxRecDepth 100000 in
theorem d_M_lineOf_3 : decode prog_9_method_6_code 3 = .ok (.iload_n 2, 1) := by decide +kernel
set_option maxRecDepth 100000 in
theorem d_M_lineOf_4 : decode prog_9_method_6_code 4 = .ok (.iconst 2, 1) := by decide +kernel
set_option maxRecDepth 100000 in
theorem d_M_lineOf_5 : decode prog_9_method_6_code 5 = .ok (.irem, 1) := by decide +kernel
set_option maxRecDepth 100000 in
theorem d_M_lineOf_6 : decode prog_9_method_6_code 6 = .ok (.iadd, 1) := by decide +kernel
set_option maxRecDepth 100000 in
theorem d_M_lineOf_7 : decode prog_9_method_6_code 7 = .ok (.ireturn, 1) := by decide +kernel
set_option maxRecDepth 100000 in
theorem d_M_step_0 : decode prog_9_method_18_code 0 = .ok (.aload_n 0, 1) := by decide +kernel
set_option maxRecDepth 100000 in
theorem d_M_step_1 : decode prog_9_method_18_code 1 = .ok (.iload_n 1, 1) := by decide +kernel
set_option maxRecDepth 100000 in
theorem d_M_step_2 : decode prog_9_method_18_code 2 = .ok (.invokevirtual 75, 3) := by decide +kernel
set_option maxRecDepth 100000 in
theorem d_M_step_5 : decode prog_9_method_18_code 5 = .ok (.ifCond .ne 5, 3) := by decide +kernel
set_option maxRecDepth 100000 in
theorem d_M_step_8 : decode prog_9_method_18_code 8 = .ok (.iconst 0, 1) := by decide +kernel
set_option maxRecDepth 100000 in
theorem d_M_step_9 : decode prog_9_method_18_code 9 = .ok (.ireturn, 1) := by decide +kernel
set_option maxRecDepth 100000 in
theorem d_M_step_10 : decode prog_9_method_18_code 10 = .ok (.bipush 16, 2) := by decide +kernel
set_option maxRecDepth 100000 in
theorem d_M_step_12 : decode prog_9_method_18_code 12 = .ok (.iload_n 1, 1) := by decide +kernel
set_option maxRecDepth 100000 in
theorem d_M_step_13 : decode prog_9_method_18_code 13 = .ok (.imul, 1) := by decide +kernel
set_option maxRecDepth 100000 in
theorem d_M_step_14 : decode prog_9_method_18_code 14 = .ok (.aload_n 0, 1) := by decide +kernel
set_option maxRecDepth 100000 in
theorem d_M_step_15 : decode prog_9_method_18_code 15 = .ok (.getfield 28, 3) := by decide +kernel
set_option maxRecDepth 100000 in
theorem d_M_step_18 : decode prog_9_method_18_code 18 = .ok (.iload_n 1, 1) := by decide +kernel
set_option maxRecDepth 100000 in
theorem d_M_step_19 : decode prog_9_method_18_code 19 = .ok (.iaload, 1) := by decide +kernel
set_option maxRecDepth 100000 in
theorem d_M_step_20 : decode prog_9_method_18_code 20 = .ok (.iadd, 1) := by decide +kernel
set_option maxRecDepth 100000 in
theorem d_M_step_21 : decode prog_9_method_18_code 21 = .ok (.istore_n 2, 1) := by decide +kernel
set_option maxRecDepth 100000 in
theorem d_M_step_22 : decode prog_9_method_18_code 22 = .ok (.aload_n 0, 1) := by decide +kernel
set_option maxRecDepth 100000 in
theorem d_M_step_23 : decode prog_9_method_18_code 23 = .ok (.getfield 28, 3) := by decide +kernel
set_option maxRecDepth 100000 in
theorem d_M_step_26 : decode prog_9_method_18_code 26 = .ok (.iload_n 1, 1) := by decide +kernel
set_option maxRecDepth 100000 in
theorem d_M_step_27 : decode prog_9_method_18_code 27 = .ok (.iaload, 1) := by decide +kernel
set_option maxRecDepth 100000 in
theorem d_M_step_28 : decode prog_9_method_18_code 28 = .ok (.aload_n 0, 1) := by decide +kernel
set_option maxRecDepth 100000 in
theorem d_M_step_29 : decode prog_9_method_18_code 29 = .ok (.getfield 16, 3) := by decide +kernel
set_option maxRecDepth 100000 in
theorem d_M_step_32 : decode prog_9_method_18_code 32 = .ok (.iload_n 1, 1) := by decide +kernel
set_option maxRecDepth 100000 in
theorem d_M_step_33 : decode prog_9_method_18_code 33 = .ok (.iaload, 1) := by decide +kernel
set_option maxRecDepth 100000 in
theorem d_M_step_34 : decode prog_9_method_18_code 34 = .ok (.if_icmp .ge 14, 3) := by decide +kernel
set_option maxRecDepth 100000 in
theorem d_M_step_37 : decode prog_9_method_18_code 37 = .ok (.aload_n 0, 1) := by decide +kernel
set_option maxRecDepth 100000 in
theorem d_M_step_38 : decode prog_9_method_18_code 38 = .ok (.getfield 19, 3) := by decide +kernel
set_option maxRecDepth 100000 in
theorem d_M_step_41 : decode prog_9_method_18_code 41 = .ok (.iload_n 2, 1) := by decide +kernel
set_option maxRecDepth 100000 in
theorem d_M_step_42 : decode prog_9_method_18_code 42 = .ok (.iaload, 1) := by decide +kernel
set_option maxRecDepth 100000 in
theorem d_M_step_43 : decode prog_9_method_18_code 43 = .ok (.bipush 7, 2) := by decide +kernel
set_option maxRecDepth 100000 in
theorem d_M_step_45 : decode prog_9_method_18_code 45 = .ok (.if_icmp .ne 5, 3) := by decide +kernel
set_option maxRecDepth 100000 in
theorem d_M_step_48 : decode prog_9_method_18_code 48 = .ok (.iconst 2, 1) := by decide +kernel
set_option maxRecDepth 100000 in
theorem d_M_step_49 : decode prog_9_method_18_code 49 = .ok (.ireturn, 1) := by decide +kernel
set_option maxRecDepth 100000 in
theorem d_M_step_50 : decode prog_9_method_18_code 50 = .ok (.aload_n 0, 1) := by decide +kernel
set_option maxRecDepth 100000 in
theorem d_M_step_51 : decode prog_9_method_18_code 51 = .ok (.getfield 19, 3) := by decide +kernel
set_option maxRecDepth 100000 in
theorem d_M_step_54 : decode prog_9_method_18_code 54 = .ok (.iload_n 2, 1) := by decide +kernel
set_option maxRecDepth 100000 in
theorem d_M_step_55 : decode prog_9_method_18_code 55 = .ok (.iaload, 1) := by decide +kernel
set_option maxRecDepth 100000 in
theorem d_M_step_56 : decode prog_9_method_18_code 56 = .ok (.bipush 6, 2) := by decide +kernel
set_option maxRecDepth 100000 in
theorem d_M_step_58 : decode prog_9_method_18_code 58 = .ok (.if_icmp .ne 25, 3) := by decide +kernel
set_option maxRecDepth 100000 in
theorem d_M_step_61 : decode prog_9_method_18_code 61 = .ok (.aload_n 0, 1) := by decide +kernel
set_option maxRecDepth 100000 in
theorem d_M_step_62 : decode prog_9_method_18_code 62 = .ok (.getfield 13, 3) := by decide +kernel
set_option maxRecDepth 100000 in
theorem d_M_step_65 : decode prog_9_method_18_code 65 = .ok (.iconst 4, 1) := by decide +kernel
set_option maxRecDepth 100000 in
theorem d_M_step_66 : decode prog_9_method_18_code 66 = .ok (.iload_n 1, 1) := by decide +kernel
set_option maxRecDepth 100000 in
theorem d_M_step_67 : decode prog_9_method_18_code 67 = .ok (.imul, 1) := by decide +kernel
set_option maxRecDepth 100000 in
theorem d_M_step_68 : decode prog_9_method_18_code 68 = .ok (.aload_n 0, 1) := by decide +kernel
set_option maxRecDepth 100000 in
theorem d_M_step_69 : decode prog_9_method_18_code 69 = .ok (.getfield 22, 3) := by decide +kernel
set_option maxRecDepth 100000 in
theorem d_M_step_72 : decode prog_9_method_18_code 72 = .ok (.iload_n 2, 1) := by decide +kernel
set_option maxRecDepth 100000 in
theorem d_M_step_73 : decode prog_9_method_18_code 73 = .ok (.iaload, 1) := by decide +kernel
set_option maxRecDepth 100000 in
theorem d_M_step_74 : decode prog_9_method_18_code 74 = .ok (.iadd, 1) := by decide +kernel
set_option maxRecDepth 100000 in
theorem d_M_step_75 : decode prog_9_method_18_code 75 = .ok (.iaload, 1) := by decide +kernel
set_option maxRecDepth 100000 in
theorem d_M_step_76 : decode prog_9_method_18_code 76 = .ok (.ifCond .eq 7, 3) := by decide +kernel
set_option maxRecDepth 100000 in
theorem d_M_step_79 : decode prog_9_method_18_code 79 = .ok (.iconst 1, 1) := by decide +kernel
set_option maxRecDepth 100000 in
theorem d_M_step_80 : decode prog_9_method_18_code 80 = .ok (.goto 4, 3) := by decide +kernel
set_option maxRecDepth 100000 in
theorem d_M_step_83 : decode prog_9_method_18_code 83 = .ok (.iconst 0, 1) := by decide +kernel
set_option maxRecDepth 100000 in
theorem d_M_step_84 : decode prog_9_method_18_code 84 = .ok (.istore_n 3, 1) := by decide +kernel
set_option maxRecDepth 100000 in
theorem d_M_step_85 : decode prog_9_method_18_code 85 = .ok (.aload_n 0, 1) := by decide +kernel
set_option maxRecDepth 100000 in
theorem d_M_step_86 : decode prog_9_method_18_code 86 = .ok (.iload_n 1, 1) := by decide +kernel
set_option maxRecDepth 100000 in
theorem d_M_step_87 : decode prog_9_method_18_code 87 = .ok (.aload_n 0, 1) := by decide +kernel
set_option maxRecDepth 100000 in
theorem d_M_step_88 : decode prog_9_method_18_code 88 = .ok (.getfield 19, 3) := by decide +kernel
set_option maxRecDepth 100000 in
theorem d_M_step_91 : decode prog_9_method_18_code 91 = .ok (.iload_n 2, 1) := by decide +kernel
set_option maxRecDepth 100000 in
theorem d_M_step_92 : decode prog_9_method_18_code 92 = .ok (.iaload, 1) := by decide +kernel
set_option maxRecDepth 100000 in
theorem d_M_step_93 : decode prog_9_method_18_code 93 = .ok (.aload_n 0, 1) := by decide +kernel
set_option maxRecDepth 100000 in
theorem d_M_step_94 : decode prog_9_method_18_code 94 = .ok (.getfield 22, 3) := by decide +kernel
set_option maxRecDepth 100000 in
theorem d_M_step_97 : decode prog_9_method_18_code 97 = .ok (.iload_n 2, 1) := by decide +kernel
set_option maxRecDepth 100000 in
theorem d_M_step_98 : decode prog_9_method_18_code 98 = .ok (.iaload, 1) := by decide +kernel
set_option maxRecDepth 100000 in
theorem d_M_step_99 : decode prog_9_method_18_code 99 = .ok (.aload_n 0, 1) := by decide +kernel
set_option maxRecDepth 100000 in
theorem d_M_step_100 : decode prog_9_method_18_code 100 = .ok (.getfield 25, 3) := by decide +kernel
set_option maxRecDepth 100000 in
theorem d_M_step_103 : decode prog_9_method_18_code 103 = .ok (.iload_n 2, 1) := by decide +kernel
set_option maxRecDepth 100000 in
theorem d_M_step_104 : decode prog_9_method_18_code 104 = .ok (.iaload, 1) := by decide +kernel
set_option maxRecDepth 100000 in
theorem d_M_step_105 : decode prog_9_method_18_code 105 = .ok (.invokevirtual 114, 3) := by decide +kernel
set_option maxRecDepth 100000 in
theorem d_M_step_108 : decode prog_9_method_18_code 108 = .ok (.istore 4, 2) := by decide +kernel
set_option maxRecDepth 100000 in
theorem d_M_step_110 : decode prog_9_method_18_code 110 = .ok (.aload_n 0, 1) := by decide +kernel
set_option maxRecDepth 100000 in
theorem d_M_step_111 : decode prog_9_method_18_code 111 = .ok (.getfield 28, 3) := by decide +kernel
set_option maxRecDepth 100000 in
theorem d_M_step_114 : decode prog_9_method_18_code 114 = .ok (.iload_n 1, 1) := by decide +kernel
set_option maxRecDepth 100000 in
theorem d_M_step_115 : decode prog_9_method_18_code 115 = .ok (.iload_n 3, 1) := by decide +kernel
set_option maxRecDepth 100000 in
theorem d_M_step_116 : decode prog_9_method_18_code 116 = .ok (.ifCond .eq 12, 3) := by decide +kernel
set_option maxRecDepth 100000 in
theorem d_M_step_119 : decode prog_9_method_18_code 119 = .ok (.aload_n 0, 1) := by decide +kernel
set_option maxRecDepth 100000 in
theorem d_M_step_120 : decode prog_9_method_18_code 120 = .ok (.getfield 25, 3) := by decide +kernel
set_option maxRecDepth 100000 in
theorem d_M_step_123 : decode prog_9_method_18_code 123 = .ok (.iload_n 2, 1) := by decide +kernel
set_option maxRecDepth 100000 in
theorem d_M_step_124 : decode prog_9_method_18_code 124 = .ok (.iaload, 1) := by decide +kernel
set_option maxRecDepth 100000 in
theorem d_M_step_125 : decode prog_9_method_18_code 125 = .ok (.goto 26, 3) := by decide +kernel
set_option maxRecDepth 100000 in
theorem d_M_step_128 : decode prog_9_method_18_code 128 = .ok (.iload 4, 2) := by decide +kernel
set_option maxRecDepth 100000 in
theorem d_M_step_130 : decode prog_9_method_18_code 130 = .ok (.iconst 1, 1) := by decide +kernel
set_option maxRecDepth 100000 in
theorem d_M_step_131 : decode prog_9_method_18_code 131 = .ok (.if_icmp .ne 14, 3) := by decide +kernel
set_option maxRecDepth 100000 in
theorem d_M_step_134 : decode prog_9_method_18_code 134 = .ok (.aload_n 0, 1) := by decide +kernel
set_option maxRecDepth 100000 in
theorem d_M_step_135 : decode prog_9_method_18_code 135 = .ok (.getfield 28, 3) := by decide +kernel
set_option maxRecDepth 100000 in
theorem d_M_step_138 : decode prog_9_method_18_code 138 = .ok (.iload_n 1, 1) := by decide +kernel
set_option maxRecDepth 100000 in
theorem d_M_step_139 : decode prog_9_method_18_code 139 = .ok (.iaload, 1) := by decide +kernel
set_option maxRecDepth 100000 in
theorem d_M_step_140 : decode prog_9_method_18_code 140 = .ok (.iconst 1, 1) := by decide +kernel
set_option maxRecDepth 100000 in
theorem d_M_step_141 : decode prog_9_method_18_code 141 = .ok (.iadd, 1) := by decide +kernel
set_option maxRecDepth 100000 in
theorem d_M_step_142 : decode prog_9_method_18_code 142 = .ok (.goto 9, 3) := by decide +kernel
set_option maxRecDepth 100000 in
theorem d_M_step_145 : decode prog_9_method_18_code 145 = .ok (.aload_n 0, 1) := by decide +kernel
set_option maxRecDepth 100000 in
theorem d_M_step_146 : decode prog_9_method_18_code 146 = .ok (.getfield 28, 3) := by decide +kernel
set_option maxRecDepth 100000 in
theorem d_M_step_149 : decode prog_9_method_18_code 149 = .ok (.iload_n 1, 1) := by decide +kernel
set_option maxRecDepth 100000 in
theorem d_M_step_150 : decode prog_9_method_18_code 150 = .ok (.iaload, 1) := by decide +kernel
set_option maxRecDepth 100000 in
theorem d_M_step_151 : decode prog_9_method_18_code 151 = .ok (.iastore, 1) := by decide +kernel
set_option maxRecDepth 100000 in
theorem d_M_step_152 : decode prog_9_method_18_code 152 = .ok (.iload 4, 2) := by decide +kernel
set_option maxRecDepth 100000 in
theorem d_M_step_154 : decode prog_9_method_18_code 154 = .ok (.ireturn, 1) := by decide +kernel
set_option maxRecDepth 100000 in
theorem d_M_act_0 : decode prog_9_method_17_code 0 = .ok (.iload_n 2, 1) := by decide +kernel
set_option maxRecDepth 100000 in
theorem d_M_act_1 : decode prog_9_method_17_code 1 = .ok (.tableswitch 129 0 5 #[39, 48, 57, 72, 81, 115], 39) := by decide +kernel
set_option maxRecDepth 100000 in
theorem d_M_act_40 : decode prog_9_method_17_code 40 = .ok (.aload_n 0, 1) := by decide +kernel
set_option maxRecDepth 100000 in
theorem d_M_act_41 : decode prog_9_method_17_code 41 = .ok (.iload_n 1, 1) := by decide +kernel
set_option maxRecDepth 100000 in
theorem d_M_act_42 : decode prog_9_method_17_code 42 = .ok (.iload_n 3, 1) := by decide +kernel
set_option maxRecDepth 100000 in
theorem d_M_act_43 : decode prog_9_method_17_code 43 = .ok (.iload 4, 2) := by decide +kernel
set_option maxRecDepth 100000 in
theorem d_M_act_45 : decode prog_9_method_17_code 45 = .ok (.invokevirtual 104, 3) := by decide +kernel
set_option maxRecDepth 100000 in
theorem d_M_act_48 : decode prog_9_method_17_code 48 = .ok (.ireturn, 1) := by decide +kernel
set_option maxRecDepth 100000 in
theorem d_M_act_49 : decode prog_9_method_17_code 49 = .ok (.aload_n 0, 1) := by decide +kernel
set_option maxRecDepth 100000 in
theorem d_M_act_50 : decode prog_9_method_17_code 50 = .ok (.iload_n 1, 1) := by decide +kernel
set_option maxRecDepth 100000 in
theorem d_M_act_51 : decode prog_9_method_17_code 51 = .ok (.iload_n 3, 1) := by decide +kernel
set_option maxRecDepth 100000 in
theorem d_M_act_52 : decode prog_9_method_17_code 52 = .ok (.iload 4, 2) := by decide +kernel
set_option maxRecDepth 100000 in
theorem d_M_act_54 : decode prog_9_method_17_code 54 = .ok (.invokevirtual 108, 3) := by decide +kernel
set_option maxRecDepth 100000 in
theorem d_M_act_57 : decode prog_9_method_17_code 57 = .ok (.ireturn, 1) := by decide +kernel
set_option maxRecDepth 100000 in
theorem d_M_act_58 : decode prog_9_method_17_code 58 = .ok (.aload_n 0, 1) := by decide +kernel
set_option maxRecDepth 100000 in
theorem d_M_act_59 : decode prog_9_method_17_code 59 = .ok (.getfield 31, 3) := by decide +kernel
set_option maxRecDepth 100000 in
theorem d_M_act_62 : decode prog_9_method_17_code 62 = .ok (.iload_n 1, 1) := by decide +kernel
set_option maxRecDepth 100000 in
theorem d_M_act_63 : decode prog_9_method_17_code 63 = .ok (.iaload, 1) := by decide +kernel
set_option maxRecDepth 100000 in
theorem d_M_act_64 : decode prog_9_method_17_code 64 = .ok (.ifCond .ne 7, 3) := by decide +kernel
set_option maxRecDepth 100000 in
theorem d_M_act_67 : decode prog_9_method_17_code 67 = .ok (.iconst 1, 1) := by decide +kernel
set_option maxRecDepth 100000 in
theorem d_M_act_68 : decode prog_9_method_17_code 68 = .ok (.goto 4, 3) := by decide +kernel
set_option maxRecDepth 100000 in
theorem d_M_act_71 : decode prog_9_method_17_code 71 = .ok (.iconst 0, 1) := by decide +kernel
set_option maxRecDepth 100000 in
theorem d_M_act_72 : decode prog_9_method_17_code 72 = .ok (.ireturn, 1) := by decide +kernel
set_option maxRecDepth 100000 in
theorem d_M_act_73 : decode prog_9_method_17_code 73 = .ok (.aload_n 0, 1) := by decide +kernel
set_option maxRecDepth 100000 in
theorem d_M_act_74 : decode prog_9_method_17_code 74 = .ok (.iload_n 1, 1) := by decide +kernel
set_option maxRecDepth 100000 in
theorem d_M_act_75 : decode prog_9_method_17_code 75 = .ok (.iload_n 3, 1) := by decide +kernel
set_option maxRecDepth 100000 in
theorem d_M_act_76 : decode prog_9_method_17_code 76 = .ok (.iload 4, 2) := by decide +kernel
set_option maxRecDepth 100000 in
theorem d_M_act_78 : decode prog_9_method_17_code 78 = .ok (.invokevirtual 111, 3) := by decide +kernel
set_option maxRecDepth 100000 in
theorem d_M_act_81 : decode prog_9_method_17_code 81 = .ok (.ireturn, 1) := by decide +kernel
set_option maxRecDepth 100000 in
theorem d_M_act_82 : decode prog_9_method_17_code 82 = .ok (.aload_n 0, 1) := by decide +kernel
set_option maxRecDepth 100000 in
theorem d_M_act_83 : decode prog_9_method_17_code 83 = .ok (.getfield 13, 3) := by decide +kernel
set_option maxRecDepth 100000 in
theorem d_M_act_86 : decode prog_9_method_17_code 86 = .ok (.iconst 4, 1) := by decide +kernel
set_option maxRecDepth 100000 in
theorem d_M_act_87 : decode prog_9_method_17_code 87 = .ok (.iload_n 1, 1) := by decide +kernel
set_option maxRecDepth 100000 in
theorem d_M_act_88 : decode prog_9_method_17_code 88 = .ok (.imul, 1) := by decide +kernel
set_option maxRecDepth 100000 in
theorem d_M_act_89 : decode prog_9_method_17_code 89 = .ok (.iload_n 3, 1) := by decide +kernel
set_option maxRecDepth 100000 in
theorem d_M_act_90 : decode prog_9_method_17_code 90 = .ok (.iadd, 1) := by decide +kernel
set_option maxRecDepth 100000 in
theorem d_M_act_91 : decode prog_9_method_17_code 91 = .ok (.aload_n 0, 1) := by decide +kernel
set_option maxRecDepth 100000 in
theorem d_M_act_92 : decode prog_9_method_17_code 92 = .ok (.getfield 13, 3) := by decide +kernel
set_option maxRecDepth 100000 in
theorem d_M_act_95 : decode prog_9_method_17_code 95 = .ok (.iconst 4, 1) := by decide +kernel
set_option maxRecDepth 100000 in
theorem d_M_act_96 : decode prog_9_method_17_code 96 = .ok (.iload_n 1, 1) := by decide +kernel
set_option maxRecDepth 100000 in
theorem d_M_act_97 : decode prog_9_method_17_code 97 = .ok (.imul, 1) := by decide +kernel
set_option maxRecDepth 100000 in
theorem d_M_act_98 : decode prog_9_method_17_code 98 = .ok (.iload_n 3, 1) := by decide +kernel
set_option maxRecDepth 100000 in
theorem d_M_act_99 : decode prog_9_method_17_code 99 = .ok (.iadd, 1) := by decide +kernel
set_option maxRecDepth 100000 in
theorem d_M_act_100 : decode prog_9_method_17_code 100 = .ok (.iaload, 1) := by decide +kernel
set_option maxRecDepth 100000 in
theorem d_M_act_101 : decode prog_9_method_17_code 101 = .ok (.aload_n 0, 1) := by decide +kernel
set_option maxRecDepth 100000 in
theorem d_M_act_102 : decode prog_9_method_17_code 102 = .ok (.getfield 13, 3) := by decide +kernel
set_option maxRecDepth 100000 in
theorem d_M_act_105 : decode prog_9_method_17_code 105 = .ok (.iconst 4, 1) := by decide +kernel
set_option maxRecDepth 100000 in
theorem d_M_act_106 : decode prog_9_method_17_code 106 = .ok (.iload_n 1, 1) := by decide +kernel
set_option maxRecDepth 100000 in
theorem d_M_act_107 : decode prog_9_method_17_code 107 = .ok (.imul, 1) := by decide +kernel
set_option maxRecDepth 100000 in
theorem d_M_act_108 : decode prog_9_method_17_code 108 = .ok (.iload 4, 2) := by decide +kernel
set_option maxRecDepth 100000 in
theorem d_M_act_110 : decode prog_9_method_17_code 110 = .ok (.iadd, 1) := by decide +kernel
set_option maxRecDepth 100000 in
theorem d_M_act_111 : decode prog_9_method_17_code 111 = .ok (.iaload, 1) := by decide +kernel
set_option maxRecDepth 100000 in
theorem d_M_act_112 : decode prog_9_method_17_code 112 = .ok (.iadd, 1) := by decide +kernel
set_option maxRecDepth 100000 in
theorem d_M_act_113 : decode prog_9_method_17_code 113 = .ok (.iastore, 1) := by decide +kernel
set_option maxRecDepth 100000 in
theorem d_M_act_114 : decode prog_9_method_17_code 114 = .ok (.iconst 1, 1) := by decide +kernel
set_option maxRecDepth 100000 in
theorem d_M_act_115 : decode prog_9_method_17_code 115 = .ok (.ireturn, 1) := by decide +kernel
set_option maxRecDepth 100000 in
theorem d_M_act_116 : decode prog_9_method_17_code 116 = .ok (.aload_n 0, 1) := by decide +kernel
set_option maxRecDepth 100000 in
theorem d_M_act_117 : decode prog_9_method_17_code 117 = .ok (.getfield 13, 3) := by decide +kernel
set_option maxRecDepth 100000 in
theorem d_M_act_120 : decode prog_9_method_17_code 120 = .ok (.iconst 4, 1) := by decide +kernel
set_option maxRecDepth 100000 in
theorem d_M_act_121 : decode prog_9_method_17_code 121 = .ok (.iload_n 1, 1) := by decide +kernel
set_option maxRecDepth 100000 in
theorem d_M_act_122 : decode prog_9_method_17_code 122 = .ok (.imul, 1) := by decide +kernel
set_option maxRecDepth 100000 in
theorem d_M_act_123 : decode prog_9_method_17_code 123 = .ok (.iload_n 3, 1) := by decide +kernel
set_option maxRecDepth 100000 in
theorem d_M_act_124 : decode prog_9_method_17_code 124 = .ok (.iadd, 1) := by decide +kernel
set_option maxRecDepth 100000 in
theorem d_M_act_125 : decode prog_9_method_17_code 125 = .ok (.iload 4, 2) := by decide +kernel
set_option maxRecDepth 100000 in
theorem d_M_act_127 : decode prog_9_method_17_code 127 = .ok (.iastore, 1) := by decide +kernel
set_option maxRecDepth 100000 in
theorem d_M_act_128 : decode prog_9_method_17_code 128 = .ok (.iconst 1, 1) := by decide +kernel
set_option maxRecDepth 100000 in
theorem d_M_act_129 : decode prog_9_method_17_code 129 = .ok (.ireturn, 1) := by decide +kernel
set_option maxRecDepth 100000 in
theorem d_M_act_130 : decode prog_9_method_17_code 130 = .ok (.iconst 1, 1) := by decide +kernel
set_option maxRecDepth 100000 in
theorem d_M_act_131 : decode prog_9_method_17_code 131 = .ok (.ireturn, 1) := by decide +kernel
set_option maxRecDepth 100000 in
theorem d_M_load_0 : decode prog_9_method_14_code 0 = .ok (.aload_n 0, 1) := by decide +kernel
set_option maxRecDepth 100000 in
theorem d_M_load_1 : decode prog_9_method_14_code 1 = .ok (.getfield 13, 3) := by decide +kernel
set_option maxRecDepth 100000 in
theorem d_M_load_4 : decode prog_9_method_14_code 4 = .ok (.iconst 4, 1) := by decide +kernel
set_option maxRecDepth 100000 in
theorem d_M_load_5 : decode prog_9_method_14_code 5 = .ok (.iload_n 1, 1) := by decide +kernel
set_option maxRecDepth 100000 in
theorem d_M_load_6 : decode prog_9_method_14_code 6 = .ok (.imul, 1) := by decide +kernel
set_option maxRecDepth 100000 in
theorem d_M_load_7 : decode prog_9_method_14_code 7 = .ok (.iload_n 3, 1) := by decide +kernel
set_option maxRecDepth 100000 in
theorem d_M_load_8 : decode prog_9_method_14_code 8 = .ok (.iadd, 1) := by decide +kernel
set_option maxRecDepth 100000 in
theorem d_M_load_9 : decode prog_9_method_14_code 9 = .ok (.iaload, 1) := by decide +kernel
set_option maxRecDepth 100000 in
theorem d_M_load_10 : decode prog_9_method_14_code 10 = .ok (.bipush 7, 2) := by decide +kernel
set_option maxRecDepth 100000 in
theorem d_M_load_12 : decode prog_9_method_14_code 12 = .ok (.iand, 1) := by decide +kernel
set_option maxRecDepth 100000 in
theorem d_M_load_13 : decode prog_9_method_14_code 13 = .ok (.istore 4, 2) := by decide +kernel
set_option maxRecDepth 100000 in
theorem d_M_load_15 : decode prog_9_method_14_code 15 = .ok (.iconst (-1), 1) := by decide +kernel
set_option maxRecDepth 100000 in
theorem d_M_load_16 : decode prog_9_method_14_code 16 = .ok (.istore 5, 2) := by decide +kernel
set_option maxRecDepth 100000 in
theorem d_M_load_18 : decode prog_9_method_14_code 18 = .ok (.iconst 0, 1) := by decide +kernel
set_option maxRecDepth 100000 in
theorem d_M_load_19 : decode prog_9_method_14_code 19 = .ok (.istore 6, 2) := by decide +kernel
set_option maxRecDepth 100000 in
theorem d_M_load_21 : decode prog_9_method_14_code 21 = .ok (.iload 6, 2) := by decide +kernel
set_option maxRecDepth 100000 in
theorem d_M_load_23 : decode prog_9_method_14_code 23 = .ok (.aload_n 0, 1) := by decide +kernel
set_option maxRecDepth 100000 in
theorem d_M_load_24 : decode prog_9_method_14_code 24 = .ok (.getfield 31, 3) := by decide +kernel
set_option maxRecDepth 100000 in
theorem d_M_load_27 : decode prog_9_method_14_code 27 = .ok (.iload_n 1, 1) := by decide +kernel
set_option maxRecDepth 100000 in
theorem d_M_load_28 : decode prog_9_method_14_code 28 = .ok (.iaload, 1) := by decide +kernel
set_option maxRecDepth 100000 in
theorem d_M_load_29 : decode prog_9_method_14_code 29 = .ok (.if_icmp .ge 34, 3) := by decide +kernel
set_option maxRecDepth 100000 in
theorem d_M_load_32 : decode prog_9_method_14_code 32 = .ok (.aload_n 0, 1) := by decide +kernel
set_option maxRecDepth 100000 in
theorem d_M_load_33 : decode prog_9_method_14_code 33 = .ok (.getfield 34, 3) := by decide +kernel
set_option maxRecDepth 100000 in
theorem d_M_load_36 : decode prog_9_method_14_code 36 = .ok (.iconst 4, 1) := by decide +kernel
set_option maxRecDepth 100000 in
theorem d_M_load_37 : decode prog_9_method_14_code 37 = .ok (.iload_n 1, 1) := by decide +kernel
set_option maxRecDepth 100000 in
theorem d_M_load_38 : decode prog_9_method_14_code 38 = .ok (.imul, 1) := by decide +kernel
set_option maxRecDepth 100000 in
theorem d_M_load_39 : decode prog_9_method_14_code 39 = .ok (.iload 6, 2) := by decide +kernel
set_option maxRecDepth 100000 in
theorem d_M_load_41 : decode prog_9_method_14_code 41 = .ok (.iadd, 1) := by decide +kernel
set_option maxRecDepth 100000 in
theorem d_M_load_42 : decode prog_9_method_14_code 42 = .ok (.iaload, 1) := by decide +kernel
set_option maxRecDepth 100000 in
theorem d_M_load_43 : decode prog_9_method_14_code 43 = .ok (.iload 4, 2) := by decide +kernel
set_option maxRecDepth 100000 in
theorem d_M_load_45 : decode prog_9_method_14_code 45 = .ok (.if_icmp .ne 8, 3) := by decide +kernel
set_option maxRecDepth 100000 in
theorem d_M_load_48 : decode prog_9_method_14_code 48 = .ok (.iload 6, 2) := by decide +kernel
set_option maxRecDepth 100000 in
theorem d_M_load_50 : decode prog_9_method_14_code 50 = .ok (.goto 5, 3) := by decide +kernel
set_option maxRecDepth 100000 in
theorem d_M_load_53 : decode prog_9_method_14_code 53 = .ok (.iload 5, 2) := by decide +kernel
set_option maxRecDepth 100000 in
theorem d_M_load_55 : decode prog_9_method_14_code 55 = .ok (.istore 5, 2) := by decide +kernel
set_option maxRecDepth 100000 in
theorem d_M_load_57 : decode prog_9_method_14_code 57 = .ok (.iinc 6 1, 3) := by decide +kernel
set_option maxRecDepth 100000 in
theorem d_M_load_60 : decode prog_9_method_14_code 60 = .ok (.goto (-39), 3) := by decide +kernel
set_option maxRecDepth 100000 in
theorem d_M_load_63 : decode prog_9_method_14_code 63 = .ok (.iload 5, 2) := by decide +kernel
set_option maxRecDepth 100000 in
theorem d_M_load_65 : decode prog_9_method_14_code 65 = .ok (.ifCond .ge 23, 3) := by decide +kernel
set_option maxRecDepth 100000 in
theorem d_M_load_68 : decode prog_9_method_14_code 68 = .ok (.aload_n 0, 1) := by decide +kernel
set_option maxRecDepth 100000 in
theorem d_M_load_69 : decode prog_9_method_14_code 69 = .ok (.iload_n 1, 1) := by decide +kernel
set_option maxRecDepth 100000 in
theorem d_M_load_70 : decode prog_9_method_14_code 70 = .ok (.iload 4, 2) := by decide +kernel
set_option maxRecDepth 100000 in
theorem d_M_load_72 : decode prog_9_method_14_code 72 = .ok (.invokevirtual 86, 3) := by decide +kernel
set_option maxRecDepth 100000 in
theorem d_M_load_75 : decode prog_9_method_14_code 75 = .ok (.ifCond .ne 13, 3) := by decide +kernel
set_option maxRecDepth 100000 in
theorem d_M_load_78 : decode prog_9_method_14_code 78 = .ok (.aload_n 0, 1) := by decide +kernel
set_option maxRecDepth 100000 in
theorem d_M_load_79 : decode prog_9_method_14_code 79 = .ok (.iload_n 1, 1) := by decide +kernel
set_option maxRecDepth 100000 in
theorem d_M_load_80 : decode prog_9_method_14_code 80 = .ok (.iload 4, 2) := by decide +kernel
set_option maxRecDepth 100000 in
theorem d_M_load_82 : decode prog_9_method_14_code 82 = .ok (.iconst 0, 1) := by decide +kernel
set_option maxRecDepth 100000 in
theorem d_M_load_83 : decode prog_9_method_14_code 83 = .ok (.invokevirtual 93, 3) := by decide +kernel
set_option maxRecDepth 100000 in
theorem d_M_load_86 : decode prog_9_method_14_code 86 = .ok (.iconst 0, 1) := by decide +kernel
set_option maxRecDepth 100000 in
theorem d_M_load_87 : decode prog_9_method_14_code 87 = .ok (.ireturn, 1) := by decide +kernel
set_option maxRecDepth 100000 in
theorem d_M_load_88 : decode prog_9_method_14_code 88 = .ok (.iload 5, 2) := by decide +kernel
set_option maxRecDepth 100000 in
theorem d_M_load_90 : decode prog_9_method_14_code 90 = .ok (.ifCond .lt 17, 3) := by decide +kernel
set_option maxRecDepth 100000 in
theorem d_M_load_93 : decode prog_9_method_14_code 93 = .ok (.aload_n 0, 1) := by decide +kernel
set_option maxRecDepth 100000 in
theorem d_M_load_94 : decode prog_9_method_14_code 94 = .ok (.getfield 37, 3) := by decide +kernel
set_option maxRecDepth 100000 in
theorem d_M_load_97 : decode prog_9_method_14_code 97 = .ok (.iconst 4, 1) := by decide +kernel
set_option maxRecDepth 100000 in
theorem d_M_load_98 : decode prog_9_method_14_code 98 = .ok (.iload_n 1, 1) := by decide +kernel
set_option maxRecDepth 100000 in
theorem d_M_load_99 : decode prog_9_method_14_code 99 = .ok (.imul, 1) := by decide +kernel
set_option maxRecDepth 100000 in
theorem d_M_load_100 : decode prog_9_method_14_code 100 = .ok (.iload 5, 2) := by decide +kernel
set_option maxRecDepth 100000 in
theorem d_M_load_102 : decode prog_9_method_14_code 102 = .ok (.iadd, 1) := by decide +kernel
set_option maxRecDepth 100000 in
theorem d_M_load_103 : decode prog_9_method_14_code 103 = .ok (.iaload, 1) := by decide +kernel
set_option maxRecDepth 100000 in
theorem d_M_load_104 : decode prog_9_method_14_code 104 = .ok (.goto 15, 3) := by decide +kernel
set_option maxRecDepth 100000 in
theorem d_M_load_107 : decode prog_9_method_14_code 107 = .ok (.aload_n 0, 1) := by decide +kernel
set_option maxRecDepth 100000 in
theorem d_M_load_108 : decode prog_9_method_14_code 108 = .ok (.getfield 46, 3) := by decide +kernel
set_option maxRecDepth 100000 in
theorem d_M_load_111 : decode prog_9_method_14_code 111 = .ok (.aload_n 0, 1) := by decide +kernel
set_option maxRecDepth 100000 in
theorem d_M_load_112 : decode prog_9_method_14_code 112 = .ok (.iload_n 1, 1) := by decide +kernel
set_option maxRecDepth 100000 in
theorem d_M_load_113 : decode prog_9_method_14_code 113 = .ok (.iload 4, 2) := by decide +kernel
set_option maxRecDepth 100000 in
theorem d_M_load_115 : decode prog_9_method_14_code 115 = .ok (.invokevirtual 82, 3) := by decide +kernel
set_option maxRecDepth 100000 in
theorem d_M_load_118 : decode prog_9_method_14_code 118 = .ok (.iaload, 1) := by decide +kernel
set_option maxRecDepth 100000 in
theorem d_M_load_119 : decode prog_9_method_14_code 119 = .ok (.istore 6, 2) := by decide +kernel
set_option maxRecDepth 100000 in
theorem d_M_load_121 : decode prog_9_method_14_code 121 = .ok (.aload_n 0, 1) := by decide +kernel
set_option maxRecDepth 100000 in
theorem d_M_load_122 : decode prog_9_method_14_code 122 = .ok (.getfield 13, 3) := by decide +kernel
set_option maxRecDepth 100000 in
theorem d_M_load_125 : decode prog_9_method_14_code 125 = .ok (.iconst 4, 1) := by decide +kernel
set_option maxRecDepth 100000 in
theorem d_M_load_126 : decode prog_9_method_14_code 126 = .ok (.iload_n 1, 1) := by decide +kernel
set_option maxRecDepth 100000 in
theorem d_M_load_127 : decode prog_9_method_14_code 127 = .ok (.imul, 1) := by decide +kernel
set_option maxRecDepth 100000 in
theorem d_M_load_128 : decode prog_9_method_14_code 128 = .ok (.iload_n 2, 1) := by decide +kernel
set_option maxRecDepth 100000 in
theorem d_M_load_129 : decode prog_9_method_14_code 129 = .ok (.iadd, 1) := by decide +kernel
set_option maxRecDepth 100000 in
theorem d_M_load_130 : decode prog_9_method_14_code 130 = .ok (.iload 6, 2) := by decide +kernel
set_option maxRecDepth 100000 in
theorem d_M_load_132 : decode prog_9_method_14_code 132 = .ok (.iastore, 1) := by decide +kernel
set_option maxRecDepth 100000 in
theorem d_M_load_133 : decode prog_9_method_14_code 133 = .ok (.aload_n 0, 1) := by decide +kernel
set_option maxRecDepth 100000 in
theorem d_M_load_134 : decode prog_9_method_14_code 134 = .ok (.iconst 0, 1) := by decide +kernel
set_option maxRecDepth 100000 in
theorem d_M_load_135 : decode prog_9_method_14_code 135 = .ok (.iload_n 1, 1) := by decide +kernel
set_option maxRecDepth 100000 in
theorem d_M_load_136 : decode prog_9_method_14_code 136 = .ok (.iload 4, 2) := by decide +kernel
set_option maxRecDepth 100000 in
theorem d_M_load_138 : decode prog_9_method_14_code 138 = .ok (.iload 6, 2) := by decide +kernel
set_option maxRecDepth 100000 in
theorem d_M_load_140 : decode prog_9_method_14_code 140 = .ok (.invokevirtual 97, 3) := by decide +kernel
set_option maxRecDepth 100000 in
theorem d_M_load_143 : decode prog_9_method_14_code 143 = .ok (.iconst 1, 1) := by decide +kernel
set_option maxRecDepth 100000 in
theorem d_M_load_144 : decode prog_9_method_14_code 144 = .ok (.ireturn, 1) := by decide +kernel
set_option maxRecDepth 100000 in
theorem d_M_ask_0 : decode prog_9_method_11_code 0 = .ok (.aload_n 0, 1) := by decide +kernel
set_option maxRecDepth 100000 in
theorem d_M_ask_1 : decode prog_9_method_11_code 1 = .ok (.getfield 49, 3) := by decide +kernel
set_option maxRecDepth 100000 in
theorem d_M_ask_4 : decode prog_9_method_11_code 4 = .ok (.iload_n 1, 1) := by decide +kernel
set_option maxRecDepth 100000 in
theorem d_M_ask_5 : decode prog_9_method_11_code 5 = .ok (.iaload, 1) := by decide +kernel
set_option maxRecDepth 100000 in
theorem d_M_ask_6 : decode prog_9_method_11_code 6 = .ok (.ifCond .ne 32, 3) := by decide +kernel
set_option maxRecDepth 100000 in
theorem d_M_ask_9 : decode prog_9_method_11_code 9 = .ok (.aload_n 0, 1) := by decide +kernel
set_option maxRecDepth 100000 in
theorem d_M_ask_10 : decode prog_9_method_11_code 10 = .ok (.getfield 49, 3) := by decide +kernel
set_option maxRecDepth 100000 in
theorem d_M_ask_13 : decode prog_9_method_11_code 13 = .ok (.iload_n 1, 1) := by decide +kernel
set_option maxRecDepth 100000 in
theorem d_M_ask_14 : decode prog_9_method_11_code 14 = .ok (.iload_n 3, 1) := by decide +kernel
set_option maxRecDepth 100000 in
theorem d_M_ask_15 : decode prog_9_method_11_code 15 = .ok (.ifCond .eq 7, 3) := by decide +kernel
set_option maxRecDepth 100000 in
theorem d_M_ask_18 : decode prog_9_method_11_code 18 = .ok (.iconst 2, 1) := by decide +kernel
set_option maxRecDepth 100000 in
theorem d_M_ask_19 : decode prog_9_method_11_code 19 = .ok (.goto 4, 3) := by decide +kernel
set_option maxRecDepth 100000 in
theorem d_M_ask_22 : decode prog_9_method_11_code 22 = .ok (.iconst 1, 1) := by decide +kernel
set_option maxRecDepth 100000 in
theorem d_M_ask_23 : decode prog_9_method_11_code 23 = .ok (.iastore, 1) := by decide +kernel
set_option maxRecDepth 100000 in
theorem d_M_ask_24 : decode prog_9_method_11_code 24 = .ok (.aload_n 0, 1) := by decide +kernel
set_option maxRecDepth 100000 in
theorem d_M_ask_25 : decode prog_9_method_11_code 25 = .ok (.getfield 52, 3) := by decide +kernel
set_option maxRecDepth 100000 in
theorem d_M_ask_28 : decode prog_9_method_11_code 28 = .ok (.iload_n 1, 1) := by decide +kernel
set_option maxRecDepth 100000 in
theorem d_M_ask_29 : decode prog_9_method_11_code 29 = .ok (.iload_n 2, 1) := by decide +kernel
set_option maxRecDepth 100000 in
theorem d_M_ask_30 : decode prog_9_method_11_code 30 = .ok (.iastore, 1) := by decide +kernel
set_option maxRecDepth 100000 in
theorem d_M_ask_31 : decode prog_9_method_11_code 31 = .ok (.aload_n 0, 1) := by decide +kernel
set_option maxRecDepth 100000 in
theorem d_M_ask_32 : decode prog_9_method_11_code 32 = .ok (.getfield 55, 3) := by decide +kernel
set_option maxRecDepth 100000 in
theorem d_M_ask_35 : decode prog_9_method_11_code 35 = .ok (.iload_n 1, 1) := by decide +kernel
set_option maxRecDepth 100000 in
theorem d_M_ask_36 : decode prog_9_method_11_code 36 = .ok (.iconst 0, 1) := by decide +kernel
set_option maxRecDepth 100000 in
theorem d_M_ask_37 : decode prog_9_method_11_code 37 = .ok (.bastore, 1) := by decide +kernel
set_option maxRecDepth 100000 in
theorem d_M_ask_38 : decode prog_9_method_11_code 38 = .ok (.return_, 1) := by decide +kernel
set_option maxRecDepth 100000 in
theorem d_M_note_0 : decode prog_9_method_12_code 0 = .ok (.aload_n 0, 1) := by decide +kernel
set_option maxRecDepth 100000 in
theorem d_M_note_1 : decode prog_9_method_12_code 1 = .ok (.getfield 62, 3) := by decide +kernel
set_option maxRecDepth 100000 in
theorem d_M_note_4 : decode prog_9_method_12_code 4 = .ok (.aload_n 0, 1) := by decide +kernel
set_option maxRecDepth 100000 in
theorem d_M_note_5 : decode prog_9_method_12_code 5 = .ok (.getfield 90, 3) := by decide +kernel
set_option maxRecDepth 100000 in
theorem d_M_note_8 : decode prog_9_method_12_code 8 = .ok (.bipush 40, 2) := by decide +kernel
set_option maxRecDepth 100000 in
theorem d_M_note_10 : decode prog_9_method_12_code 10 = .ok (.irem, 1) := by decide +kernel
set_option maxRecDepth 100000 in
theorem d_M_note_11 : decode prog_9_method_12_code 11 = .ok (.iload_n 1, 1) := by decide +kernel
set_option maxRecDepth 100000 in
theorem d_M_note_12 : decode prog_9_method_12_code 12 = .ok (.iconst 4, 1) := by decide +kernel
set_option maxRecDepth 100000 in
theorem d_M_note_13 : decode prog_9_method_12_code 13 = .ok (.iload_n 2, 1) := by decide +kernel
set_option maxRecDepth 100000 in
theorem d_M_note_14 : decode prog_9_method_12_code 14 = .ok (.imul, 1) := by decide +kernel
set_option maxRecDepth 100000 in
theorem d_M_note_15 : decode prog_9_method_12_code 15 = .ok (.iadd, 1) := by decide +kernel
set_option maxRecDepth 100000 in
theorem d_M_note_16 : decode prog_9_method_12_code 16 = .ok (.bipush 16, 2) := by decide +kernel
set_option maxRecDepth 100000 in
theorem d_M_note_18 : decode prog_9_method_12_code 18 = .ok (.iload_n 3, 1) := by decide +kernel
set_option maxRecDepth 100000 in
theorem d_M_note_19 : decode prog_9_method_12_code 19 = .ok (.imul, 1) := by decide +kernel
set_option maxRecDepth 100000 in
theorem d_M_note_20 : decode prog_9_method_12_code 20 = .ok (.iadd, 1) := by decide +kernel
set_option maxRecDepth 100000 in
theorem d_M_note_21 : decode prog_9_method_12_code 21 = .ok (.iastore, 1) := by decide +kernel
set_option maxRecDepth 100000 in
theorem d_M_note_22 : decode prog_9_method_12_code 22 = .ok (.aload_n 0, 1) := by decide +kernel
set_option maxRecDepth 100000 in
theorem d_M_note_23 : decode prog_9_method_12_code 23 = .ok (.getfield 65, 3) := by decide +kernel
set_option maxRecDepth 100000 in
theorem d_M_note_26 : decode prog_9_method_12_code 26 = .ok (.aload_n 0, 1) := by decide +kernel
set_option maxRecDepth 100000 in
theorem d_M_note_27 : decode prog_9_method_12_code 27 = .ok (.getfield 90, 3) := by decide +kernel
set_option maxRecDepth 100000 in
theorem d_M_note_30 : decode prog_9_method_12_code 30 = .ok (.bipush 40, 2) := by decide +kernel
set_option maxRecDepth 100000 in
theorem d_M_note_32 : decode prog_9_method_12_code 32 = .ok (.irem, 1) := by decide +kernel
set_option maxRecDepth 100000 in
theorem d_M_note_33 : decode prog_9_method_12_code 33 = .ok (.iload 4, 2) := by decide +kernel
set_option maxRecDepth 100000 in
theorem d_M_note_35 : decode prog_9_method_12_code 35 = .ok (.iastore, 1) := by decide +kernel
set_option maxRecDepth 100000 in
theorem d_M_note_36 : decode prog_9_method_12_code 36 = .ok (.aload_n 0, 1) := by decide +kernel
set_option maxRecDepth 100000 in
theorem d_M_note_37 : decode prog_9_method_12_code 37 = .ok (.dup, 1) := by decide +kernel
set_option maxRecDepth 100000 in
theorem d_M_note_38 : decode prog_9_method_12_code 38 = .ok (.getfield 90, 3) := by decide +kernel
set_option maxRecDepth 100000 in
theorem d_M_note_41 : decode prog_9_method_12_code 41 = .ok (.iconst 1, 1) := by decide +kernel
set_option maxRecDepth 100000 in
theorem d_M_note_42 : decode prog_9_method_12_code 42 = .ok (.iadd, 1) := by decide +kernel
set_option maxRecDepth 100000 in
theorem d_M_note_43 : decode prog_9_method_12_code 43 = .ok (.putfield 90, 3) := by decide +kernel
set_option maxRecDepth 100000 in
theorem d_M_note_46 : decode prog_9_method_12_code 46 = .ok (.return_, 1) := by decide +kernel
set_option maxRecDepth 100000 in
theorem d_M_store_0 : decode prog_9_method_15_code 0 = .ok (.aload_n 0, 1) := by decide +kernel
set_option maxRecDepth 100000 in
theorem d_M_store_1 : decode prog_9_method_15_code 1 = .ok (.getfield 31, 3) := by decide +kernel
set_option maxRecDepth 100000 in
theorem d_M_store_4 : decode prog_9_method_15_code 4 = .ok (.iload_n 1, 1) := by decide +kernel
set_option maxRecDepth 100000 in
theorem d_M_store_5 : decode prog_9_method_15_code 5 = .ok (.iaload, 1) := by decide +kernel
set_option maxRecDepth 100000 in
theorem d_M_store_6 : decode prog_9_method_15_code 6 = .ok (.aload_n 0, 1) := by decide +kernel
set_option maxRecDepth 100000 in
theorem d_M_store_7 : decode prog_9_method_15_code 7 = .ok (.getfield 68, 3) := by decide +kernel
set_option maxRecDepth 100000 in
theorem d_M_store_10 : decode prog_9_method_15_code 10 = .ok (.if_icmp .ne 5, 3) := by decide +kernel
set_option maxRecDepth 100000 in
theorem d_M_store_13 : decode prog_9_method_15_code 13 = .ok (.iconst 0, 1) := by decide +kernel
set_option maxRecDepth 100000 in
theorem d_M_store_14 : decode prog_9_method_15_code 14 = .ok (.ireturn, 1) := by decide +kernel
set_option maxRecDepth 100000 in
theorem d_M_store_15 : decode prog_9_method_15_code 15 = .ok (.aload_n 0, 1) := by decide +kernel
set_option maxRecDepth 100000 in
theorem d_M_store_16 : decode prog_9_method_15_code 16 = .ok (.getfield 34, 3) := by decide +kernel
set_option maxRecDepth 100000 in
theorem d_M_store_19 : decode prog_9_method_15_code 19 = .ok (.iconst 4, 1) := by decide +kernel
set_option maxRecDepth 100000 in
theorem d_M_store_20 : decode prog_9_method_15_code 20 = .ok (.iload_n 1, 1) := by decide +kernel
set_option maxRecDepth 100000 in
theorem d_M_store_21 : decode prog_9_method_15_code 21 = .ok (.imul, 1) := by decide +kernel
set_option maxRecDepth 100000 in
theorem d_M_store_22 : decode prog_9_method_15_code 22 = .ok (.aload_n 0, 1) := by decide +kernel
set_option maxRecDepth 100000 in
theorem d_M_store_23 : decode prog_9_method_15_code 23 = .ok (.getfield 31, 3) := by decide +kernel
set_option maxRecDepth 100000 in
theorem d_M_store_26 : decode prog_9_method_15_code 26 = .ok (.iload_n 1, 1) := by decide +kernel
set_option maxRecDepth 100000 in
theorem d_M_store_27 : decode prog_9_method_15_code 27 = .ok (.iaload, 1) := by decide +kernel
set_option maxRecDepth 100000 in
theorem d_M_store_28 : decode prog_9_method_15_code 28 = .ok (.iadd, 1) := by decide +kernel
set_option maxRecDepth 100000 in
theorem d_M_store_29 : decode prog_9_method_15_code 29 = .ok (.aload_n 0, 1) := by decide +kernel
set_option maxRecDepth 100000 in
theorem d_M_store_30 : decode prog_9_method_15_code 30 = .ok (.getfield 13, 3) := by decide +kernel
set_option maxRecDepth 100000 in
theorem d_M_store_33 : decode prog_9_method_15_code 33 = .ok (.iconst 4, 1) := by decide +kernel
set_option maxRecDepth 100000 in
theorem d_M_store_34 : decode prog_9_method_15_code 34 = .ok (.iload_n 1, 1) := by decide +kernel
set_option maxRecDepth 100000 in
theorem d_M_store_35 : decode prog_9_method_15_code 35 = .ok (.imul, 1) := by decide +kernel
set_option maxRecDepth 100000 in
theorem d_M_store_36 : decode prog_9_method_15_code 36 = .ok (.iload_n 2, 1) := by decide +kernel
set_option maxRecDepth 100000 in
theorem d_M_store_37 : decode prog_9_method_15_code 37 = .ok (.iadd, 1) := by decide +kernel
set_option maxRecDepth 100000 in
theorem d_M_store_38 : decode prog_9_method_15_code 38 = .ok (.iaload, 1) := by decide +kernel
set_option maxRecDepth 100000 in
theorem d_M_store_39 : decode prog_9_method_15_code 39 = .ok (.bipush 7, 2) := by decide +kernel
set_option maxRecDepth 100000 in
theorem d_M_store_41 : decode prog_9_method_15_code 41 = .ok (.iand, 1) := by decide +kernel
set_option maxRecDepth 100000 in
theorem d_M_store_42 : decode prog_9_method_15_code 42 = .ok (.iastore, 1) := by decide +kernel
set_option maxRecDepth 100000 in
theorem d_M_store_43 : decode prog_9_method_15_code 43 = .ok (.aload_n 0, 1) := by decide +kernel
set_option maxRecDepth 100000 in
theorem d_M_store_44 : decode prog_9_method_15_code 44 = .ok (.getfield 37, 3) := by decide +kernel
set_option maxRecDepth 100000 in
theorem d_M_store_47 : decode prog_9_method_15_code 47 = .ok (.iconst 4, 1) := by decide +kernel
set_option maxRecDepth 100000 in
theorem d_M_store_48 : decode prog_9_method_15_code 48 = .ok (.iload_n 1, 1) := by decide +kernel
set_option maxRecDepth 100000 in
theorem d_M_store_49 : decode prog_9_method_15_code 49 = .ok (.imul, 1) := by decide +kernel
set_option maxRecDepth 100000 in
theorem d_M_store_50 : decode prog_9_method_15_code 50 = .ok (.aload_n 0, 1) := by decide +kernel
set_option maxRecDepth 100000 in
theorem d_M_store_51 : decode prog_9_method_15_code 51 = .ok (.getfield 31, 3) := by decide +kernel
set_option maxRecDepth 100000 in
theorem d_M_store_54 : decode prog_9_method_15_code 54 = .ok (.iload_n 1, 1) := by decide +kernel
set_option maxRecDepth 100000 in
theorem d_M_store_55 : decode prog_9_method_15_code 55 = .ok (.iaload, 1) := by decide +kernel
set_option maxRecDepth 100000 in
theorem d_M_store_56 : decode prog_9_method_15_code 56 = .ok (.iadd, 1) := by decide +kernel
set_option maxRecDepth 100000 in
theorem d_M_store_57 : decode prog_9_method_15_code 57 = .ok (.aload_n 0, 1) := by decide +kernel
set_option maxRecDepth 100000 in
theorem d_M_store_58 : decode prog_9_method_15_code 58 = .ok (.getfield 13, 3) := by decide +kernel
set_option maxRecDepth 100000 in
theorem d_M_store_61 : decode prog_9_method_15_code 61 = .ok (.iconst 4, 1) := by decide +kernel
set_option maxRecDepth 100000 in
theorem d_M_store_62 : decode prog_9_method_15_code 62 = .ok (.iload_n 1, 1) := by decide +kernel
set_option maxRecDepth 100000 in
theorem d_M_store_63 : decode prog_9_method_15_code 63 = .ok (.imul, 1) := by decide +kernel
set_option maxRecDepth 100000 in
theorem d_M_store_64 : decode prog_9_method_15_code 64 = .ok (.iload_n 3, 1) := by decide +kernel
set_option maxRecDepth 100000 in
theorem d_M_store_65 : decode prog_9_method_15_code 65 = .ok (.iadd, 1) := by decide +kernel
set_option maxRecDepth 100000 in
theorem d_M_store_66 : decode prog_9_method_15_code 66 = .ok (.iaload, 1) := by decide +kernel
set_option maxRecDepth 100000 in
theorem d_M_store_67 : decode prog_9_method_15_code 67 = .ok (.iastore, 1) := by decide +kernel
set_option maxRecDepth 100000 in
theorem d_M_store_68 : decode prog_9_method_15_code 68 = .ok (.aload_n 0, 1) := by decide +kernel
set_option maxRecDepth 100000 in
theorem d_M_store_69 : decode prog_9_method_15_code 69 = .ok (.getfield 31, 3) := by decide +kernel
set_option maxRecDepth 100000 in
theorem d_M_store_72 : decode prog_9_method_15_code 72 = .ok (.iload_n 1, 1) := by decide +kernel
set_option maxRecDepth 100000 in
theorem d_M_store_73 : decode prog_9_method_15_code 73 = .ok (.dup2, 1) := by decide +kernel
set_option maxRecDepth 100000 in
theorem d_M_store_74 : decode prog_9_method_15_code 74 = .ok (.iaload, 1) := by decide +kernel
set_option maxRecDepth 100000 in
theorem d_M_store_75 : decode prog_9_method_15_code 75 = .ok (.iconst 1, 1) := by decide +kernel
set_option maxRecDepth 100000 in
theorem d_M_store_76 : decode prog_9_method_15_code 76 = .ok (.iadd, 1) := by decide +kernel
set_option maxRecDepth 100000 in
theorem d_M_store_77 : decode prog_9_method_15_code 77 = .ok (.iastore, 1) := by decide +kernel
set_option maxRecDepth 100000 in
theorem d_M_store_78 : decode prog_9_method_15_code 78 = .ok (.iconst 1, 1) := by decide +kernel
set_option maxRecDepth 100000 in
theorem d_M_store_79 : decode prog_9_method_15_code 79 = .ok (.ireturn, 1) := by decide +kernel
set_option maxRecDepth 100000 in
theorem d_M_swap_0 : decode prog_9_method_16_code 0 = .ok (.aload_n 0, 1) := by decide +kernel
set_option maxRecDepth 100000 in
theorem d_M_swap_1 : decode prog_9_method_16_code 1 = .ok (.getfield 13, 3) := by decide +kernel
set_option maxRecDepth 100000 in
theorem d_M_swap_4 : decode prog_9_method_16_code 4 = .ok (.iconst 4, 1) := by decide +kernel
set_option maxRecDepth 100000 in
theorem d_M_swap_5 : decode prog_9_method_16_code 5 = .ok (.iload_n 1, 1) := by decide +kernel
set_option maxRecDepth 100000 in
theorem d_M_swap_6 : decode prog_9_method_16_code 6 = .ok (.imul, 1) := by decide +kernel
set_option maxRecDepth 100000 in
theorem d_M_swap_7 : decode prog_9_method_16_code 7 = .ok (.iload_n 2, 1) := by decide +kernel
set_option maxRecDepth 100000 in
theorem d_M_swap_8 : decode prog_9_method_16_code 8 = .ok (.iadd, 1) := by decide +kernel
set_option maxRecDepth 100000 in
theorem d_M_swap_9 : decode prog_9_method_16_code 9 = .ok (.iaload, 1) := by decide +kernel
set_option maxRecDepth 100000 in
theorem d_M_swap_10 : decode prog_9_method_16_code 10 = .ok (.bipush 7, 2) := by decide +kernel
set_option maxRecDepth 100000 in
theorem d_M_swap_12 : decode prog_9_method_16_code 12 = .ok (.iand, 1) := by decide +kernel
set_option maxRecDepth 100000 in
theorem d_M_swap_13 : decode prog_9_method_16_code 13 = .ok (.istore 4, 2) := by decide +kernel
set_option maxRecDepth 100000 in
theorem d_M_swap_15 : decode prog_9_method_16_code 15 = .ok (.aload_n 0, 1) := by decide +kernel
set_option maxRecDepth 100000 in
theorem d_M_swap_16 : decode prog_9_method_16_code 16 = .ok (.getfield 31, 3) := by decide +kernel
set_option maxRecDepth 100000 in
theorem d_M_swap_19 : decode prog_9_method_16_code 19 = .ok (.iload_n 1, 1) := by decide +kernel
set_option maxRecDepth 100000 in
theorem d_M_swap_20 : decode prog_9_method_16_code 20 = .ok (.iaload, 1) := by decide +kernel
set_option maxRecDepth 100000 in
theorem d_M_swap_21 : decode prog_9_method_16_code 21 = .ok (.ifCond .le 5, 3) := by decide +kernel
set_option maxRecDepth 100000 in
theorem d_M_swap_24 : decode prog_9_method_16_code 24 = .ok (.iconst 0, 1) := by decide +kernel
set_option maxRecDepth 100000 in
theorem d_M_swap_25 : decode prog_9_method_16_code 25 = .ok (.ireturn, 1) := by decide +kernel
set_option maxRecDepth 100000 in
theorem d_M_swap_26 : decode prog_9_method_16_code 26 = .ok (.aload_n 0, 1) := by decide +kernel
set_option maxRecDepth 100000 in
theorem d_M_swap_27 : decode prog_9_method_16_code 27 = .ok (.iload_n 1, 1) := by decide +kernel
set_option maxRecDepth 100000 in
theorem d_M_swap_28 : decode prog_9_method_16_code 28 = .ok (.iload 4, 2) := by decide +kernel
set_option maxRecDepth 100000 in
theorem d_M_swap_30 : decode prog_9_method_16_code 30 = .ok (.invokevirtual 101, 3) := by decide +kernel
set_option maxRecDepth 100000 in
theorem d_M_swap_33 : decode prog_9_method_16_code 33 = .ok (.ifCond .ne 13, 3) := by decide +kernel
set_option maxRecDepth 100000 in
theorem d_M_swap_36 : decode prog_9_method_16_code 36 = .ok (.aload_n 0, 1) := by decide +kernel
set_option maxRecDepth 100000 in
theorem d_M_swap_37 : decode prog_9_method_16_code 37 = .ok (.iload_n 1, 1) := by decide +kernel
set_option maxRecDepth 100000 in
theorem d_M_swap_38 : decode prog_9_method_16_code 38 = .ok (.iload 4, 2) := by decide +kernel
set_option maxRecDepth 100000 in
theorem d_M_swap_40 : decode prog_9_method_16_code 40 = .ok (.iconst 1, 1) := by decide +kernel
set_option maxRecDepth 100000 in
theorem d_M_swap_41 : decode prog_9_method_16_code 41 = .ok (.invokevirtual 93, 3) := by decide +kernel
set_option maxRecDepth 100000 in
theorem d_M_swap_44 : decode prog_9_method_16_code 44 = .ok (.iconst 0, 1) := by decide +kernel
set_option maxRecDepth 100000 in
theorem d_M_swap_45 : decode prog_9_method_16_code 45 = .ok (.ireturn, 1) := by decide +kernel
set_option maxRecDepth 100000 in
theorem d_M_swap_46 : decode prog_9_method_16_code 46 = .ok (.aload_n 0, 1) := by decide +kernel
set_option maxRecDepth 100000 in
theorem d_M_swap_47 : decode prog_9_method_16_code 47 = .ok (.iload_n 1, 1) := by decide +kernel
set_option maxRecDepth 100000 in
theorem d_M_swap_48 : decode prog_9_method_16_code 48 = .ok (.iload 4, 2) := by decide +kernel
set_option maxRecDepth 100000 in
theorem d_M_swap_50 : decode prog_9_method_16_code 50 = .ok (.invokevirtual 82, 3) := by decide +kernel
set_option maxRecDepth 100000 in
theorem d_M_swap_53 : decode prog_9_method_16_code 53 = .ok (.istore 5, 2) := by decide +kernel
set_option maxRecDepth 100000 in
theorem d_M_swap_55 : decode prog_9_method_16_code 55 = .ok (.aload_n 0, 1) := by decide +kernel
set_option maxRecDepth 100000 in
theorem d_M_swap_56 : decode prog_9_method_16_code 56 = .ok (.getfield 46, 3) := by decide +kernel
set_option maxRecDepth 100000 in
theorem d_M_swap_59 : decode prog_9_method_16_code 59 = .ok (.iload 5, 2) := by decide +kernel
set_option maxRecDepth 100000 in
theorem d_M_swap_61 : decode prog_9_method_16_code 61 = .ok (.iaload, 1) := by decide +kernel
set_option maxRecDepth 100000 in
theorem d_M_swap_62 : decode prog_9_method_16_code 62 = .ok (.istore 6, 2) := by decide +kernel
set_option maxRecDepth 100000 in
theorem d_M_swap_64 : decode prog_9_method_16_code 64 = .ok (.iload 6, 2) := by decide +kernel
set_option maxRecDepth 100000 in
theorem d_M_swap_66 : decode prog_9_method_16_code 66 = .ok (.aload_n 0, 1) := by decide +kernel
set_option maxRecDepth 100000 in
theorem d_M_swap_67 : decode prog_9_method_16_code 67 = .ok (.getfield 13, 3) := by decide +kernel
set_option maxRecDepth 100000 in
theorem d_M_swap_70 : decode prog_9_method_16_code 70 = .ok (.iconst 4, 1) := by decide +kernel
set_option maxRecDepth 100000 in
theorem d_M_swap_71 : decode prog_9_method_16_code 71 = .ok (.iload_n 1, 1) := by decide +kernel
set_option maxRecDepth 100000 in
theorem d_M_swap_72 : decode prog_9_method_16_code 72 = .ok (.imul, 1) := by decide +kernel
set_option maxRecDepth 100000 in
theorem d_M_swap_73 : decode prog_9_method_16_code 73 = .ok (.iconst 3, 1) := by decide +kernel
set_option maxRecDepth 100000 in
theorem d_M_swap_74 : decode prog_9_method_16_code 74 = .ok (.iadd, 1) := by decide +kernel
set_option maxRecDepth 100000 in
theorem d_M_swap_75 : decode prog_9_method_16_code 75 = .ok (.iaload, 1) := by decide +kernel
set_option maxRecDepth 100000 in
theorem d_M_swap_76 : decode prog_9_method_16_code 76 = .ok (.if_icmp .ne 7, 3) := by decide +kernel
set_option maxRecDepth 100000 in
theorem d_M_swap_79 : decode prog_9_method_16_code 79 = .ok (.iconst 1, 1) := by decide +kernel
set_option maxRecDepth 100000 in
theorem d_M_swap_80 : decode prog_9_method_16_code 80 = .ok (.goto 4, 3) := by decide +kernel
set_option maxRecDepth 100000 in
theorem d_M_swap_83 : decode prog_9_method_16_code 83 = .ok (.iconst 0, 1) := by decide +kernel
set_option maxRecDepth 100000 in
theorem d_M_swap_84 : decode prog_9_method_16_code 84 = .ok (.istore 7, 2) := by decide +kernel
set_option maxRecDepth 100000 in
theorem d_M_swap_86 : decode prog_9_method_16_code 86 = .ok (.iload 7, 2) := by decide +kernel
set_option maxRecDepth 100000 in
theorem d_M_swap_88 : decode prog_9_method_16_code 88 = .ok (.ifCond .eq 28, 3) := by decide +kernel
set_option maxRecDepth 100000 in
theorem d_M_swap_91 : decode prog_9_method_16_code 91 = .ok (.aload_n 0, 1) := by decide +kernel
set_option maxRecDepth 100000 in
theorem d_M_swap_92 : decode prog_9_method_16_code 92 = .ok (.getfield 46, 3) := by decide +kernel
set_option maxRecDepth 100000 in
theorem d_M_swap_95 : decode prog_9_method_16_code 95 = .ok (.iload 5, 2) := by decide +kernel
set_option maxRecDepth 100000 in
theorem d_M_swap_97 : decode prog_9_method_16_code 97 = .ok (.aload_n 0, 1) := by decide +kernel
set_option maxRecDepth 100000 in
theorem d_M_swap_98 : decode prog_9_method_16_code 98 = .ok (.getfield 13, 3) := by decide +kernel
set_option maxRecDepth 100000 in
theorem d_M_swap_101 : decode prog_9_method_16_code 101 = .ok (.iconst 4, 1) := by decide +kernel
set_option maxRecDepth 100000 in
theorem d_M_swap_102 : decode prog_9_method_16_code 102 = .ok (.iload_n 1, 1) := by decide +kernel
set_option maxRecDepth 100000 in
theorem d_M_swap_103 : decode prog_9_method_16_code 103 = .ok (.imul, 1) := by decide +kernel
set_option maxRecDepth 100000 in
theorem d_M_swap_104 : decode prog_9_method_16_code 104 = .ok (.iload_n 3, 1) := by decide +kernel
set_option maxRecDepth 100000 in
theorem d_M_swap_105 : decode prog_9_method_16_code 105 = .ok (.iadd, 1) := by decide +kernel
set_option maxRecDepth 100000 in
theorem d_M_swap_106 : decode prog_9_method_16_code 106 = .ok (.iaload, 1) := by decide +kernel
set_option maxRecDepth 100000 in
theorem d_M_swap_107 : decode prog_9_method_16_code 107 = .ok (.iastore, 1) := by decide +kernel
set_option maxRecDepth 100000 in
theorem d_M_swap_108 : decode prog_9_method_16_code 108 = .ok (.aload_n 0, 1) := by decide +kernel
set_option maxRecDepth 100000 in
theorem d_M_swap_109 : decode prog_9_method_16_code 109 = .ok (.getfield 40, 3) := by decide +kernel
set_option maxRecDepth 100000 in
theorem d_M_swap_112 : decode prog_9_method_16_code 112 = .ok (.iload 5, 2) := by decide +kernel
set_option maxRecDepth 100000 in
theorem d_M_swap_114 : decode prog_9_method_16_code 114 = .ok (.iconst 3, 1) := by decide +kernel
set_option maxRecDepth 100000 in
theorem d_M_swap_115 : decode prog_9_method_16_code 115 = .ok (.iastore, 1) := by decide +kernel
set_option maxRecDepth 100000 in
theorem d_M_swap_116 : decode prog_9_method_16_code 116 = .ok (.aload_n 0, 1) := by decide +kernel
set_option maxRecDepth 100000 in
theorem d_M_swap_117 : decode prog_9_method_16_code 117 = .ok (.getfield 13, 3) := by decide +kernel
set_option maxRecDepth 100000 in
theorem d_M_swap_120 : decode prog_9_method_16_code 120 = .ok (.iconst 4, 1) := by decide +kernel
set_option maxRecDepth 100000 in
theorem d_M_swap_121 : decode prog_9_method_16_code 121 = .ok (.iload_n 1, 1) := by decide +kernel
set_option maxRecDepth 100000 in
theorem d_M_swap_122 : decode prog_9_method_16_code 122 = .ok (.imul, 1) := by decide +kernel
set_option maxRecDepth 100000 in
theorem d_M_swap_123 : decode prog_9_method_16_code 123 = .ok (.iconst 3, 1) := by decide +kernel
set_option maxRecDepth 100000 in
theorem d_M_swap_124 : decode prog_9_method_16_code 124 = .ok (.iadd, 1) := by decide +kernel
set_option maxRecDepth 100000 in
theorem d_M_swap_125 : decode prog_9_method_16_code 125 = .ok (.iload 7, 2) := by decide +kernel
set_option maxRecDepth 100000 in
theorem d_M_swap_127 : decode prog_9_method_16_code 127 = .ok (.ifCond .eq 7, 3) := by decide +kernel
set_option maxRecDepth 100000 in
theorem d_M_swap_130 : decode prog_9_method_16_code 130 = .ok (.iconst 1, 1) := by decide +kernel
set_option maxRecDepth 100000 in
theorem d_M_swap_131 : decode prog_9_method_16_code 131 = .ok (.goto 4, 3) := by decide +kernel
set_option maxRecDepth 100000 in
theorem d_M_swap_134 : decode prog_9_method_16_code 134 = .ok (.iconst 0, 1) := by decide +kernel
set_option maxRecDepth 100000 in
theorem d_M_swap_135 : decode prog_9_method_16_code 135 = .ok (.iastore, 1) := by decide +kernel
set_option maxRecDepth 100000 in
theorem d_M_swap_136 : decode prog_9_method_16_code 136 = .ok (.aload_n 0, 1) := by decide +kernel
set_option maxRecDepth 100000 in
theorem d_M_swap_137 : decode prog_9_method_16_code 137 = .ok (.iconst 2, 1) := by decide +kernel
set_option maxRecDepth 100000 in
theorem d_M_swap_138 : decode prog_9_method_16_code 138 = .ok (.iload_n 1, 1) := by decide +kernel
set_option maxRecDepth 100000 in
theorem d_M_swap_139 : decode prog_9_method_16_code 139 = .ok (.iload 4, 2) := by decide +kernel
set_option maxRecDepth 100000 in
theorem d_M_swap_141 : decode prog_9_method_16_code 141 = .ok (.iload 6, 2) := by decide +kernel
set_option maxRecDepth 100000 in
theorem d_M_swap_143 : decode prog_9_method_16_code 143 = .ok (.invokevirtual 97, 3) := by decide +kernel
set_option maxRecDepth 100000 in
theorem d_M_swap_146 : decode prog_9_method_16_code 146 = .ok (.iconst 1, 1) := by decide +kernel
set_option maxRecDepth 100000 in
theorem d_M_swap_147 : decode prog_9_method_16_code 147 = .ok (.ireturn, 1) := by decide +kernel
set_option maxRecDepth 100000 in
theorem d_M_owns_0 : decode prog_9_method_8_code 0 = .ok (.aload_n 0, 1) := by decide +kernel
set_option maxRecDepth 100000 in
theorem d_M_owns_1 : decode prog_9_method_8_code 1 = .ok (.iload_n 1, 1) := by decide +kernel
set_option maxRecDepth 100000 in
theorem d_M_owns_2 : decode prog_9_method_8_code 2 = .ok (.iload_n 2, 1) := by decide +kernel
set_option maxRecDepth 100000 in
theorem d_M_owns_3 : decode prog_9_method_8_code 3 = .ok (.invokevirtual 86, 3) := by decide +kernel
set_option maxRecDepth 100000 in
theorem d_M_owns_6 : decode prog_9_method_8_code 6 = .ok (.ifCond .eq 22, 3) := by decide +kernel
set_option maxRecDepth 100000 in
theorem d_M_owns_9 : decode prog_9_method_8_code 9 = .ok (.aload_n 0, 1) := by decide +kernel
set_option maxRecDepth 100000 in
theorem d_M_owns_10 : decode prog_9_method_8_code 10 = .ok (.getfield 40, 3) := by decide +kernel
set_option maxRecDepth 100000 in
theorem d_M_owns_13 : decode prog_9_method_8_code 13 = .ok (.aload_n 0, 1) := by decide +kernel
set_option maxRecDepth 100000 in
theorem d_M_owns_14 : decode prog_9_method_8_code 14 = .ok (.iload_n 1, 1) := by decide +kernel
set_option maxRecDepth 100000 in
theorem d_M_owns_15 : decode prog_9_method_8_code 15 = .ok (.iload_n 2, 1) := by decide +kernel
set_option maxRecDepth 100000 in
theorem d_M_owns_16 : decode prog_9_method_8_code 16 = .ok (.invokevirtual 82, 3) := by decide +kernel
set_option maxRecDepth 100000 in
theorem d_M_owns_19 : decode prog_9_method_8_code 19 = .ok (.iaload, 1) := by decide +kernel
set_option maxRecDepth 100000 in
theorem d_M_owns_20 : decode prog_9_method_8_code 20 = .ok (.iconst 2, 1) := by decide +kernel
set_option maxRecDepth 100000 in
theorem d_M_owns_21 : decode prog_9_method_8_code 21 = .ok (.if_icmp .lt 7, 3) := by decide +kernel
set_option maxRecDepth 100000 in
theorem d_M_owns_24 : decode prog_9_method_8_code 24 = .ok (.iconst 1, 1) := by decide +kernel
set_option maxRecDepth 100000 in
theorem d_M_owns_25 : decode prog_9_method_8_code 25 = .ok (.goto 4, 3) := by decide +kernel
set_option maxRecDepth 100000 in
theorem d_M_owns_28 : decode prog_9_method_8_code 28 = .ok (.iconst 0, 1) := by decide +kernel
set_option maxRecDepth 100000 in
theorem d_M_owns_29 : decode prog_9_method_8_code 29 = .ok (.ireturn, 1) := by decide +kernel
set_option maxRecDepth 100000 in
theorem d_M_drain_0 : decode prog_9_method_19_code 0 = .ok (.aload_n 0, 1) := by decide +kernel
set_option maxRecDepth 100000 in
theorem d_M_drain_1 : decode prog_9_method_19_code 1 = .ok (.iload_n 1, 1) := by decide +kernel
set_option maxRecDepth 100000 in
theorem d_M_drain_2 : decode prog_9_method_19_code 2 = .ok (.invokevirtual 75, 3) := by decide +kernel
set_option maxRecDepth 100000 in
theorem d_M_drain_5 : decode prog_9_method_19_code 5 = .ok (.ifCond .ne 5, 3) := by decide +kernel
set_option maxRecDepth 100000 in
theorem d_M_drain_8 : decode prog_9_method_19_code 8 = .ok (.iconst 0, 1) := by decide +kernel
set_option maxRecDepth 100000 in
theorem d_M_drain_9 : decode prog_9_method_19_code 9 = .ok (.ireturn, 1) := by decide +kernel
set_option maxRecDepth 100000 in
theorem d_M_drain_10 : decode prog_9_method_19_code 10 = .ok (.aload_n 0, 1) := by decide +kernel
set_option maxRecDepth 100000 in
theorem d_M_drain_11 : decode prog_9_method_19_code 11 = .ok (.getfield 31, 3) := by decide +kernel
set_option maxRecDepth 100000 in
theorem d_M_drain_14 : decode prog_9_method_19_code 14 = .ok (.iload_n 1, 1) := by decide +kernel
set_option maxRecDepth 100000 in
theorem d_M_drain_15 : decode prog_9_method_19_code 15 = .ok (.iaload, 1) := by decide +kernel
set_option maxRecDepth 100000 in
theorem d_M_drain_16 : decode prog_9_method_19_code 16 = .ok (.ifCond .ne 5, 3) := by decide +kernel
set_option maxRecDepth 100000 in
theorem d_M_drain_19 : decode prog_9_method_19_code 19 = .ok (.iconst 3, 1) := by decide +kernel
set_option maxRecDepth 100000 in
theorem d_M_drain_20 : decode prog_9_method_19_code 20 = .ok (.ireturn, 1) := by decide +kernel
set_option maxRecDepth 100000 in
theorem d_M_drain_21 : decode prog_9_method_19_code 21 = .ok (.aload_n 0, 1) := by decide +kernel
set_option maxRecDepth 100000 in
theorem d_M_drain_22 : decode prog_9_method_19_code 22 = .ok (.getfield 34, 3) := by decide +kernel
set_option maxRecDepth 100000 in
theorem d_M_drain_25 : decode prog_9_method_19_code 25 = .ok (.iconst 4, 1) := by decide +kernel
set_option maxRecDepth 100000 in
theorem d_M_drain_26 : decode prog_9_method_19_code 26 = .ok (.iload_n 1, 1) := by decide +kernel
set_option maxRecDepth 100000 in
theorem d_M_drain_27 : decode prog_9_method_19_code 27 = .ok (.imul, 1) := by decide +kernel
set_option maxRecDepth 100000 in
theorem d_M_drain_28 : decode prog_9_method_19_code 28 = .ok (.iaload, 1) := by decide +kernel
set_option maxRecDepth 100000 in
theorem d_M_drain_29 : decode prog_9_method_19_code 29 = .ok (.istore_n 2, 1) := by decide +kernel
set_option maxRecDepth 100000 in
theorem d_M_drain_30 : decode prog_9_method_19_code 30 = .ok (.aload_n 0, 1) := by decide +kernel
set_option maxRecDepth 100000 in
theorem d_M_drain_31 : decode prog_9_method_19_code 31 = .ok (.iload_n 1, 1) := by decide +kernel
set_option maxRecDepth 100000 in
theorem d_M_drain_32 : decode prog_9_method_19_code 32 = .ok (.iload_n 2, 1) := by decide +kernel
set_option maxRecDepth 100000 in
theorem d_M_drain_33 : decode prog_9_method_19_code 33 = .ok (.invokevirtual 101, 3) := by decide +kernel
set_option maxRecDepth 100000 in
theorem d_M_drain_36 : decode prog_9_method_19_code 36 = .ok (.ifCond .ne 12, 3) := by decide +kernel
set_option maxRecDepth 100000 in
theorem d_M_drain_39 : decode prog_9_method_19_code 39 = .ok (.aload_n 0, 1) := by decide +kernel
set_option maxRecDepth 100000 in
theorem d_M_drain_40 : decode prog_9_method_19_code 40 = .ok (.iload_n 1, 1) := by decide +kernel
set_option maxRecDepth 100000 in
theorem d_M_drain_41 : decode prog_9_method_19_code 41 = .ok (.iload_n 2, 1) := by decide +kernel
set_option maxRecDepth 100000 in
theorem d_M_drain_42 : decode prog_9_method_19_code 42 = .ok (.iconst 1, 1) := by decide +kernel
set_option maxRecDepth 100000 in
theorem d_M_drain_43 : decode prog_9_method_19_code 43 = .ok (.invokevirtual 93, 3) := by decide +kernel
set_option maxRecDepth 100000 in
theorem d_M_drain_46 : decode prog_9_method_19_code 46 = .ok (.iconst 0, 1) := by decide +kernel
set_option maxRecDepth 100000 in
theorem d_M_drain_47 : decode prog_9_method_19_code 47 = .ok (.ireturn, 1) := by decide +kernel
set_option maxRecDepth 100000 in
theorem d_M_drain_48 : decode prog_9_method_19_code 48 = .ok (.aload_n 0, 1) := by decide +kernel
set_option maxRecDepth 100000 in
theorem d_M_drain_49 : decode prog_9_method_19_code 49 = .ok (.iload_n 1, 1) := by decide +kernel
set_option maxRecDepth 100000 in
theorem d_M_drain_50 : decode prog_9_method_19_code 50 = .ok (.iload_n 2, 1) := by decide +kernel
set_option maxRecDepth 100000 in
theorem d_M_drain_51 : decode prog_9_method_19_code 51 = .ok (.invokevirtual 82, 3) := by decide +kernel
set_option maxRecDepth 100000 in
theorem d_M_drain_54 : decode prog_9_method_19_code 54 = .ok (.istore_n 3, 1) := by decide +kernel
set_option maxRecDepth 100000 in
theorem d_M_drain_55 : decode prog_9_method_19_code 55 = .ok (.aload_n 0, 1) := by decide +kernel
set_option maxRecDepth 100000 in
theorem d_M_drain_56 : decode prog_9_method_19_code 56 = .ok (.getfield 37, 3) := by decide +kernel
set_option maxRecDepth 100000 in
theorem d_M_drain_59 : decode prog_9_method_19_code 59 = .ok (.iconst 4, 1) := by decide +kernel
set_option maxRecDepth 100000 in
theorem d_M_drain_60 : decode prog_9_method_19_code 60 = .ok (.iload_n 1, 1) := by decide +kernel
set_option maxRecDepth 100000 in
theorem d_M_drain_61 : decode prog_9_method_19_code 61 = .ok (.imul, 1) := by decide +kernel
set_option maxRecDepth 100000 in
theorem d_M_drain_62 : decode prog_9_method_19_code 62 = .ok (.iaload, 1) := by decide +kernel
set_option maxRecDepth 100000 in
theorem d_M_drain_63 : decode prog_9_method_19_code 63 = .ok (.istore 4, 2) := by decide +kernel
set_option maxRecDepth 100000 in
theorem d_M_drain_65 : decode prog_9_method_19_code 65 = .ok (.aload_n 0, 1) := by decide +kernel
set_option maxRecDepth 100000 in
theorem d_M_drain_66 : decode prog_9_method_19_code 66 = .ok (.getfield 46, 3) := by decide +kernel
set_option maxRecDepth 100000 in
theorem d_M_drain_69 : decode prog_9_method_19_code 69 = .ok (.iload_n 3, 1) := by decide +kernel
set_option maxRecDepth 100000 in
theorem d_M_drain_70 : decode prog_9_method_19_code 70 = .ok (.iload 4, 2) := by decide +kernel
set_option maxRecDepth 100000 in
theorem d_M_drain_72 : decode prog_9_method_19_code 72 = .ok (.iastore, 1) := by decide +kernel
set_option maxRecDepth 100000 in
theorem d_M_drain_73 : decode prog_9_method_19_code 73 = .ok (.aload_n 0, 1) := by decide +kernel
set_option maxRecDepth 100000 in
theorem d_M_drain_74 : decode prog_9_method_19_code 74 = .ok (.getfield 40, 3) := by decide +kernel
set_option maxRecDepth 100000 in
theorem d_M_drain_77 : decode prog_9_method_19_code 77 = .ok (.iload_n 3, 1) := by decide +kernel
set_option maxRecDepth 100000 in
theorem d_M_drain_78 : decode prog_9_method_19_code 78 = .ok (.iconst 3, 1) := by decide +kernel
set_option maxRecDepth 100000 in
theorem d_M_drain_79 : decode prog_9_method_19_code 79 = .ok (.iastore, 1) := by decide +kernel
set_option maxRecDepth 100000 in
theorem d_M_drain_80 : decode prog_9_method_19_code 80 = .ok (.aload_n 0, 1) := by decide +kernel
set_option maxRecDepth 100000 in
theorem d_M_drain_81 : decode prog_9_method_19_code 81 = .ok (.getfield 31, 3) := by decide +kernel
set_option maxRecDepth 100000 in
theorem d_M_drain_84 : decode prog_9_method_19_code 84 = .ok (.iload_n 1, 1) := by decide +kernel
set_option maxRecDepth 100000 in
theorem d_M_drain_85 : decode prog_9_method_19_code 85 = .ok (.dup2, 1) := by decide +kernel
set_option maxRecDepth 100000 in
theorem d_M_drain_86 : decode prog_9_method_19_code 86 = .ok (.iaload, 1) := by decide +kernel
set_option maxRecDepth 100000 in
theorem d_M_drain_87 : decode prog_9_method_19_code 87 = .ok (.iconst 1, 1) := by decide +kernel
set_option maxRecDepth 100000 in
theorem d_M_drain_88 : decode prog_9_method_19_code 88 = .ok (.isub, 1) := by decide +kernel
set_option maxRecDepth 100000 in
theorem d_M_drain_89 : decode prog_9_method_19_code 89 = .ok (.iastore, 1) := by decide +kernel
set_option maxRecDepth 100000 in
theorem d_M_drain_90 : decode prog_9_method_19_code 90 = .ok (.iconst 0, 1) := by decide +kernel
set_option maxRecDepth 100000 in
theorem d_M_drain_91 : decode prog_9_method_19_code 91 = .ok (.istore 5, 2) := by decide +kernel
set_option maxRecDepth 100000 in
theorem d_M_drain_93 : decode prog_9_method_19_code 93 = .ok (.iload 5, 2) := by decide +kernel
set_option maxRecDepth 100000 in
theorem d_M_drain_95 : decode prog_9_method_19_code 95 = .ok (.aload_n 0, 1) := by decide +kernel
set_option maxRecDepth 100000 in
theorem d_M_drain_96 : decode prog_9_method_19_code 96 = .ok (.getfield 31, 3) := by decide +kernel
set_option maxRecDepth 100000 in
theorem d_M_drain_99 : decode prog_9_method_19_code 99 = .ok (.iload_n 1, 1) := by decide +kernel
set_option maxRecDepth 100000 in
theorem d_M_drain_100 : decode prog_9_method_19_code 100 = .ok (.iaload, 1) := by decide +kernel
set_option maxRecDepth 100000 in
theorem d_M_drain_101 : decode prog_9_method_19_code 101 = .ok (.if_icmp .ge 57, 3) := by decide +kernel
set_option maxRecDepth 100000 in
theorem d_M_drain_104 : decode prog_9_method_19_code 104 = .ok (.aload_n 0, 1) := by decide +kernel
set_option maxRecDepth 100000 in
theorem d_M_drain_105 : decode prog_9_method_19_code 105 = .ok (.getfield 34, 3) := by decide +kernel
set_option maxRecDepth 100000 in
theorem d_M_drain_108 : decode prog_9_method_19_code 108 = .ok (.iconst 4, 1) := by decide +kernel
set_option maxRecDepth 100000 in
theorem d_M_drain_109 : decode prog_9_method_19_code 109 = .ok (.iload_n 1, 1) := by decide +kernel
set_option maxRecDepth 100000 in
theorem d_M_drain_110 : decode prog_9_method_19_code 110 = .ok (.imul, 1) := by decide +kernel
set_option maxRecDepth 100000 in
theorem d_M_drain_111 : decode prog_9_method_19_code 111 = .ok (.iload 5, 2) := by decide +kernel
set_option maxRecDepth 100000 in
theorem d_M_drain_113 : decode prog_9_method_19_code 113 = .ok (.iadd, 1) := by decide +kernel
set_option maxRecDepth 100000 in
theorem d_M_drain_114 : decode prog_9_method_19_code 114 = .ok (.aload_n 0, 1) := by decide +kernel
set_option maxRecDepth 100000 in
theorem d_M_drain_115 : decode prog_9_method_19_code 115 = .ok (.getfield 34, 3) := by decide +kernel
set_option maxRecDepth 100000 in
theorem d_M_drain_118 : decode prog_9_method_19_code 118 = .ok (.iconst 4, 1) := by decide +kernel
set_option maxRecDepth 100000 in
theorem d_M_drain_119 : decode prog_9_method_19_code 119 = .ok (.iload_n 1, 1) := by decide +kernel
set_option maxRecDepth 100000 in
theorem d_M_drain_120 : decode prog_9_method_19_code 120 = .ok (.imul, 1) := by decide +kernel
set_option maxRecDepth 100000 in
theorem d_M_drain_121 : decode prog_9_method_19_code 121 = .ok (.iload 5, 2) := by decide +kernel
set_option maxRecDepth 100000 in
theorem d_M_drain_123 : decode prog_9_method_19_code 123 = .ok (.iadd, 1) := by decide +kernel
set_option maxRecDepth 100000 in
theorem d_M_drain_124 : decode prog_9_method_19_code 124 = .ok (.iconst 1, 1) := by decide +kernel
set_option maxRecDepth 100000 in
theorem d_M_drain_125 : decode prog_9_method_19_code 125 = .ok (.iadd, 1) := by decide +kernel
set_option maxRecDepth 100000 in
theorem d_M_drain_126 : decode prog_9_method_19_code 126 = .ok (.iaload, 1) := by decide +kernel
set_option maxRecDepth 100000 in
theorem d_M_drain_127 : decode prog_9_method_19_code 127 = .ok (.iastore, 1) := by decide +kernel
set_option maxRecDepth 100000 in
theorem d_M_drain_128 : decode prog_9_method_19_code 128 = .ok (.aload_n 0, 1) := by decide +kernel
set_option maxRecDepth 100000 in
theorem d_M_drain_129 : decode prog_9_method_19_code 129 = .ok (.getfield 37, 3) := by decide +kernel
set_option maxRecDepth 100000 in
theorem d_M_drain_132 : decode prog_9_method_19_code 132 = .ok (.iconst 4, 1) := by decide +kernel
set_option maxRecDepth 100000 in
theorem d_M_drain_133 : decode prog_9_method_19_code 133 = .ok (.iload_n 1, 1) := by decide +kernel
set_option maxRecDepth 100000 in
theorem d_M_drain_134 : decode prog_9_method_19_code 134 = .ok (.imul, 1) := by decide +kernel
set_option maxRecDepth 100000 in
theorem d_M_drain_135 : decode prog_9_method_19_code 135 = .ok (.iload 5, 2) := by decide +kernel
set_option maxRecDepth 100000 in
theorem d_M_drain_137 : decode prog_9_method_19_code 137 = .ok (.iadd, 1) := by decide +kernel
set_option maxRecDepth 100000 in
theorem d_M_drain_138 : decode prog_9_method_19_code 138 = .ok (.aload_n 0, 1) := by decide +kernel
set_option maxRecDepth 100000 in
theorem d_M_drain_139 : decode prog_9_method_19_code 139 = .ok (.getfield 37, 3) := by decide +kernel
set_option maxRecDepth 100000 in
theorem d_M_drain_142 : decode prog_9_method_19_code 142 = .ok (.iconst 4, 1) := by decide +kernel
set_option maxRecDepth 100000 in
theorem d_M_drain_143 : decode prog_9_method_19_code 143 = .ok (.iload_n 1, 1) := by decide +kernel
set_option maxRecDepth 100000 in
theorem d_M_drain_144 : decode prog_9_method_19_code 144 = .ok (.imul, 1) := by decide +kernel
set_option maxRecDepth 100000 in
theorem d_M_drain_145 : decode prog_9_method_19_code 145 = .ok (.iload 5, 2) := by decide +kernel
set_option maxRecDepth 100000 in
theorem d_M_drain_147 : decode prog_9_method_19_code 147 = .ok (.iadd, 1) := by decide +kernel
set_option maxRecDepth 100000 in
theorem d_M_drain_148 : decode prog_9_method_19_code 148 = .ok (.iconst 1, 1) := by decide +kernel
set_option maxRecDepth 100000 in
theorem d_M_drain_149 : decode prog_9_method_19_code 149 = .ok (.iadd, 1) := by decide +kernel
set_option maxRecDepth 100000 in
theorem d_M_drain_150 : decode prog_9_method_19_code 150 = .ok (.iaload, 1) := by decide +kernel
set_option maxRecDepth 100000 in
theorem d_M_drain_151 : decode prog_9_method_19_code 151 = .ok (.iastore, 1) := by decide +kernel
set_option maxRecDepth 100000 in
theorem d_M_drain_152 : decode prog_9_method_19_code 152 = .ok (.iinc 5 1, 3) := by decide +kernel
set_option maxRecDepth 100000 in
theorem d_M_drain_155 : decode prog_9_method_19_code 155 = .ok (.goto (-62), 3) := by decide +kernel
set_option maxRecDepth 100000 in
theorem d_M_drain_158 : decode prog_9_method_19_code 158 = .ok (.aload_n 0, 1) := by decide +kernel
set_option maxRecDepth 100000 in
theorem d_M_drain_159 : decode prog_9_method_19_code 159 = .ok (.iconst 1, 1) := by decide +kernel
set_option maxRecDepth 100000 in
theorem d_M_drain_160 : decode prog_9_method_19_code 160 = .ok (.iload_n 1, 1) := by decide +kernel
set_option maxRecDepth 100000 in
theorem d_M_drain_161 : decode prog_9_method_19_code 161 = .ok (.iload_n 2, 1) := by decide +kernel
set_option maxRecDepth 100000 in
theorem d_M_drain_162 : decode prog_9_method_19_code 162 = .ok (.iload 4, 2) := by decide +kernel
set_option maxRecDepth 100000 in
theorem d_M_drain_164 : decode prog_9_method_19_code 164 = .ok (.invokevirtual 97, 3) := by decide +kernel
set_option maxRecDepth 100000 in
theorem d_M_drain_167 : decode prog_9_method_19_code 167 = .ok (.iconst 1, 1) := by decide +kernel
set_option maxRecDepth 100000 in
theorem d_M_drain_168 : decode prog_9_method_19_code 168 = .ok (.ireturn, 1) := by decide +kernel
set_option maxRecDepth 100000 in
theorem d_M_grant_0 : decode prog_9_method_20_code 0 = .ok (.aload_n 0, 1) := by decide +kernel
set_option maxRecDepth 100000 in
theorem d_M_grant_1 : decode prog_9_method_20_code 1 = .ok (.iload_n 1, 1) := by decide +kernel
set_option maxRecDepth 100000 in
theorem d_M_grant_2 : decode prog_9_method_20_code 2 = .ok (.invokevirtual 75, 3) := by decide +kernel
set_option maxRecDepth 100000 in
theorem d_M_grant_5 : decode prog_9_method_20_code 5 = .ok (.ifCond .ne 5, 3) := by decide +kernel
set_option maxRecDepth 100000 in
theorem d_M_grant_8 : decode prog_9_method_20_code 8 = .ok (.iconst 0, 1) := by decide +kernel
set_option maxRecDepth 100000 in
theorem d_M_grant_9 : decode prog_9_method_20_code 9 = .ok (.ireturn, 1) := by decide +kernel
set_option maxRecDepth 100000 in
theorem d_M_grant_10 : decode prog_9_method_20_code 10 = .ok (.aload_n 0, 1) := by decide +kernel
set_option maxRecDepth 100000 in
theorem d_M_grant_11 : decode prog_9_method_20_code 11 = .ok (.getfield 49, 3) := by decide +kernel
set_option maxRecDepth 100000 in
theorem d_M_grant_14 : decode prog_9_method_20_code 14 = .ok (.iload_n 1, 1) := by decide +kernel
set_option maxRecDepth 100000 in
theorem d_M_grant_15 : decode prog_9_method_20_code 15 = .ok (.iaload, 1) := by decide +kernel
set_option maxRecDepth 100000 in
theorem d_M_grant_16 : decode prog_9_method_20_code 16 = .ok (.ifCond .eq 12, 3) := by decide +kernel
set_option maxRecDepth 100000 in
theorem d_M_grant_19 : decode prog_9_method_20_code 19 = .ok (.aload_n 0, 1) := by decide +kernel
set_option maxRecDepth 100000 in
theorem d_M_grant_20 : decode prog_9_method_20_code 20 = .ok (.getfield 55, 3) := by decide +kernel
set_option maxRecDepth 100000 in
theorem d_M_grant_23 : decode prog_9_method_20_code 23 = .ok (.iload_n 1, 1) := by decide +kernel
set_option maxRecDepth 100000 in
theorem d_M_grant_24 : decode prog_9_method_20_code 24 = .ok (.baload, 1) := by decide +kernel
set_option maxRecDepth 100000 in
theorem d_M_grant_25 : decode prog_9_method_20_code 25 = .ok (.ifCond .eq 5, 3) := by decide +kernel
set_option maxRecDepth 100000 in
theorem d_M_grant_28 : decode prog_9_method_20_code 28 = .ok (.iconst 3, 1) := by decide +kernel
set_option maxRecDepth 100000 in
theorem d_M_grant_29 : decode prog_9_method_20_code 29 = .ok (.ireturn, 1) := by decide +kernel
set_option maxRecDepth 100000 in
theorem d_M_grant_30 : decode prog_9_method_20_code 30 = .ok (.aload_n 0, 1) := by decide +kernel
set_option maxRecDepth 100000 in
theorem d_M_grant_31 : decode prog_9_method_20_code 31 = .ok (.getfield 52, 3) := by decide +kernel
set_option maxRecDepth 100000 in
theorem d_M_grant_34 : decode prog_9_method_20_code 34 = .ok (.iload_n 1, 1) := by decide +kernel
set_option maxRecDepth 100000 in
theorem d_M_grant_35 : decode prog_9_method_20_code 35 = .ok (.iaload, 1) := by decide +kernel
set_option maxRecDepth 100000 in
theorem d_M_grant_36 : decode prog_9_method_20_code 36 = .ok (.istore_n 2, 1) := by decide +kernel
set_option maxRecDepth 100000 in
theorem d_M_grant_37 : decode prog_9_method_20_code 37 = .ok (.iconst 0, 1) := by decide +kernel
set_option maxRecDepth 100000 in
theorem d_M_grant_38 : decode prog_9_method_20_code 38 = .ok (.istore_n 3, 1) := by decide +kernel
set_option maxRecDepth 100000 in
theorem d_M_grant_39 : decode prog_9_method_20_code 39 = .ok (.iload_n 3, 1) := by decide +kernel
set_option maxRecDepth 100000 in
theorem d_M_grant_40 : decode prog_9_method_20_code 40 = .ok (.iconst 3, 1) := by decide +kernel
set_option maxRecDepth 100000 in
theorem d_M_grant_41 : decode prog_9_method_20_code 41 = .ok (.if_icmp .ge 35, 3) := by decide +kernel
set_option maxRecDepth 100000 in
theorem d_M_grant_44 : decode prog_9_method_20_code 44 = .ok (.iload_n 3, 1) := by decide +kernel
set_option maxRecDepth 100000 in
theorem d_M_grant_45 : decode prog_9_method_20_code 45 = .ok (.iload_n 1, 1) := by decide +kernel
set_option maxRecDepth 100000 in
theorem d_M_grant_46 : decode prog_9_method_20_code 46 = .ok (.if_icmp .eq 24, 3) := by decide +kernel
set_option maxRecDepth 100000 in
theorem d_M_grant_49 : decode prog_9_method_20_code 49 = .ok (.aload_n 0, 1) := by decide +kernel
set_option maxRecDepth 100000 in
theorem d_M_grant_50 : decode prog_9_method_20_code 50 = .ok (.getfield 55, 3) := by decide +kernel
set_option maxRecDepth 100000 in
theorem d_M_grant_53 : decode prog_9_method_20_code 53 = .ok (.iload_n 3, 1) := by decide +kernel
set_option maxRecDepth 100000 in
theorem d_M_grant_54 : decode prog_9_method_20_code 54 = .ok (.baload, 1) := by decide +kernel
set_option maxRecDepth 100000 in
theorem d_M_grant_55 : decode prog_9_method_20_code 55 = .ok (.ifCond .eq 15, 3) := by decide +kernel
set_option maxRecDepth 100000 in
theorem d_M_grant_58 : decode prog_9_method_20_code 58 = .ok (.aload_n 0, 1) := by decide +kernel
set_option maxRecDepth 100000 in
theorem d_M_grant_59 : decode prog_9_method_20_code 59 = .ok (.getfield 52, 3) := by decide +kernel
set_option maxRecDepth 100000 in
theorem d_M_grant_62 : decode prog_9_method_20_code 62 = .ok (.iload_n 3, 1) := by decide +kernel
set_option maxRecDepth 100000 in
theorem d_M_grant_63 : decode prog_9_method_20_code 63 = .ok (.iaload, 1) := by decide +kernel
set_option maxRecDepth 100000 in
theorem d_M_grant_64 : decode prog_9_method_20_code 64 = .ok (.iload_n 2, 1) := by decide +kernel
set_option maxRecDepth 100000 in
theorem d_M_grant_65 : decode prog_9_method_20_code 65 = .ok (.if_icmp .ne 5, 3) := by decide +kernel
set_option maxRecDepth 100000 in
theorem d_M_grant_68 : decode prog_9_method_20_code 68 = .ok (.iconst 4, 1) := by decide +kernel
set_option maxRecDepth 100000 in
theorem d_M_grant_69 : decode prog_9_method_20_code 69 = .ok (.ireturn, 1) := by decide +kernel
set_option maxRecDepth 100000 in
theorem d_M_grant_70 : decode prog_9_method_20_code 70 = .ok (.iinc 3 1, 3) := by decide +kernel
set_option maxRecDepth 100000 in
theorem d_M_grant_73 : decode prog_9_method_20_code 73 = .ok (.goto (-34), 3) := by decide +kernel
set_option maxRecDepth 100000 in
theorem d_M_grant_76 : decode prog_9_method_20_code 76 = .ok (.aload_n 0, 1) := by decide +kernel
set_option maxRecDepth 100000 in
theorem d_M_grant_77 : decode prog_9_method_20_code 77 = .ok (.iload_n 1, 1) := by decide +kernel
set_option maxRecDepth 100000 in
theorem d_M_grant_78 : decode prog_9_method_20_code 78 = .ok (.iload_n 2, 1) := by decide +kernel
set_option maxRecDepth 100000 in
theorem d_M_grant_79 : decode prog_9_method_20_code 79 = .ok (.invokevirtual 82, 3) := by decide +kernel
set_option maxRecDepth 100000 in
theorem d_M_grant_82 : decode prog_9_method_20_code 82 = .ok (.istore_n 3, 1) := by decide +kernel
set_option maxRecDepth 100000 in
theorem d_M_grant_83 : decode prog_9_method_20_code 83 = .ok (.aload_n 0, 1) := by decide +kernel
set_option maxRecDepth 100000 in
theorem d_M_grant_84 : decode prog_9_method_20_code 84 = .ok (.getfield 40, 3) := by decide +kernel
set_option maxRecDepth 100000 in
theorem d_M_grant_87 : decode prog_9_method_20_code 87 = .ok (.iload_n 3, 1) := by decide +kernel
set_option maxRecDepth 100000 in
theorem d_M_grant_88 : decode prog_9_method_20_code 88 = .ok (.iaload, 1) := by decide +kernel
set_option maxRecDepth 100000 in
theorem d_M_grant_89 : decode prog_9_method_20_code 89 = .ok (.ifCond .eq 25, 3) := by decide +kernel
set_option maxRecDepth 100000 in
theorem d_M_grant_92 : decode prog_9_method_20_code 92 = .ok (.aload_n 0, 1) := by decide +kernel
set_option maxRecDepth 100000 in
theorem d_M_grant_93 : decode prog_9_method_20_code 93 = .ok (.getfield 43, 3) := by decide +kernel
set_option maxRecDepth 100000 in
theorem d_M_grant_96 : decode prog_9_method_20_code 96 = .ok (.iload_n 3, 1) := by decide +kernel
set_option maxRecDepth 100000 in
theorem d_M_grant_97 : decode prog_9_method_20_code 97 = .ok (.iaload, 1) := by decide +kernel
set_option maxRecDepth 100000 in
theorem d_M_grant_98 : decode prog_9_method_20_code 98 = .ok (.iload_n 2, 1) := by decide +kernel
set_option maxRecDepth 100000 in
theorem d_M_grant_99 : decode prog_9_method_20_code 99 = .ok (.if_icmp .eq 15, 3) := by decide +kernel
set_option maxRecDepth 100000 in
theorem d_M_grant_102 : decode prog_9_method_20_code 102 = .ok (.aload_n 0, 1) := by decide +kernel
set_option maxRecDepth 100000 in
theorem d_M_grant_103 : decode prog_9_method_20_code 103 = .ok (.iload_n 3, 1) := by decide +kernel
set_option maxRecDepth 100000 in
theorem d_M_grant_104 : decode prog_9_method_20_code 104 = .ok (.invokevirtual 118, 3) := by decide +kernel
set_option maxRecDepth 100000 in
theorem d_M_grant_107 : decode prog_9_method_20_code 107 = .ok (.aload_n 0, 1) := by decide +kernel
set_option maxRecDepth 100000 in
theorem d_M_grant_108 : decode prog_9_method_20_code 108 = .ok (.getfield 40, 3) := by decide +kernel
set_option maxRecDepth 100000 in
theorem d_M_grant_111 : decode prog_9_method_20_code 111 = .ok (.iload_n 3, 1) := by decide +kernel
set_option maxRecDepth 100000 in
theorem d_M_grant_112 : decode prog_9_method_20_code 112 = .ok (.iconst 0, 1) := by decide +kernel
set_option maxRecDepth 100000 in
theorem d_M_grant_113 : decode prog_9_method_20_code 113 = .ok (.iastore, 1) := by decide +kernel
set_option maxRecDepth 100000 in
theorem d_M_grant_114 : decode prog_9_method_20_code 114 = .ok (.aload_n 0, 1) := by decide +kernel
set_option maxRecDepth 100000 in
theorem d_M_grant_115 : decode prog_9_method_20_code 115 = .ok (.getfield 59, 3) := by decide +kernel
set_option maxRecDepth 100000 in
theorem d_M_grant_118 : decode prog_9_method_20_code 118 = .ok (.iload_n 1, 1) := by decide +kernel
set_option maxRecDepth 100000 in
theorem d_M_grant_119 : decode prog_9_method_20_code 119 = .ok (.aload_n 0, 1) := by decide +kernel
set_option maxRecDepth 100000 in
theorem d_M_grant_120 : decode prog_9_method_20_code 120 = .ok (.iload_n 2, 1) := by decide +kernel
set_option maxRecDepth 100000 in
theorem d_M_grant_121 : decode prog_9_method_20_code 121 = .ok (.invokevirtual 122, 3) := by decide +kernel
set_option maxRecDepth 100000 in
theorem d_M_grant_124 : decode prog_9_method_20_code 124 = .ok (.iastore, 1) := by decide +kernel
set_option maxRecDepth 100000 in
theorem d_M_grant_125 : decode prog_9_method_20_code 125 = .ok (.iconst 0, 1) := by decide +kernel
set_option maxRecDepth 100000 in
theorem d_M_grant_126 : decode prog_9_method_20_code 126 = .ok (.istore 4, 2) := by decide +kernel
set_option maxRecDepth 100000 in
theorem d_M_grant_128 : decode prog_9_method_20_code 128 = .ok (.iload 4, 2) := by decide +kernel
set_option maxRecDepth 100000 in
theorem d_M_grant_130 : decode prog_9_method_20_code 130 = .ok (.iconst 3, 1) := by decide +kernel
set_option maxRecDepth 100000 in
theorem d_M_grant_131 : decode prog_9_method_20_code 131 = .ok (.if_icmp .ge 63, 3) := by decide +kernel
set_option maxRecDepth 100000 in
theorem d_M_grant_134 : decode prog_9_method_20_code 134 = .ok (.iload 4, 2) := by decide +kernel
set_option maxRecDepth 100000 in
theorem d_M_grant_136 : decode prog_9_method_20_code 136 = .ok (.iload_n 1, 1) := by decide +kernel
set_option maxRecDepth 100000 in
theorem d_M_grant_137 : decode prog_9_method_20_code 137 = .ok (.if_icmp .eq 51, 3) := by decide +kernel
set_option maxRecDepth 100000 in
theorem d_M_grant_140 : decode prog_9_method_20_code 140 = .ok (.aload_n 0, 1) := by decide +kernel
set_option maxRecDepth 100000 in
theorem d_M_grant_141 : decode prog_9_method_20_code 141 = .ok (.iload 4, 2) := by decide +kernel
set_option maxRecDepth 100000 in
theorem d_M_grant_143 : decode prog_9_method_20_code 143 = .ok (.iload_n 2, 1) := by decide +kernel
set_option maxRecDepth 100000 in
theorem d_M_grant_144 : decode prog_9_method_20_code 144 = .ok (.invokevirtual 86, 3) := by decide +kernel
set_option maxRecDepth 100000 in
theorem d_M_grant_147 : decode prog_9_method_20_code 147 = .ok (.ifCond .eq 41, 3) := by decide +kernel
set_option maxRecDepth 100000 in
theorem d_M_grant_150 : decode prog_9_method_20_code 150 = .ok (.aload_n 0, 1) := by decide +kernel
set_option maxRecDepth 100000 in
theorem d_M_grant_151 : decode prog_9_method_20_code 151 = .ok (.aload_n 0, 1) := by decide +kernel
set_option maxRecDepth 100000 in
theorem d_M_grant_152 : decode prog_9_method_20_code 152 = .ok (.iload 4, 2) := by decide +kernel
set_option maxRecDepth 100000 in
theorem d_M_grant_154 : decode prog_9_method_20_code 154 = .ok (.iload_n 2, 1) := by decide +kernel
set_option maxRecDepth 100000 in
theorem d_M_grant_155 : decode prog_9_method_20_code 155 = .ok (.invokevirtual 82, 3) := by decide +kernel
set_option maxRecDepth 100000 in
theorem d_M_grant_158 : decode prog_9_method_20_code 158 = .ok (.invokevirtual 118, 3) := by decide +kernel
set_option maxRecDepth 100000 in
theorem d_M_grant_161 : decode prog_9_method_20_code 161 = .ok (.aload_n 0, 1) := by decide +kernel
set_option maxRecDepth 100000 in
theorem d_M_grant_162 : decode prog_9_method_20_code 162 = .ok (.getfield 40, 3) := by decide +kernel
set_option maxRecDepth 100000 in
theorem d_M_grant_165 : decode prog_9_method_20_code 165 = .ok (.aload_n 0, 1) := by decide +kernel
set_option maxRecDepth 100000 in
theorem d_M_grant_166 : decode prog_9_method_20_code 166 = .ok (.iload 4, 2) := by decide +kernel
set_option maxRecDepth 100000 in
theorem d_M_grant_168 : decode prog_9_method_20_code 168 = .ok (.iload_n 2, 1) := by decide +kernel
set_option maxRecDepth 100000 in
theorem d_M_grant_169 : decode prog_9_method_20_code 169 = .ok (.invokevirtual 82, 3) := by decide +kernel
set_option maxRecDepth 100000 in
theorem d_M_grant_172 : decode prog_9_method_20_code 172 = .ok (.aload_n 0, 1) := by decide +kernel
set_option maxRecDepth 100000 in
theorem d_M_grant_173 : decode prog_9_method_20_code 173 = .ok (.getfield 49, 3) := by decide +kernel
set_option maxRecDepth 100000 in
theorem d_M_grant_176 : decode prog_9_method_20_code 176 = .ok (.iload_n 1, 1) := by decide +kernel
set_option maxRecDepth 100000 in
theorem d_M_grant_177 : decode prog_9_method_20_code 177 = .ok (.iaload, 1) := by decide +kernel
set_option maxRecDepth 100000 in
theorem d_M_grant_178 : decode prog_9_method_20_code 178 = .ok (.iconst 1, 1) := by decide +kernel
set_option maxRecDepth 100000 in
theorem d_M_grant_179 : decode prog_9_method_20_code 179 = .ok (.if_icmp .ne 7, 3) := by decide +kernel
set_option maxRecDepth 100000 in
theorem d_M_grant_182 : decode prog_9_method_20_code 182 = .ok (.iconst 1, 1) := by decide +kernel
set_option maxRecDepth 100000 in
theorem d_M_grant_183 : decode prog_9_method_20_code 183 = .ok (.goto 4, 3) := by decide +kernel
set_option maxRecDepth 100000 in
theorem d_M_grant_186 : decode prog_9_method_20_code 186 = .ok (.iconst 0, 1) := by decide +kernel
set_option maxRecDepth 100000 in
theorem d_M_grant_187 : decode prog_9_method_20_code 187 = .ok (.iastore, 1) := by decide +kernel
set_option maxRecDepth 100000 in
theorem d_M_grant_188 : decode prog_9_method_20_code 188 = .ok (.iinc 4 1, 3) := by decide +kernel
set_option maxRecDepth 100000 in
theorem d_M_grant_191 : decode prog_9_method_20_code 191 = .ok (.goto (-63), 3) := by decide +kernel
set_option maxRecDepth 100000 in
theorem d_M_grant_194 : decode prog_9_method_20_code 194 = .ok (.aload_n 0, 1) := by decide +kernel
set_option maxRecDepth 100000 in
theorem d_M_grant_195 : decode prog_9_method_20_code 195 = .ok (.getfield 55, 3) := by decide +kernel
set_option maxRecDepth 100000 in
theorem d_M_grant_198 : decode prog_9_method_20_code 198 = .ok (.iload_n 1, 1) := by decide +kernel
set_option maxRecDepth 100000 in
theorem d_M_grant_199 : decode prog_9_method_20_code 199 = .ok (.iconst 1, 1) := by decide +kernel
set_option maxRecDepth 100000 in
theorem d_M_grant_200 : decode prog_9_method_20_code 200 = .ok (.bastore, 1) := by decide +kernel
set_option maxRecDepth 100000 in
theorem d_M_grant_201 : decode prog_9_method_20_code 201 = .ok (.iconst 1, 1) := by decide +kernel
set_option maxRecDepth 100000 in
theorem d_M_grant_202 : decode prog_9_method_20_code 202 = .ok (.ireturn, 1) := by decide +kernel
set_option maxRecDepth 100000 in
theorem d_M_writeBack_0 : decode prog_9_method_13_code 0 = .ok (.aload_n 0, 1) := by decide +kernel
set_option maxRecDepth 100000 in
theorem d_M_writeBack_1 : decode prog_9_method_13_code 1 = .ok (.getfield 40, 3) := by decide +kernel
set_option maxRecDepth 100000 in
theorem d_M_writeBack_4 : decode prog_9_method_13_code 4 = .ok (.iload_n 1, 1) := by decide +kernel
set_option maxRecDepth 100000 in
theorem d_M_writeBack_5 : decode prog_9_method_13_code 5 = .ok (.iaload, 1) := by decide +kernel
set_option maxRecDepth 100000 in
theorem d_M_writeBack_6 : decode prog_9_method_13_code 6 = .ok (.iconst 3, 1) := by decide +kernel
set_option maxRecDepth 100000 in
theorem d_M_writeBack_7 : decode prog_9_method_13_code 7 = .ok (.if_icmp .ne 20, 3) := by decide +kernel
set_option maxRecDepth 100000 in
theorem d_M_writeBack_10 : decode prog_9_method_13_code 10 = .ok (.aload_n 0, 1) := by decide +kernel
set_option maxRecDepth 100000 in
theorem d_M_writeBack_11 : decode prog_9_method_13_code 11 = .ok (.getfield 7, 3) := by decide +kernel
set_option maxRecDepth 100000 in
theorem d_M_writeBack_14 : decode prog_9_method_13_code 14 = .ok (.aload_n 0, 1) := by decide +kernel
set_option maxRecDepth 100000 in
theorem d_M_writeBack_15 : decode prog_9_method_13_code 15 = .ok (.getfield 43, 3) := by decide +kernel
set_option maxRecDepth 100000 in
theorem d_M_writeBack_18 : decode prog_9_method_13_code 18 = .ok (.iload_n 1, 1) := by decide +kernel
set_option maxRecDepth 100000 in
theorem d_M_writeBack_19 : decode prog_9_method_13_code 19 = .ok (.iaload, 1) := by decide +kernel
set_option maxRecDepth 100000 in
theorem d_M_writeBack_20 : decode prog_9_method_13_code 20 = .ok (.aload_n 0, 1) := by decide +kernel
set_option maxRecDepth 100000 in
theorem d_M_writeBack_21 : decode prog_9_method_13_code 21 = .ok (.getfield 46, 3) := by decide +kernel
set_option maxRecDepth 100000 in
theorem d_M_writeBack_24 : decode prog_9_method_13_code 24 = .ok (.iload_n 1, 1) := by decide +kernel
set_option maxRecDepth 100000 in
theorem d_M_writeBack_25 : decode prog_9_method_13_code 25 = .ok (.iaload, 1) := by decide +kernel
set_option maxRecDepth 100000 in
theorem d_M_writeBack_26 : decode prog_9_method_13_code 26 = .ok (.iastore, 1) := by decide +kernel
set_option maxRecDepth 100000 in
theorem d_M_writeBack_27 : decode prog_9_method_13_code 27 = .ok (.return_, 1) := by decide +kernel
set_option maxRecDepth 100000 in
theorem d_M_wordAt_0 : decode prog_9_method_9_code 0 = .ok (.aload_n 0, 1) := by decide +kernel
set_option maxRecDepth 100000 in
theorem d_M_wordAt_1 : decode prog_9_method_9_code 1 = .ok (.getfield 7, 3) := by decide +kernel
set_option maxRecDepth 100000 in
theorem d_M_wordAt_4 : decode prog_9_method_9_code 4 = .ok (.iload_n 1, 1) := by decide +kernel
set_option maxRecDepth 100000 in
theorem d_M_wordAt_5 : decode prog_9_method_9_code 5 = .ok (.iaload, 1) := by decide +kernel
set_option maxRecDepth 100000 in
theorem d_M_wordAt_6 : decode prog_9_method_9_code 6 = .ok (.istore_n 2, 1) := by decide +kernel
set_option maxRecDepth 100000 in
theorem d_M_wordAt_7 : decode prog_9_method_9_code 7 = .ok (.iconst 0, 1) := by decide +kernel
set_option maxRecDepth 100000 in
theorem d_M_wordAt_8 : decode prog_9_method_9_code 8 = .ok (.istore_n 3, 1) := by decide +kernel
set_option maxRecDepth 100000 in
theorem d_M_wordAt_9 : decode prog_9_method_9_code 9 = .ok (.iload_n 3, 1) := by decide +kernel
set_option maxRecDepth 100000 in
theorem d_M_wordAt_10 : decode prog_9_method_9_code 10 = .ok (.iconst 3, 1) := by decide +kernel
set_option maxRecDepth 100000 in
theorem d_M_wordAt_11 : decode prog_9_method_9_code 11 = .ok (.if_icmp .ge 49, 3) := by decide +kernel
set_option maxRecDepth 100000 in
theorem d_M_wordAt_14 : decode prog_9_method_9_code 14 = .ok (.aload_n 0, 1) := by decide +kernel
set_option maxRecDepth 100000 in
theorem d_M_wordAt_15 : decode prog_9_method_9_code 15 = .ok (.iload_n 3, 1) := by decide +kernel
set_option maxRecDepth 100000 in
theorem d_M_wordAt_16 : decode prog_9_method_9_code 16 = .ok (.iload_n 1, 1) := by decide +kernel
set_option maxRecDepth 100000 in
theorem d_M_wordAt_17 : decode prog_9_method_9_code 17 = .ok (.invokevirtual 86, 3) := by decide +kernel
set_option maxRecDepth 100000 in
theorem d_M_wordAt_20 : decode prog_9_method_9_code 20 = .ok (.ifCond .eq 32, 3) := by decide +kernel
set_option maxRecDepth 100000 in
theorem d_M_wordAt_23 : decode prog_9_method_9_code 23 = .ok (.aload_n 0, 1) := by decide +kernel
set_option maxRecDepth 100000 in
theorem d_M_wordAt_24 : decode prog_9_method_9_code 24 = .ok (.getfield 40, 3) := by decide +kernel
set_option maxRecDepth 100000 in
theorem d_M_wordAt_27 : decode prog_9_method_9_code 27 = .ok (.aload_n 0, 1) := by decide +kernel
set_option maxRecDepth 100000 in
theorem d_M_wordAt_28 : decode prog_9_method_9_code 28 = .ok (.iload_n 3, 1) := by decide +kernel
set_option maxRecDepth 100000 in
theorem d_M_wordAt_29 : decode prog_9_method_9_code 29 = .ok (.iload_n 1, 1) := by decide +kernel
set_option maxRecDepth 100000 in
theorem d_M_wordAt_30 : decode prog_9_method_9_code 30 = .ok (.invokevirtual 82, 3) := by decide +kernel
set_option maxRecDepth 100000 in
theorem d_M_wordAt_33 : decode prog_9_method_9_code 33 = .ok (.iaload, 1) := by decide +kernel
set_option maxRecDepth 100000 in
theorem d_M_wordAt_34 : decode prog_9_method_9_code 34 = .ok (.iconst 3, 1) := by decide +kernel
set_option maxRecDepth 100000 in
theorem d_M_wordAt_35 : decode prog_9_method_9_code 35 = .ok (.if_icmp .ne 17, 3) := by decide +kernel
set_option maxRecDepth 100000 in
theorem d_M_wordAt_38 : decode prog_9_method_9_code 38 = .ok (.aload_n 0, 1) := by decide +kernel
set_option maxRecDepth 100000 in
theorem d_M_wordAt_39 : decode prog_9_method_9_code 39 = .ok (.getfield 46, 3) := by decide +kernel
set_option maxRecDepth 100000 in
theorem d_M_wordAt_42 : decode prog_9_method_9_code 42 = .ok (.aload_n 0, 1) := by decide +kernel
set_option maxRecDepth 100000 in
theorem d_M_wordAt_43 : decode prog_9_method_9_code 43 = .ok (.iload_n 3, 1) := by decide +kernel
set_option maxRecDepth 100000 in
theorem d_M_wordAt_44 : decode prog_9_method_9_code 44 = .ok (.iload_n 1, 1) := by decide +kernel
set_option maxRecDepth 100000 in
theorem d_M_wordAt_45 : decode prog_9_method_9_code 45 = .ok (.invokevirtual 82, 3) := by decide +kernel
set_option maxRecDepth 100000 in
theorem d_M_wordAt_48 : decode prog_9_method_9_code 48 = .ok (.iaload, 1) := by decide +kernel
set_option maxRecDepth 100000 in
theorem d_M_wordAt_49 : decode prog_9_method_9_code 49 = .ok (.goto 4, 3) := by decide +kernel
set_option maxRecDepth 100000 in
theorem d_M_wordAt_52 : decode prog_9_method_9_code 52 = .ok (.iload_n 2, 1) := by decide +kernel
set_option maxRecDepth 100000 in
theorem d_M_wordAt_53 : decode prog_9_method_9_code 53 = .ok (.istore_n 2, 1) := by decide +kernel
set_option maxRecDepth 100000 in
theorem d_M_wordAt_54 : decode prog_9_method_9_code 54 = .ok (.iinc 3 1, 3) := by decide +kernel
set_option maxRecDepth 100000 in
theorem d_M_wordAt_57 : decode prog_9_method_9_code 57 = .ok (.goto (-48), 3) := by decide +kernel
set_option maxRecDepth 100000 in
theorem d_M_wordAt_60 : decode prog_9_method_9_code 60 = .ok (.iload_n 2, 1) := by decide +kernel
set_option maxRecDepth 100000 in
theorem d_M_wordAt_61 : decode prog_9_method_9_code 61 = .ok (.ireturn, 1) := by decide +kernel
set_option maxRecDepth 100000 in
theorem d_M_fill_0 : decode prog_9_method_21_code 0 = .ok (.aload_n 0, 1) := by decide +kernel
set_option maxRecDepth 100000 in
theorem d_M_fill_1 : decode prog_9_method_21_code 1 = .ok (.iload_n 1, 1) := by decide +kernel
set_option maxRecDepth 100000 in
theorem d_M_fill_2 : decode prog_9_method_21_code 2 = .ok (.invokevirtual 75, 3) := by decide +kernel
set_option maxRecDepth 100000 in
theorem d_M_fill_5 : decode prog_9_method_21_code 5 = .ok (.ifCond .ne 5, 3) := by decide +kernel
set_option maxRecDepth 100000 in
theorem d_M_fill_8 : decode prog_9_method_21_code 8 = .ok (.iconst 0, 1) := by decide +kernel
set_option maxRecDepth 100000 in
theorem d_M_fill_9 : decode prog_9_method_21_code 9 = .ok (.ireturn, 1) := by decide +kernel
set_option maxRecDepth 100000 in
theorem d_M_fill_10 : decode prog_9_method_21_code 10 = .ok (.aload_n 0, 1) := by decide +kernel
set_option maxRecDepth 100000 in
theorem d_M_fill_11 : decode prog_9_method_21_code 11 = .ok (.getfield 55, 3) := by decide +kernel
set_option maxRecDepth 100000 in
theorem d_M_fill_14 : decode prog_9_method_21_code 14 = .ok (.iload_n 1, 1) := by decide +kernel
set_option maxRecDepth 100000 in
theorem d_M_fill_15 : decode prog_9_method_21_code 15 = .ok (.baload, 1) := by decide +kernel
set_option maxRecDepth 100000 in
theorem d_M_fill_16 : decode prog_9_method_21_code 16 = .ok (.ifCond .ne 5, 3) := by decide +kernel
set_option maxRecDepth 100000 in
theorem d_M_fill_19 : decode prog_9_method_21_code 19 = .ok (.iconst 3, 1) := by decide +kernel
set_option maxRecDepth 100000 in
theorem d_M_fill_20 : decode prog_9_method_21_code 20 = .ok (.ireturn, 1) := by decide +kernel
set_option maxRecDepth 100000 in
theorem d_M_fill_21 : decode prog_9_method_21_code 21 = .ok (.aload_n 0, 1) := by decide +kernel
set_option maxRecDepth 100000 in
theorem d_M_fill_22 : decode prog_9_method_21_code 22 = .ok (.getfield 52, 3) := by decide +kernel
set_option maxRecDepth 100000 in
theorem d_M_fill_25 : decode prog_9_method_21_code 25 = .ok (.iload_n 1, 1) := by decide +kernel
set_option maxRecDepth 100000 in
theorem d_M_fill_26 : decode prog_9_method_21_code 26 = .ok (.iaload, 1) := by decide +kernel
set_option maxRecDepth 100000 in
theorem d_M_fill_27 : decode prog_9_method_21_code 27 = .ok (.istore_n 2, 1) := by decide +kernel
set_option maxRecDepth 100000 in
theorem d_M_fill_28 : decode prog_9_method_21_code 28 = .ok (.iconst 1, 1) := by decide +kernel
set_option maxRecDepth 100000 in
theorem d_M_fill_29 : decode prog_9_method_21_code 29 = .ok (.istore_n 3, 1) := by decide +kernel
set_option maxRecDepth 100000 in
theorem d_M_fill_30 : decode prog_9_method_21_code 30 = .ok (.iconst 0, 1) := by decide +kernel
set_option maxRecDepth 100000 in
theorem d_M_fill_31 : decode prog_9_method_21_code 31 = .ok (.istore 4, 2) := by decide +kernel
set_option maxRecDepth 100000 in
theorem d_M_fill_33 : decode prog_9_method_21_code 33 = .ok (.iload 4, 2) := by decide +kernel
set_option maxRecDepth 100000 in
theorem d_M_fill_35 : decode prog_9_method_21_code 35 = .ok (.iconst 3, 1) := by decide +kernel
set_option maxRecDepth 100000 in
theorem d_M_fill_36 : decode prog_9_method_21_code 36 = .ok (.if_icmp .ge 35, 3) := by decide +kernel
set_option maxRecDepth 100000 in
theorem d_M_fill_39 : decode prog_9_method_21_code 39 = .ok (.iload_n 3, 1) := by decide +kernel
set_option maxRecDepth 100000 in
theorem d_M_fill_40 : decode prog_9_method_21_code 40 = .ok (.ifCond .eq 23, 3) := by decide +kernel
set_option maxRecDepth 100000 in
theorem d_M_fill_43 : decode prog_9_method_21_code 43 = .ok (.iload 4, 2) := by decide +kernel
set_option maxRecDepth 100000 in
theorem d_M_fill_45 : decode prog_9_method_21_code 45 = .ok (.iload_n 1, 1) := by decide +kernel
set_option maxRecDepth 100000 in
theorem d_M_fill_46 : decode prog_9_method_21_code 46 = .ok (.if_icmp .eq 13, 3) := by decide +kernel
set_option maxRecDepth 100000 in
theorem d_M_fill_49 : decode prog_9_method_21_code 49 = .ok (.aload_n 0, 1) := by decide +kernel
set_option maxRecDepth 100000 in
theorem d_M_fill_50 : decode prog_9_method_21_code 50 = .ok (.iload 4, 2) := by decide +kernel
set_option maxRecDepth 100000 in
theorem d_M_fill_52 : decode prog_9_method_21_code 52 = .ok (.iload_n 2, 1) := by decide +kernel
set_option maxRecDepth 100000 in
theorem d_M_fill_53 : decode prog_9_method_21_code 53 = .ok (.invokevirtual 86, 3) := by decide +kernel
set_option maxRecDepth 100000 in
theorem d_M_fill_56 : decode prog_9_method_21_code 56 = .ok (.ifCond .ne 7, 3) := by decide +kernel
set_option maxRecDepth 100000 in
theorem d_M_fill_59 : decode prog_9_method_21_code 59 = .ok (.iconst 1, 1) := by decide +kernel
set_option maxRecDepth 100000 in
theorem d_M_fill_60 : decode prog_9_method_21_code 60 = .ok (.goto 4, 3) := by decide +kernel
set_option maxRecDepth 100000 in
theorem d_M_fill_63 : decode prog_9_method_21_code 63 = .ok (.iconst 0, 1) := by decide +kernel
set_option maxRecDepth 100000 in
theorem d_M_fill_64 : decode prog_9_method_21_code 64 = .ok (.istore_n 3, 1) := by decide +kernel
set_option maxRecDepth 100000 in
theorem d_M_fill_65 : decode prog_9_method_21_code 65 = .ok (.iinc 4 1, 3) := by decide +kernel
set_option maxRecDepth 100000 in
theorem d_M_fill_68 : decode prog_9_method_21_code 68 = .ok (.goto (-35), 3) := by decide +kernel
set_option maxRecDepth 100000 in
theorem d_M_fill_71 : decode prog_9_method_21_code 71 = .ok (.aload_n 0, 1) := by decide +kernel
set_option maxRecDepth 100000 in
theorem d_M_fill_72 : decode prog_9_method_21_code 72 = .ok (.iload_n 1, 1) := by decide +kernel
set_option maxRecDepth 100000 in
theorem d_M_fill_73 : decode prog_9_method_21_code 73 = .ok (.iload_n 2, 1) := by decide +kernel
set_option maxRecDepth 100000 in
theorem d_M_fill_74 : decode prog_9_method_21_code 74 = .ok (.invokevirtual 82, 3) := by decide +kernel
set_option maxRecDepth 100000 in
theorem d_M_fill_77 : decode prog_9_method_21_code 77 = .ok (.istore 4, 2) := by decide +kernel
set_option maxRecDepth 100000 in
theorem d_M_fill_79 : decode prog_9_method_21_code 79 = .ok (.aload_n 0, 1) := by decide +kernel
set_option maxRecDepth 100000 in
theorem d_M_fill_80 : decode prog_9_method_21_code 80 = .ok (.getfield 43, 3) := by decide +kernel
set_option maxRecDepth 100000 in
theorem d_M_fill_83 : decode prog_9_method_21_code 83 = .ok (.iload 4, 2) := by decide +kernel
set_option maxRecDepth 100000 in
theorem d_M_fill_85 : decode prog_9_method_21_code 85 = .ok (.iload_n 2, 1) := by decide +kernel
set_option maxRecDepth 100000 in
theorem d_M_fill_86 : decode prog_9_method_21_code 86 = .ok (.iastore, 1) := by decide +kernel
set_option maxRecDepth 100000 in
theorem d_M_fill_87 : decode prog_9_method_21_code 87 = .ok (.aload_n 0, 1) := by decide +kernel
set_option maxRecDepth 100000 in
theorem d_M_fill_88 : decode prog_9_method_21_code 88 = .ok (.getfield 46, 3) := by decide +kernel
set_option maxRecDepth 100000 in
theorem d_M_fill_91 : decode prog_9_method_21_code 91 = .ok (.iload 4, 2) := by decide +kernel
set_option maxRecDepth 100000 in
theorem d_M_fill_93 : decode prog_9_method_21_code 93 = .ok (.aload_n 0, 1) := by decide +kernel
set_option maxRecDepth 100000 in
theorem d_M_fill_94 : decode prog_9_method_21_code 94 = .ok (.getfield 59, 3) := by decide +kernel
set_option maxRecDepth 100000 in
theorem d_M_fill_97 : decode prog_9_method_21_code 97 = .ok (.iload_n 1, 1) := by decide +kernel
set_option maxRecDepth 100000 in
theorem d_M_fill_98 : decode prog_9_method_21_code 98 = .ok (.iaload, 1) := by decide +kernel
set_option maxRecDepth 100000 in
theorem d_M_fill_99 : decode prog_9_method_21_code 99 = .ok (.iastore, 1) := by decide +kernel
set_option maxRecDepth 100000 in
theorem d_M_fill_100 : decode prog_9_method_21_code 100 = .ok (.aload_n 0, 1) := by decide +kernel
set_option maxRecDepth 100000 in
theorem d_M_fill_101 : decode prog_9_method_21_code 101 = .ok (.getfield 40, 3) := by decide +kernel
set_option maxRecDepth 100000 in
theorem d_M_fill_104 : decode prog_9_method_21_code 104 = .ok (.iload 4, 2) := by decide +kernel
set_option maxRecDepth 100000 in
theorem d_M_fill_106 : decode prog_9_method_21_code 106 = .ok (.aload_n 0, 1) := by decide +kernel
set_option maxRecDepth 100000 in
theorem d_M_fill_107 : decode prog_9_method_21_code 107 = .ok (.getfield 49, 3) := by decide +kernel
set_option maxRecDepth 100000 in
theorem d_M_fill_110 : decode prog_9_method_21_code 110 = .ok (.iload_n 1, 1) := by decide +kernel
set_option maxRecDepth 100000 in
theorem d_M_fill_111 : decode prog_9_method_21_code 111 = .ok (.iaload, 1) := by decide +kernel
set_option maxRecDepth 100000 in
theorem d_M_fill_112 : decode prog_9_method_21_code 112 = .ok (.iconst 2, 1) := by decide +kernel
set_option maxRecDepth 100000 in
theorem d_M_fill_113 : decode prog_9_method_21_code 113 = .ok (.if_icmp .eq 7, 3) := by decide +kernel
set_option maxRecDepth 100000 in
theorem d_M_fill_116 : decode prog_9_method_21_code 116 = .ok (.iload_n 3, 1) := by decide +kernel
set_option maxRecDepth 100000 in
theorem d_M_fill_117 : decode prog_9_method_21_code 117 = .ok (.ifCond .eq 7, 3) := by decide +kernel
set_option maxRecDepth 100000 in
theorem d_M_fill_120 : decode prog_9_method_21_code 120 = .ok (.iconst 2, 1) := by decide +kernel
set_option maxRecDepth 100000 in
theorem d_M_fill_121 : decode prog_9_method_21_code 121 = .ok (.goto 4, 3) := by decide +kernel
set_option maxRecDepth 100000 in
theorem d_M_fill_124 : decode prog_9_method_21_code 124 = .ok (.iconst 1, 1) := by decide +kernel
set_option maxRecDepth 100000 in
theorem d_M_fill_125 : decode prog_9_method_21_code 125 = .ok (.iastore, 1) := by decide +kernel
set_option maxRecDepth 100000 in
theorem d_M_fill_126 : decode prog_9_method_21_code 126 = .ok (.aload_n 0, 1) := by decide +kernel
set_option maxRecDepth 100000 in
theorem d_M_fill_127 : decode prog_9_method_21_code 127 = .ok (.getfield 49, 3) := by decide +kernel
set_option maxRecDepth 100000 in
theorem d_M_fill_130 : decode prog_9_method_21_code 130 = .ok (.iload_n 1, 1) := by decide +kernel
set_option maxRecDepth 100000 in
theorem d_M_fill_131 : decode prog_9_method_21_code 131 = .ok (.iconst 0, 1) := by decide +kernel
set_option maxRecDepth 100000 in
theorem d_M_fill_132 : decode prog_9_method_21_code 132 = .ok (.iastore, 1) := by decide +kernel
set_option maxRecDepth 100000 in
theorem d_M_fill_133 : decode prog_9_method_21_code 133 = .ok (.aload_n 0, 1) := by decide +kernel
set_option maxRecDepth 100000 in
theorem d_M_fill_134 : decode prog_9_method_21_code 134 = .ok (.getfield 55, 3) := by decide +kernel
set_option maxRecDepth 100000 in
theorem d_M_fill_137 : decode prog_9_method_21_code 137 = .ok (.iload_n 1, 1) := by decide +kernel
set_option maxRecDepth 100000 in
theorem d_M_fill_138 : decode prog_9_method_21_code 138 = .ok (.iconst 0, 1) := by decide +kernel
set_option maxRecDepth 100000 in
theorem d_M_fill_139 : decode prog_9_method_21_code 139 = .ok (.bastore, 1) := by decide +kernel
set_option maxRecDepth 100000 in
theorem d_M_fill_140 : decode prog_9_method_21_code 140 = .ok (.iconst 1, 1) := by decide +kernel
set_option maxRecDepth 100000 in
theorem d_M_fill_141 : decode prog_9_method_21_code 141 = .ok (.ireturn, 1) := by decide +kernel
set_option maxRecDepth 100000 in
theorem d_M_register_0 : decode prog_9_method_22_code 0 = .ok (.aload_n 0, 1) := by decide +kernel
set_option maxRecDepth 100000 in
theorem d_M_register_1 : decode prog_9_method_22_code 1 = .ok (.iload_n 1, 1) := by decide +kernel
set_option maxRecDepth 100000 in
theorem d_M_register_2 : decode prog_9_method_22_code 2 = .ok (.invokevirtual 75, 3) := by decide +kernel
set_option maxRecDepth 100000 in
theorem d_M_register_5 : decode prog_9_method_22_code 5 = .ok (.ifCond .ne 5, 3) := by decide +kernel
set_option maxRecDepth 100000 in
theorem d_M_register_8 : decode prog_9_method_22_code 8 = .ok (.iconst 0, 1) := by decide +kernel
set_option maxRecDepth 100000 in
theorem d_M_register_9 : decode prog_9_method_22_code 9 = .ok (.ireturn, 1) := by decide +kernel
set_option maxRecDepth 100000 in
theorem d_M_register_10 : decode prog_9_method_22_code 10 = .ok (.aload_n 0, 1) := by decide +kernel
set_option maxRecDepth 100000 in
theorem d_M_register_11 : decode prog_9_method_22_code 11 = .ok (.iload_n 2, 1) := by decide +kernel
set_option maxRecDepth 100000 in
theorem d_M_register_12 : decode prog_9_method_22_code 12 = .ok (.invokestatic 79, 3) := by decide +kernel
set_option maxRecDepth 100000 in
theorem d_M_register_15 : decode prog_9_method_22_code 15 = .ok (.ifCond .eq 7, 3) := by decide +kernel
set_option maxRecDepth 100000 in
theorem d_M_register_18 : decode prog_9_method_22_code 18 = .ok (.iconst 0, 1) := by decide +kernel
set_option maxRecDepth 100000 in
theorem d_M_register_19 : decode prog_9_method_22_code 19 = .ok (.goto 4, 3) := by decide +kernel
set_option maxRecDepth 100000 in
theorem d_M_register_22 : decode prog_9_method_22_code 22 = .ok (.iconst 2, 1) := by decide +kernel
set_option maxRecDepth 100000 in
theorem d_M_register_23 : decode prog_9_method_22_code 23 = .ok (.putfield 72, 3) := by decide +kernel
set_option maxRecDepth 100000 in
theorem d_M_register_26 : decode prog_9_method_22_code 26 = .ok (.aload_n 0, 1) := by decide +kernel
set_option maxRecDepth 100000 in
theorem d_M_register_27 : decode prog_9_method_22_code 27 = .ok (.getfield 72, 3) := by decide +kernel
set_option maxRecDepth 100000 in
theorem d_M_register_30 : decode prog_9_method_22_code 30 = .ok (.ifCond .le 7, 3) := by decide +kernel
set_option maxRecDepth 100000 in
theorem d_M_register_33 : decode prog_9_method_22_code 33 = .ok (.iconst 0, 1) := by decide +kernel
set_option maxRecDepth 100000 in
theorem d_M_register_34 : decode prog_9_method_22_code 34 = .ok (.goto 13, 3) := by decide +kernel
set_option maxRecDepth 100000 in
theorem d_M_register_37 : decode prog_9_method_22_code 37 = .ok (.aload_n 0, 1) := by decide +kernel
set_option maxRecDepth 100000 in
theorem d_M_register_38 : decode prog_9_method_22_code 38 = .ok (.getfield 13, 3) := by decide +kernel
set_option maxRecDepth 100000 in
theorem d_M_register_41 : decode prog_9_method_22_code 41 = .ok (.iconst 4, 1) := by decide +kernel
set_option maxRecDepth 100000 in
theorem d_M_register_42 : decode prog_9_method_22_code 42 = .ok (.iload_n 1, 1) := by decide +kernel
set_option maxRecDepth 100000 in
theorem d_M_register_43 : decode prog_9_method_22_code 43 = .ok (.imul, 1) := by decide +kernel
set_option maxRecDepth 100000 in
theorem d_M_register_44 : decode prog_9_method_22_code 44 = .ok (.iload_n 2, 1) := by decide +kernel
set_option maxRecDepth 100000 in
theorem d_M_register_45 : decode prog_9_method_22_code 45 = .ok (.iadd, 1) := by decide +kernel
set_option maxRecDepth 100000 in
theorem d_M_register_46 : decode prog_9_method_22_code 46 = .ok (.iaload, 1) := by decide +kernel
set_option maxRecDepth 100000 in
theorem d_M_register_47 : decode prog_9_method_22_code 47 = .ok (.ireturn, 1) := by decide +kernel
set_option maxRecDepth 100000 in
theorem d_M_place_0 : decode prog_9_method_23_code 0 = .ok (.aload_n 0, 1) := by decide +kernel
set_option maxRecDepth 100000 in
theorem d_M_place_1 : decode prog_9_method_23_code 1 = .ok (.iload_n 1, 1) := by decide +kernel
set_option maxRecDepth 100000 in
theorem d_M_place_2 : decode prog_9_method_23_code 2 = .ok (.invokevirtual 75, 3) := by decide +kernel
set_option maxRecDepth 100000 in
theorem d_M_place_5 : decode prog_9_method_23_code 5 = .ok (.ifCond .eq 12, 3) := by decide +kernel
set_option maxRecDepth 100000 in
theorem d_M_place_8 : decode prog_9_method_23_code 8 = .ok (.aload_n 0, 1) := by decide +kernel
set_option maxRecDepth 100000 in
theorem d_M_place_9 : decode prog_9_method_23_code 9 = .ok (.getfield 28, 3) := by decide +kernel
set_option maxRecDepth 100000 in
theorem d_M_place_12 : decode prog_9_method_23_code 12 = .ok (.iload_n 1, 1) := by decide +kernel
set_option maxRecDepth 100000 in
theorem d_M_place_13 : decode prog_9_method_23_code 13 = .ok (.iaload, 1) := by decide +kernel
set_option maxRecDepth 100000 in
theorem d_M_place_14 : decode prog_9_method_23_code 14 = .ok (.goto 4, 3) := by decide +kernel
set_option maxRecDepth 100000 in
theorem d_M_place_17 : decode prog_9_method_23_code 17 = .ok (.iconst 0, 1) := by decide +kernel
set_option maxRecDepth 100000 in
theorem d_M_place_18 : decode prog_9_method_23_code 18 = .ok (.ireturn, 1) := by decide +kernel
set_option maxRecDepth 100000 in
theorem d_M_buffered_0 : decode prog_9_method_24_code 0 = .ok (.aload_n 0, 1) := by decide +kernel
set_option maxRecDepth 100000 in
theorem d_M_buffered_1 : decode prog_9_method_24_code 1 = .ok (.iload_n 1, 1) := by decide +kernel
set_option maxRecDepth 100000 in
theorem d_M_buffered_2 : decode prog_9_method_24_code 2 = .ok (.invokevirtual 75, 3) := by decide +kernel
set_option maxRecDepth 100000 in
theorem d_M_buffered_5 : decode prog_9_method_24_code 5 = .ok (.ifCond .eq 12, 3) := by decide +kernel
set_option maxRecDepth 100000 in
theorem d_M_buffered_8 : decode prog_9_method_24_code 8 = .ok (.aload_n 0, 1) := by decide +kernel
set_option maxRecDepth 100000 in
theorem d_M_buffered_9 : decode prog_9_method_24_code 9 = .ok (.getfield 31, 3) := by decide +kernel
set_option maxRecDepth 100000 in
theorem d_M_buffered_12 : decode prog_9_method_24_code 12 = .ok (.iload_n 1, 1) := by decide +kernel
set_option maxRecDepth 100000 in
theorem d_M_buffered_13 : decode prog_9_method_24_code 13 = .ok (.iaload, 1) := by decide +kernel
set_option maxRecDepth 100000 in
theorem d_M_buffered_14 : decode prog_9_method_24_code 14 = .ok (.goto 4, 3) := by decide +kernel
set_option maxRecDepth 100000 in
theorem d_M_buffered_17 : decode prog_9_method_24_code 17 = .ok (.iconst 0, 1) := by decide +kernel
set_option maxRecDepth 100000 in
theorem d_M_buffered_18 : decode prog_9_method_24_code 18 = .ok (.ireturn, 1) := by decide +kernel
set_option maxRecDepth 100000 in
theorem d_M_storeAddress_0 : decode prog_9_method_25_code 0 = .ok (.aload_n 0, 1) := by decide +kernel
set_option maxRecDepth 100000 in
theorem d_M_storeAddress_1 : decode prog_9_method_25_code 1 = .ok (.iload_n 1, 1) := by decide +kernel
set_option maxRecDepth 100000 in
theorem d_M_storeAddress_2 : decode prog_9_method_25_code 2 = .ok (.invokevirtual 75, 3) := by decide +kernel
set_option maxRecDepth 100000 in
theorem d_M_storeAddress_5 : decode prog_9_method_25_code 5 = .ok (.ifCond .ne 5, 3) := by decide +kernel
set_option maxRecDepth 100000 in
theorem d_M_storeAddress_8 : decode prog_9_method_25_code 8 = .ok (.iconst 0, 1) := by decide +kernel
set_option maxRecDepth 100000 in
theorem d_M_storeAddress_9 : decode prog_9_method_25_code 9 = .ok (.ireturn, 1) := by decide +kernel
set_option maxRecDepth 100000 in
theorem d_M_storeAddress_10 : decode prog_9_method_25_code 10 = .ok (.aload_n 0, 1) := by decide +kernel
set_option maxRecDepth 100000 in
theorem d_M_storeAddress_11 : decode prog_9_method_25_code 11 = .ok (.iload_n 2, 1) := by decide +kernel
set_option maxRecDepth 100000 in
theorem d_M_storeAddress_12 : decode prog_9_method_25_code 12 = .ok (.ifCond .lt 17, 3) := by decide +kernel
set_option maxRecDepth 100000 in
theorem d_M_storeAddress_15 : decode prog_9_method_25_code 15 = .ok (.iload_n 2, 1) := by decide +kernel
set_option maxRecDepth 100000 in
theorem d_M_storeAddress_16 : decode prog_9_method_25_code 16 = .ok (.aload_n 0, 1) := by decide +kernel
set_option maxRecDepth 100000 in
theorem d_M_storeAddress_17 : decode prog_9_method_25_code 17 = .ok (.getfield 31, 3) := by decide +kernel
set_option maxRecDepth 100000 in
theorem d_M_storeAddress_20 : decode prog_9_method_25_code 20 = .ok (.iload_n 1, 1) := by decide +kernel
set_option maxRecDepth 100000 in
theorem d_M_storeAddress_21 : decode prog_9_method_25_code 21 = .ok (.iaload, 1) := by decide +kernel
set_option maxRecDepth 100000 in
theorem d_M_storeAddress_22 : decode prog_9_method_25_code 22 = .ok (.if_icmp .ge 7, 3) := by decide +kernel
set_option maxRecDepth 100000 in
theorem d_M_storeAddress_25 : decode prog_9_method_25_code 25 = .ok (.iconst 0, 1) := by decide +kernel
set_option maxRecDepth 100000 in
theorem d_M_storeAddress_26 : decode prog_9_method_25_code 26 = .ok (.goto 4, 3) := by decide +kernel
set_option maxRecDepth 100000 in
theorem d_M_storeAddress_29 : decode prog_9_method_25_code 29 = .ok (.iconst 2, 1) := by decide +kernel
set_option maxRecDepth 100000 in
theorem d_M_storeAddress_30 : decode prog_9_method_25_code 30 = .ok (.putfield 72, 3) := by decide +kernel
set_option maxRecDepth 100000 in
theorem d_M_storeAddress_33 : decode prog_9_method_25_code 33 = .ok (.aload_n 0, 1) := by decide +kernel
set_option maxRecDepth 100000 in
theorem d_M_storeAddress_34 : decode prog_9_method_25_code 34 = .ok (.getfield 72, 3) := by decide +kernel
set_option maxRecDepth 100000 in
theorem d_M_storeAddress_37 : decode prog_9_method_25_code 37 = .ok (.ifCond .le 7, 3) := by decide +kernel
set_option maxRecDepth 100000 in
theorem d_M_storeAddress_40 : decode prog_9_method_25_code 40 = .ok (.iconst 0, 1) := by decide +kernel
set_option maxRecDepth 100000 in
theorem d_M_storeAddress_41 : decode prog_9_method_25_code 41 = .ok (.goto 13, 3) := by decide +kernel
set_option maxRecDepth 100000 in
theorem d_M_storeAddress_44 : decode prog_9_method_25_code 44 = .ok (.aload_n 0, 1) := by decide +kernel
set_option maxRecDepth 100000 in
theorem d_M_storeAddress_45 : decode prog_9_method_25_code 45 = .ok (.getfield 34, 3) := by decide +kernel
set_option maxRecDepth 100000 in
theorem d_M_storeAddress_48 : decode prog_9_method_25_code 48 = .ok (.iconst 4, 1) := by decide +kernel
set_option maxRecDepth 100000 in
theorem d_M_storeAddress_49 : decode prog_9_method_25_code 49 = .ok (.iload_n 1, 1) := by decide +kernel
set_option maxRecDepth 100000 in
theorem d_M_storeAddress_50 : decode prog_9_method_25_code 50 = .ok (.imul, 1) := by decide +kernel
set_option maxRecDepth 100000 in
theorem d_M_storeAddress_51 : decode prog_9_method_25_code 51 = .ok (.iload_n 2, 1) := by decide +kernel
set_option maxRecDepth 100000 in
theorem d_M_storeAddress_52 : decode prog_9_method_25_code 52 = .ok (.iadd, 1) := by decide +kernel
set_option maxRecDepth 100000 in
theorem d_M_storeAddress_53 : decode prog_9_method_25_code 53 = .ok (.iaload, 1) := by decide +kernel
set_option maxRecDepth 100000 in
theorem d_M_storeAddress_54 : decode prog_9_method_25_code 54 = .ok (.ireturn, 1) := by decide +kernel
set_option maxRecDepth 100000 in
theorem d_M_storeValue_0 : decode prog_9_method_26_code 0 = .ok (.aload_n 0, 1) := by decide +kernel
set_option maxRecDepth 100000 in
theorem d_M_storeValue_1 : decode prog_9_method_26_code 1 = .ok (.iload_n 1, 1) := by decide +kernel
set_option maxRecDepth 100000 in
theorem d_M_storeValue_2 : decode prog_9_method_26_code 2 = .ok (.invokevirtual 75, 3) := by decide +kernel
set_option maxRecDepth 100000 in
theorem d_M_storeValue_5 : decode prog_9_method_26_code 5 = .ok (.ifCond .ne 5, 3) := by decide +kernel
set_option maxRecDepth 100000 in
theorem d_M_storeValue_8 : decode prog_9_method_26_code 8 = .ok (.iconst 0, 1) := by decide +kernel
set_option maxRecDepth 100000 in
theorem d_M_storeValue_9 : decode prog_9_method_26_code 9 = .ok (.ireturn, 1) := by decide +kernel
set_option maxRecDepth 100000 in
theorem d_M_storeValue_10 : decode prog_9_method_26_code 10 = .ok (.aload_n 0, 1) := by decide +kernel
set_option maxRecDepth 100000 in
theorem d_M_storeValue_11 : decode prog_9_method_26_code 11 = .ok (.iload_n 2, 1) := by decide +kernel
set_option maxRecDepth 100000 in
theorem d_M_storeValue_12 : decode prog_9_method_26_code 12 = .ok (.ifCond .lt 17, 3) := by decide +kernel
set_option maxRecDepth 100000 in
theorem d_M_storeValue_15 : decode prog_9_method_26_code 15 = .ok (.iload_n 2, 1) := by decide +kernel
set_option maxRecDepth 100000 in
theorem d_M_storeValue_16 : decode prog_9_method_26_code 16 = .ok (.aload_n 0, 1) := by decide +kernel
set_option maxRecDepth 100000 in
theorem d_M_storeValue_17 : decode prog_9_method_26_code 17 = .ok (.getfield 31, 3) := by decide +kernel
set_option maxRecDepth 100000 in
theorem d_M_storeValue_20 : decode prog_9_method_26_code 20 = .ok (.iload_n 1, 1) := by decide +kernel
set_option maxRecDepth 100000 in
theorem d_M_storeValue_21 : decode prog_9_method_26_code 21 = .ok (.iaload, 1) := by decide +kernel
set_option maxRecDepth 100000 in
theorem d_M_storeValue_22 : decode prog_9_method_26_code 22 = .ok (.if_icmp .ge 7, 3) := by decide +kernel
set_option maxRecDepth 100000 in
theorem d_M_storeValue_25 : decode prog_9_method_26_code 25 = .ok (.iconst 0, 1) := by decide +kernel
set_option maxRecDepth 100000 in
theorem d_M_storeValue_26 : decode prog_9_method_26_code 26 = .ok (.goto 4, 3) := by decide +kernel
set_option maxRecDepth 100000 in
theorem d_M_storeValue_29 : decode prog_9_method_26_code 29 = .ok (.iconst 2, 1) := by decide +kernel
set_option maxRecDepth 100000 in
theorem d_M_storeValue_30 : decode prog_9_method_26_code 30 = .ok (.putfield 72, 3) := by decide +kernel
set_option maxRecDepth 100000 in
theorem d_M_storeValue_33 : decode prog_9_method_26_code 33 = .ok (.aload_n 0, 1) := by decide +kernel
set_option maxRecDepth 100000 in
theorem d_M_storeValue_34 : decode prog_9_method_26_code 34 = .ok (.getfield 72, 3) := by decide +kernel
set_option maxRecDepth 100000 in
theorem d_M_storeValue_37 : decode prog_9_method_26_code 37 = .ok (.ifCond .le 7, 3) := by decide +kernel
set_option maxRecDepth 100000 in
theorem d_M_storeValue_40 : decode prog_9_method_26_code 40 = .ok (.iconst 0, 1) := by decide +kernel
set_option maxRecDepth 100000 in
theorem d_M_storeValue_41 : decode prog_9_method_26_code 41 = .ok (.goto 13, 3) := by decide +kernel
set_option maxRecDepth 100000 in
theorem d_M_storeValue_44 : decode prog_9_method_26_code 44 = .ok (.aload_n 0, 1) := by decide +kernel
set_option maxRecDepth 100000 in
theorem d_M_storeValue_45 : decode prog_9_method_26_code 45 = .ok (.getfield 37, 3) := by decide +kernel
set_option maxRecDepth 100000 in
theorem d_M_storeValue_48 : decode prog_9_method_26_code 48 = .ok (.iconst 4, 1) := by decide +kernel
set_option maxRecDepth 100000 in
theorem d_M_storeValue_49 : decode prog_9_method_26_code 49 = .ok (.iload_n 1, 1) := by decide +kernel
set_option maxRecDepth 100000 in
theorem d_M_storeValue_50 : decode prog_9_method_26_code 50 = .ok (.imul, 1) := by decide +kernel
set_option maxRecDepth 100000 in
theorem d_M_storeValue_51 : decode prog_9_method_26_code 51 = .ok (.iload_n 2, 1) := by decide +kernel
set_option maxRecDepth 100000 in
theorem d_M_storeValue_52 : decode prog_9_method_26_code 52 = .ok (.iadd, 1) := by decide +kernel
set_option maxRecDepth 100000 in
theorem d_M_storeValue_53 : decode prog_9_method_26_code 53 = .ok (.iaload, 1) := by decide +kernel
set_option maxRecDepth 100000 in
theorem d_M_storeValue_54 : decode prog_9_method_26_code 54 = .ok (.ireturn, 1) := by decide +kernel
set_option maxRecDepth 100000 in
theorem d_M_line_0 : decode prog_9_method_27_code 0 = .ok (.aload_n 0, 1) := by decide +kernel
set_option maxRecDepth 100000 in
theorem d_M_line_1 : decode prog_9_method_27_code 1 = .ok (.iload_n 1, 1) := by decide +kernel
set_option maxRecDepth 100000 in
theorem d_M_line_2 : decode prog_9_method_27_code 2 = .ok (.invokevirtual 75, 3) := by decide +kernel
set_option maxRecDepth 100000 in
theorem d_M_line_5 : decode prog_9_method_27_code 5 = .ok (.ifCond .ne 5, 3) := by decide +kernel
set_option maxRecDepth 100000 in
theorem d_M_line_8 : decode prog_9_method_27_code 8 = .ok (.iconst 0, 1) := by decide +kernel
set_option maxRecDepth 100000 in
theorem d_M_line_9 : decode prog_9_method_27_code 9 = .ok (.ireturn, 1) := by decide +kernel
set_option maxRecDepth 100000 in
theorem d_M_line_10 : decode prog_9_method_27_code 10 = .ok (.aload_n 0, 1) := by decide +kernel
set_option maxRecDepth 100000 in
theorem d_M_line_11 : decode prog_9_method_27_code 11 = .ok (.iload_n 2, 1) := by decide +kernel
set_option maxRecDepth 100000 in
theorem d_M_line_12 : decode prog_9_method_27_code 12 = .ok (.ifCond .eq 8, 3) := by decide +kernel
set_option maxRecDepth 100000 in
theorem d_M_line_15 : decode prog_9_method_27_code 15 = .ok (.iload_n 2, 1) := by decide +kernel
set_option maxRecDepth 100000 in
theorem d_M_line_16 : decode prog_9_method_27_code 16 = .ok (.iconst 1, 1) := by decide +kernel
set_option maxRecDepth 100000 in
theorem d_M_line_17 : decode prog_9_method_27_code 17 = .ok (.if_icmp .ne 7, 3) := by decide +kernel
set_option maxRecDepth 100000 in
theorem d_M_line_20 : decode prog_9_method_27_code 20 = .ok (.iconst 0, 1) := by decide +kernel
set_option maxRecDepth 100000 in
theorem d_M_line_21 : decode prog_9_method_27_code 21 = .ok (.goto 4, 3) := by decide +kernel
set_option maxRecDepth 100000 in
theorem d_M_line_24 : decode prog_9_method_27_code 24 = .ok (.iconst 2, 1) := by decide +kernel
set_option maxRecDepth 100000 in
theorem d_M_line_25 : decode prog_9_method_27_code 25 = .ok (.putfield 72, 3) := by decide +kernel
set_option maxRecDepth 100000 in
theorem d_M_line_28 : decode prog_9_method_27_code 28 = .ok (.aload_n 0, 1) := by decide +kernel
set_option maxRecDepth 100000 in
theorem d_M_line_29 : decode prog_9_method_27_code 29 = .ok (.getfield 72, 3) := by decide +kernel
set_option maxRecDepth 100000 in
theorem d_M_line_32 : decode prog_9_method_27_code 32 = .ok (.ifCond .le 5, 3) := by decide +kernel
set_option maxRecDepth 100000 in
theorem d_M_line_35 : decode prog_9_method_27_code 35 = .ok (.iconst 0, 1) := by decide +kernel
set_option maxRecDepth 100000 in
theorem d_M_line_36 : decode prog_9_method_27_code 36 = .ok (.ireturn, 1) := by decide +kernel
set_option maxRecDepth 100000 in
theorem d_M_line_37 : decode prog_9_method_27_code 37 = .ok (.iconst 2, 1) := by decide +kernel
set_option maxRecDepth 100000 in
theorem d_M_line_38 : decode prog_9_method_27_code 38 = .ok (.iload_n 1, 1) := by decide +kernel
set_option maxRecDepth 100000 in
theorem d_M_line_39 : decode prog_9_method_27_code 39 = .ok (.imul, 1) := by decide +kernel
set_option maxRecDepth 100000 in
theorem d_M_line_40 : decode prog_9_method_27_code 40 = .ok (.iload_n 2, 1) := by decide +kernel
set_option maxRecDepth 100000 in
theorem d_M_line_41 : decode prog_9_method_27_code 41 = .ok (.iadd, 1) := by decide +kernel
set_option maxRecDepth 100000 in
theorem d_M_line_42 : decode prog_9_method_27_code 42 = .ok (.istore_n 3, 1) := by decide +kernel
set_option maxRecDepth 100000 in
theorem d_M_line_43 : decode prog_9_method_27_code 43 = .ok (.aload_n 0, 1) := by decide +kernel
set_option maxRecDepth 100000 in
theorem d_M_line_44 : decode prog_9_method_27_code 44 = .ok (.getfield 40, 3) := by decide +kernel
set_option maxRecDepth 100000 in
theorem d_M_line_47 : decode prog_9_method_27_code 47 = .ok (.iload_n 3, 1) := by decide +kernel
set_option maxRecDepth 100000 in
theorem d_M_line_48 : decode prog_9_method_27_code 48 = .ok (.iaload, 1) := by decide +kernel
set_option maxRecDepth 100000 in
theorem d_M_line_49 : decode prog_9_method_27_code 49 = .ok (.ifCond .ne 7, 3) := by decide +kernel
set_option maxRecDepth 100000 in
theorem d_M_line_52 : decode prog_9_method_27_code 52 = .ok (.iconst 0, 1) := by decide +kernel
set_option maxRecDepth 100000 in
theorem d_M_line_53 : decode prog_9_method_27_code 53 = .ok (.goto 18, 3) := by decide +kernel
set_option maxRecDepth 100000 in
theorem d_M_line_56 : decode prog_9_method_27_code 56 = .ok (.aload_n 0, 1) := by decide +kernel
set_option maxRecDepth 100000 in
theorem d_M_line_57 : decode prog_9_method_27_code 57 = .ok (.getfield 40, 3) := by decide +kernel
set_option maxRecDepth 100000 in
theorem d_M_line_60 : decode prog_9_method_27_code 60 = .ok (.iload_n 3, 1) := by decide +kernel
set_option maxRecDepth 100000 in
theorem d_M_line_61 : decode prog_9_method_27_code 61 = .ok (.iaload, 1) := by decide +kernel
set_option maxRecDepth 100000 in
theorem d_M_line_62 : decode prog_9_method_27_code 62 = .ok (.iconst 4, 1) := by decide +kernel
set_option maxRecDepth 100000 in
theorem d_M_line_63 : decode prog_9_method_27_code 63 = .ok (.aload_n 0, 1) := by decide +kernel
set_option maxRecDepth 100000 in
theorem d_M_line_64 : decode prog_9_method_27_code 64 = .ok (.getfield 43, 3) := by decide +kernel
set_option maxRecDepth 100000 in
theorem d_M_line_67 : decode prog_9_method_27_code 67 = .ok (.iload_n 3, 1) := by decide +kernel
set_option maxRecDepth 100000 in
theorem d_M_line_68 : decode prog_9_method_27_code 68 = .ok (.iaload, 1) := by decide +kernel
set_option maxRecDepth 100000 in
theorem d_M_line_69 : decode prog_9_method_27_code 69 = .ok (.imul, 1) := by decide +kernel
set_option maxRecDepth 100000 in
theorem d_M_line_70 : decode prog_9_method_27_code 70 = .ok (.iadd, 1) := by decide +kernel
set_option maxRecDepth 100000 in
theorem d_M_line_71 : decode prog_9_method_27_code 71 = .ok (.ireturn, 1) := by decide +kernel
set_option maxRecDepth 100000 in
theorem d_M_cached_0 : decode prog_9_method_28_code 0 = .ok (.aload_n 0, 1) := by decide +kernel
set_option maxRecDepth 100000 in
theorem d_M_cached_1 : decode prog_9_method_28_code 1 = .ok (.iload_n 1, 1) := by decide +kernel
set_option maxRecDepth 100000 in
theorem d_M_cached_2 : decode prog_9_method_28_code 2 = .ok (.invokevirtual 75, 3) := by decide +kernel
set_option maxRecDepth 100000 in
theorem d_M_cached_5 : decode prog_9_method_28_code 5 = .ok (.ifCond .ne 5, 3) := by decide +kernel
set_option maxRecDepth 100000 in
theorem d_M_cached_8 : decode prog_9_method_28_code 8 = .ok (.iconst 0, 1) := by decide +kernel
set_option maxRecDepth 100000 in
theorem d_M_cached_9 : decode prog_9_method_28_code 9 = .ok (.ireturn, 1) := by decide +kernel
set_option maxRecDepth 100000 in
theorem d_M_cached_10 : decode prog_9_method_28_code 10 = .ok (.aload_n 0, 1) := by decide +kernel
set_option maxRecDepth 100000 in
theorem d_M_cached_11 : decode prog_9_method_28_code 11 = .ok (.iload_n 2, 1) := by decide +kernel
set_option maxRecDepth 100000 in
theorem d_M_cached_12 : decode prog_9_method_28_code 12 = .ok (.ifCond .lt 9, 3) := by decide +kernel
set_option maxRecDepth 100000 in
theorem d_M_cached_15 : decode prog_9_method_28_code 15 = .ok (.iload_n 2, 1) := by decide +kernel
set_option maxRecDepth 100000 in
theorem d_M_cached_16 : decode prog_9_method_28_code 16 = .ok (.bipush 7, 2) := by decide +kernel
set_option maxRecDepth 100000 in
theorem d_M_cached_18 : decode prog_9_method_28_code 18 = .ok (.if_icmp .le 7, 3) := by decide +kernel
set_option maxRecDepth 100000 in
theorem d_M_cached_21 : decode prog_9_method_28_code 21 = .ok (.iconst 2, 1) := by decide +kernel
set_option maxRecDepth 100000 in
theorem d_M_cached_22 : decode prog_9_method_28_code 22 = .ok (.goto 17, 3) := by decide +kernel
set_option maxRecDepth 100000 in
theorem d_M_cached_25 : decode prog_9_method_28_code 25 = .ok (.aload_n 0, 1) := by decide +kernel
set_option maxRecDepth 100000 in
theorem d_M_cached_26 : decode prog_9_method_28_code 26 = .ok (.iload_n 1, 1) := by decide +kernel
set_option maxRecDepth 100000 in
theorem d_M_cached_27 : decode prog_9_method_28_code 27 = .ok (.iload_n 2, 1) := by decide +kernel
set_option maxRecDepth 100000 in
theorem d_M_cached_28 : decode prog_9_method_28_code 28 = .ok (.invokevirtual 86, 3) := by decide +kernel
set_option maxRecDepth 100000 in
theorem d_M_cached_31 : decode prog_9_method_28_code 31 = .ok (.ifCond .ne 7, 3) := by decide +kernel
set_option maxRecDepth 100000 in
theorem d_M_cached_34 : decode prog_9_method_28_code 34 = .ok (.iconst 3, 1) := by decide +kernel
set_option maxRecDepth 100000 in
theorem d_M_cached_35 : decode prog_9_method_28_code 35 = .ok (.goto 4, 3) := by decide +kernel
set_option maxRecDepth 100000 in
theorem d_M_cached_38 : decode prog_9_method_28_code 38 = .ok (.iconst 0, 1) := by decide +kernel
set_option maxRecDepth 100000 in
theorem d_M_cached_39 : decode prog_9_method_28_code 39 = .ok (.putfield 72, 3) := by decide +kernel
set_option maxRecDepth 100000 in
theorem d_M_cached_42 : decode prog_9_method_28_code 42 = .ok (.aload_n 0, 1) := by decide +kernel
set_option maxRecDepth 100000 in
theorem d_M_cached_43 : decode prog_9_method_28_code 43 = .ok (.getfield 72, 3) := by decide +kernel
set_option maxRecDepth 100000 in
theorem d_M_cached_46 : decode prog_9_method_28_code 46 = .ok (.ifCond .le 7, 3) := by decide +kernel
set_option maxRecDepth 100000 in
theorem d_M_cached_49 : decode prog_9_method_28_code 49 = .ok (.iconst 0, 1) := by decide +kernel
set_option maxRecDepth 100000 in
theorem d_M_cached_50 : decode prog_9_method_28_code 50 = .ok (.goto 14, 3) := by decide +kernel
set_option maxRecDepth 100000 in
theorem d_M_cached_53 : decode prog_9_method_28_code 53 = .ok (.aload_n 0, 1) := by decide +kernel
set_option maxRecDepth 100000 in
theorem d_M_cached_54 : decode prog_9_method_28_code 54 = .ok (.getfield 46, 3) := by decide +kernel
set_option maxRecDepth 100000 in
theorem d_M_cached_57 : decode prog_9_method_28_code 57 = .ok (.aload_n 0, 1) := by decide +kernel
set_option maxRecDepth 100000 in
theorem d_M_cached_58 : decode prog_9_method_28_code 58 = .ok (.iload_n 1, 1) := by decide +kernel
set_option maxRecDepth 100000 in
theorem d_M_cached_59 : decode prog_9_method_28_code 59 = .ok (.iload_n 2, 1) := by decide +kernel
set_option maxRecDepth 100000 in
theorem d_M_cached_60 : decode prog_9_method_28_code 60 = .ok (.invokevirtual 82, 3) := by decide +kernel
set_option maxRecDepth 100000 in
theorem d_M_cached_63 : decode prog_9_method_28_code 63 = .ok (.iaload, 1) := by decide +kernel
set_option maxRecDepth 100000 in
theorem d_M_cached_64 : decode prog_9_method_28_code 64 = .ok (.ireturn, 1) := by decide +kernel
set_option maxRecDepth 100000 in
theorem d_M_request_0 : decode prog_9_method_29_code 0 = .ok (.aload_n 0, 1) := by decide +kernel
set_option maxRecDepth 100000 in
theorem d_M_request_1 : decode prog_9_method_29_code 1 = .ok (.iload_n 1, 1) := by decide +kernel
set_option maxRecDepth 100000 in
theorem d_M_request_2 : decode prog_9_method_29_code 2 = .ok (.invokevirtual 75, 3) := by decide +kernel
set_option maxRecDepth 100000 in
theorem d_M_request_5 : decode prog_9_method_29_code 5 = .ok (.ifCond .ne 5, 3) := by decide +kernel
set_option maxRecDepth 100000 in
theorem d_M_request_8 : decode prog_9_method_29_code 8 = .ok (.iconst 0, 1) := by decide +kernel
set_option maxRecDepth 100000 in
theorem d_M_request_9 : decode prog_9_method_29_code 9 = .ok (.ireturn, 1) := by decide +kernel
set_option maxRecDepth 100000 in
theorem d_M_request_10 : decode prog_9_method_29_code 10 = .ok (.aload_n 0, 1) := by decide +kernel
set_option maxRecDepth 100000 in
theorem d_M_request_11 : decode prog_9_method_29_code 11 = .ok (.getfield 49, 3) := by decide +kernel
set_option maxRecDepth 100000 in
theorem d_M_request_14 : decode prog_9_method_29_code 14 = .ok (.iload_n 1, 1) := by decide +kernel
set_option maxRecDepth 100000 in
theorem d_M_request_15 : decode prog_9_method_29_code 15 = .ok (.iaload, 1) := by decide +kernel
set_option maxRecDepth 100000 in
theorem d_M_request_16 : decode prog_9_method_29_code 16 = .ok (.ifCond .ne 7, 3) := by decide +kernel
set_option maxRecDepth 100000 in
theorem d_M_request_19 : decode prog_9_method_29_code 19 = .ok (.iconst 0, 1) := by decide +kernel
set_option maxRecDepth 100000 in
theorem d_M_request_20 : decode prog_9_method_29_code 20 = .ok (.goto 34, 3) := by decide +kernel
set_option maxRecDepth 100000 in
theorem d_M_request_23 : decode prog_9_method_29_code 23 = .ok (.aload_n 0, 1) := by decide +kernel
set_option maxRecDepth 100000 in
theorem d_M_request_24 : decode prog_9_method_29_code 24 = .ok (.getfield 49, 3) := by decide +kernel
set_option maxRecDepth 100000 in
theorem d_M_request_27 : decode prog_9_method_29_code 27 = .ok (.iload_n 1, 1) := by decide +kernel
set_option maxRecDepth 100000 in
theorem d_M_request_28 : decode prog_9_method_29_code 28 = .ok (.iaload, 1) := by decide +kernel
set_option maxRecDepth 100000 in
theorem d_M_request_29 : decode prog_9_method_29_code 29 = .ok (.aload_n 0, 1) := by decide +kernel
set_option maxRecDepth 100000 in
theorem d_M_request_30 : decode prog_9_method_29_code 30 = .ok (.getfield 55, 3) := by decide +kernel
set_option maxRecDepth 100000 in
theorem d_M_request_33 : decode prog_9_method_29_code 33 = .ok (.iload_n 1, 1) := by decide +kernel
set_option maxRecDepth 100000 in
theorem d_M_request_34 : decode prog_9_method_29_code 34 = .ok (.baload, 1) := by decide +kernel
set_option maxRecDepth 100000 in
theorem d_M_request_35 : decode prog_9_method_29_code 35 = .ok (.ifCond .eq 7, 3) := by decide +kernel
set_option maxRecDepth 100000 in
theorem d_M_request_38 : decode prog_9_method_29_code 38 = .ok (.iconst 4, 1) := by decide +kernel
set_option maxRecDepth 100000 in
theorem d_M_request_39 : decode prog_9_method_29_code 39 = .ok (.goto 4, 3) := by decide +kernel
set_option maxRecDepth 100000 in
theorem d_M_request_42 : decode prog_9_method_29_code 42 = .ok (.iconst 0, 1) := by decide +kernel
set_option maxRecDepth 100000 in
theorem d_M_request_43 : decode prog_9_method_29_code 43 = .ok (.iadd, 1) := by decide +kernel
set_option maxRecDepth 100000 in
theorem d_M_request_44 : decode prog_9_method_29_code 44 = .ok (.bipush 8, 2) := by decide +kernel
set_option maxRecDepth 100000 in
theorem d_M_request_46 : decode prog_9_method_29_code 46 = .ok (.aload_n 0, 1) := by decide +kernel
set_option maxRecDepth 100000 in
theorem d_M_request_47 : decode prog_9_method_29_code 47 = .ok (.getfield 52, 3) := by decide +kernel
set_option maxRecDepth 100000 in
theorem d_M_request_50 : decode prog_9_method_29_code 50 = .ok (.iload_n 1, 1) := by decide +kernel
set_option maxRecDepth 100000 in
theorem d_M_request_51 : decode prog_9_method_29_code 51 = .ok (.iaload, 1) := by decide +kernel
set_option maxRecDepth 100000 in
theorem d_M_request_52 : decode prog_9_method_29_code 52 = .ok (.imul, 1) := by decide +kernel
set_option maxRecDepth 100000 in
theorem d_M_request_53 : decode prog_9_method_29_code 53 = .ok (.iadd, 1) := by decide +kernel
set_option maxRecDepth 100000 in
theorem d_M_request_54 : decode prog_9_method_29_code 54 = .ok (.ireturn, 1) := by decide +kernel
set_option maxRecDepth 100000 in
theorem d_M_memory_0 : decode prog_9_method_30_code 0 = .ok (.aload_n 0, 1) := by decide +kernel
set_option maxRecDepth 100000 in
theorem d_M_memory_1 : decode prog_9_method_30_code 1 = .ok (.iload_n 1, 1) := by decide +kernel
set_option maxRecDepth 100000 in
theorem d_M_memory_2 : decode prog_9_method_30_code 2 = .ok (.ifCond .lt 13, 3) := by decide +kernel
set_option maxRecDepth 100000 in
theorem d_M_memory_5 : decode prog_9_method_30_code 5 = .ok (.iload_n 1, 1) := by decide +kernel
set_option maxRecDepth 100000 in
theorem d_M_memory_6 : decode prog_9_method_30_code 6 = .ok (.bipush 8, 2) := by decide +kernel
set_option maxRecDepth 100000 in
theorem d_M_memory_8 : decode prog_9_method_30_code 8 = .ok (.if_icmp .ge 7, 3) := by decide +kernel
set_option maxRecDepth 100000 in
theorem d_M_memory_11 : decode prog_9_method_30_code 11 = .ok (.iconst 0, 1) := by decide +kernel
set_option maxRecDepth 100000 in
theorem d_M_memory_12 : decode prog_9_method_30_code 12 = .ok (.goto 4, 3) := by decide +kernel
set_option maxRecDepth 100000 in
theorem d_M_memory_15 : decode prog_9_method_30_code 15 = .ok (.iconst 1, 1) := by decide +kernel
set_option maxRecDepth 100000 in
theorem d_M_memory_16 : decode prog_9_method_30_code 16 = .ok (.putfield 72, 3) := by decide +kernel
set_option maxRecDepth 100000 in
theorem d_M_memory_19 : decode prog_9_method_30_code 19 = .ok (.aload_n 0, 1) := by decide +kernel
set_option maxRecDepth 100000 in
theorem d_M_memory_20 : decode prog_9_method_30_code 20 = .ok (.getfield 72, 3) := by decide +kernel
set_option maxRecDepth 100000 in
theorem d_M_memory_23 : decode prog_9_method_30_code 23 = .ok (.ifCond .le 7, 3) := by decide +kernel
set_option maxRecDepth 100000 in
theorem d_M_memory_26 : decode prog_9_method_30_code 26 = .ok (.iconst 0, 1) := by decide +kernel
set_option maxRecDepth 100000 in
theorem d_M_memory_27 : decode prog_9_method_30_code 27 = .ok (.goto 9, 3) := by decide +kernel
set_option maxRecDepth 100000 in
theorem d_M_memory_30 : decode prog_9_method_30_code 30 = .ok (.aload_n 0, 1) := by decide +kernel
set_option maxRecDepth 100000 in
theorem d_M_memory_31 : decode prog_9_method_30_code 31 = .ok (.getfield 7, 3) := by decide +kernel
set_option maxRecDepth 100000 in
theorem d_M_memory_34 : decode prog_9_method_30_code 34 = .ok (.iload_n 1, 1) := by decide +kernel
set_option maxRecDepth 100000 in
theorem d_M_memory_35 : decode prog_9_method_30_code 35 = .ok (.iaload, 1) := by decide +kernel
set_option maxRecDepth 100000 in
theorem d_M_memory_36 : decode prog_9_method_30_code 36 = .ok (.ireturn, 1) := by decide +kernel
set_option maxRecDepth 100000 in
theorem d_M_word_0 : decode prog_9_method_31_code 0 = .ok (.aload_n 0, 1) := by decide +kernel
set_option maxRecDepth 100000 in
theorem d_M_word_1 : decode prog_9_method_31_code 1 = .ok (.iload_n 1, 1) := by decide +kernel
set_option maxRecDepth 100000 in
theorem d_M_word_2 : decode prog_9_method_31_code 2 = .ok (.ifCond .lt 13, 3) := by decide +kernel
set_option maxRecDepth 100000 in
theorem d_M_word_5 : decode prog_9_method_31_code 5 = .ok (.iload_n 1, 1) := by decide +kernel
set_option maxRecDepth 100000 in
theorem d_M_word_6 : decode prog_9_method_31_code 6 = .ok (.bipush 8, 2) := by decide +kernel
set_option maxRecDepth 100000 in
theorem d_M_word_8 : decode prog_9_method_31_code 8 = .ok (.if_icmp .ge 7, 3) := by decide +kernel
set_option maxRecDepth 100000 in
theorem d_M_word_11 : decode prog_9_method_31_code 11 = .ok (.iconst 0, 1) := by decide +kernel
set_option maxRecDepth 100000 in
theorem d_M_word_12 : decode prog_9_method_31_code 12 = .ok (.goto 4, 3) := by decide +kernel
set_option maxRecDepth 100000 in
theorem d_M_word_15 : decode prog_9_method_31_code 15 = .ok (.iconst 1, 1) := by decide +kernel
set_option maxRecDepth 100000 in
theorem d_M_word_16 : decode prog_9_method_31_code 16 = .ok (.putfield 72, 3) := by decide +kernel
set_option maxRecDepth 100000 in
theorem d_M_word_19 : decode prog_9_method_31_code 19 = .ok (.aload_n 0, 1) := by decide +kernel
set_option maxRecDepth 100000 in
theorem d_M_word_20 : decode prog_9_method_31_code 20 = .ok (.getfield 72, 3) := by decide +kernel
set_option maxRecDepth 100000 in
theorem d_M_word_23 : decode prog_9_method_31_code 23 = .ok (.ifCond .le 7, 3) := by decide +kernel
set_option maxRecDepth 100000 in
theorem d_M_word_26 : decode prog_9_method_31_code 26 = .ok (.iconst 0, 1) := by decide +kernel
set_option maxRecDepth 100000 in
theorem d_M_word_27 : decode prog_9_method_31_code 27 = .ok (.goto 8, 3) := by decide +kernel
set_option maxRecDepth 100000 in
theorem d_M_word_30 : decode prog_9_method_31_code 30 = .ok (.aload_n 0, 1) := by decide +kernel
set_option maxRecDepth 100000 in
theorem d_M_word_31 : decode prog_9_method_31_code 31 = .ok (.iload_n 1, 1) := by decide +kernel
set_option maxRecDepth 100000 in
theorem d_M_word_32 : decode prog_9_method_31_code 32 = .ok (.invokevirtual 122, 3) := by decide +kernel
set_option maxRecDepth 100000 in
theorem d_M_word_35 : decode prog_9_method_31_code 35 = .ok (.ireturn, 1) := by decide +kernel
set_option maxRecDepth 100000 in
theorem d_M_events_0 : decode prog_9_method_32_code 0 = .ok (.aload_n 0, 1) := by decide +kernel
set_option maxRecDepth 100000 in
theorem d_M_events_1 : decode prog_9_method_32_code 1 = .ok (.iconst 0, 1) := by decide +kernel
set_option maxRecDepth 100000 in
theorem d_M_events_2 : decode prog_9_method_32_code 2 = .ok (.putfield 72, 3) := by decide +kernel
set_option maxRecDepth 100000 in
theorem d_M_events_5 : decode prog_9_method_32_code 5 = .ok (.aload_n 0, 1) := by decide +kernel
set_option maxRecDepth 100000 in
theorem d_M_events_6 : decode prog_9_method_32_code 6 = .ok (.getfield 90, 3) := by decide +kernel
set_option maxRecDepth 100000 in
theorem d_M_events_9 : decode prog_9_method_32_code 9 = .ok (.ireturn, 1) := by decide +kernel
set_option maxRecDepth 100000 in
theorem d_M_event_0 : decode prog_9_method_33_code 0 = .ok (.aload_n 0, 1) := by decide +kernel
set_option maxRecDepth 100000 in
theorem d_M_event_1 : decode prog_9_method_33_code 1 = .ok (.iload_n 1, 1) := by decide +kernel
set_option maxRecDepth 100000 in
theorem d_M_event_2 : decode prog_9_method_33_code 2 = .ok (.ifCond .lt 26, 3) := by decide +kernel
set_option maxRecDepth 100000 in
theorem d_M_event_5 : decode prog_9_method_33_code 5 = .ok (.iload_n 1, 1) := by decide +kernel
set_option maxRecDepth 100000 in
theorem d_M_event_6 : decode prog_9_method_33_code 6 = .ok (.aload_n 0, 1) := by decide +kernel
set_option maxRecDepth 100000 in
theorem d_M_event_7 : decode prog_9_method_33_code 7 = .ok (.getfield 90, 3) := by decide +kernel
set_option maxRecDepth 100000 in
theorem d_M_event_10 : decode prog_9_method_33_code 10 = .ok (.if_icmp .ge 18, 3) := by decide +kernel
set_option maxRecDepth 100000 in
theorem d_M_event_13 : decode prog_9_method_33_code 13 = .ok (.iload_n 1, 1) := by decide +kernel
set_option maxRecDepth 100000 in
theorem d_M_event_14 : decode prog_9_method_33_code 14 = .ok (.aload_n 0, 1) := by decide +kernel
set_option maxRecDepth 100000 in
theorem d_M_event_15 : decode prog_9_method_33_code 15 = .ok (.getfield 90, 3) := by decide +kernel
set_option maxRecDepth 100000 in
theorem d_M_event_18 : decode prog_9_method_33_code 18 = .ok (.bipush 40, 2) := by decide +kernel
set_option maxRecDepth 100000 in
theorem d_M_event_20 : decode prog_9_method_33_code 20 = .ok (.isub, 1) := by decide +kernel
set_option maxRecDepth 100000 in
theorem d_M_event_21 : decode prog_9_method_33_code 21 = .ok (.if_icmp .lt 7, 3) := by decide +kernel
set_option maxRecDepth 100000 in
theorem d_M_event_24 : decode prog_9_method_33_code 24 = .ok (.iconst 0, 1) := by decide +kernel
set_option maxRecDepth 100000 in
theorem d_M_event_25 : decode prog_9_method_33_code 25 = .ok (.goto 4, 3) := by decide +kernel
set_option maxRecDepth 100000 in
theorem d_M_event_28 : decode prog_9_method_33_code 28 = .ok (.iconst 1, 1) := by decide +kernel
set_option maxRecDepth 100000 in
theorem d_M_event_29 : decode prog_9_method_33_code 29 = .ok (.putfield 72, 3) := by decide +kernel
set_option maxRecDepth 100000 in
theorem d_M_event_32 : decode prog_9_method_33_code 32 = .ok (.aload_n 0, 1) := by decide +kernel
set_option maxRecDepth 100000 in
theorem d_M_event_33 : decode prog_9_method_33_code 33 = .ok (.getfield 72, 3) := by decide +kernel
set_option maxRecDepth 100000 in
theorem d_M_event_36 : decode prog_9_method_33_code 36 = .ok (.ifCond .le 7, 3) := by decide +kernel
set_option maxRecDepth 100000 in
theorem d_M_event_39 : decode prog_9_method_33_code 39 = .ok (.iconst 0, 1) := by decide +kernel
set_option maxRecDepth 100000 in
theorem d_M_event_40 : decode prog_9_method_33_code 40 = .ok (.goto 12, 3) := by decide +kernel
set_option maxRecDepth 100000 in
theorem d_M_event_43 : decode prog_9_method_33_code 43 = .ok (.aload_n 0, 1) := by decide +kernel
set_option maxRecDepth 100000 in
theorem d_M_event_44 : decode prog_9_method_33_code 44 = .ok (.getfield 62, 3) := by decide +kernel
set_option maxRecDepth 100000 in
theorem d_M_event_47 : decode prog_9_method_33_code 47 = .ok (.iload_n 1, 1) := by decide +kernel
set_option maxRecDepth 100000 in
theorem d_M_event_48 : decode prog_9_method_33_code 48 = .ok (.bipush 40, 2) := by decide +kernel
set_option maxRecDepth 100000 in
theorem d_M_event_50 : decode prog_9_method_33_code 50 = .ok (.irem, 1) := by decide +kernel
set_option maxRecDepth 100000 in
theorem d_M_event_51 : decode prog_9_method_33_code 51 = .ok (.iaload, 1) := by decide +kernel
set_option maxRecDepth 100000 in
theorem d_M_event_52 : decode prog_9_method_33_code 52 = .ok (.ireturn, 1) := by decide +kernel
set_option maxRecDepth 100000 in
theorem d_M_eventValue_0 : decode prog_9_method_34_code 0 = .ok (.aload_n 0, 1) := by decide +kernel
set_option maxRecDepth 100000 in
theorem d_M_eventValue_1 : decode prog_9_method_34_code 1 = .ok (.iload_n 1, 1) := by decide +kernel
set_option maxRecDepth 100000 in
theorem d_M_eventValue_2 : decode prog_9_method_34_code 2 = .ok (.ifCond .lt 26, 3) := by decide +kernel
set_option maxRecDepth 100000 in
theorem d_M_eventValue_5 : decode prog_9_method_34_code 5 = .ok (.iload_n 1, 1) := by decide +kernel
set_option maxRecDepth 100000 in
theorem d_M_eventValue_6 : decode prog_9_method_34_code 6 = .ok (.aload_n 0, 1) := by decide +kernel
set_option maxRecDepth 100000 in
theorem d_M_eventValue_7 : decode prog_9_method_34_code 7 = .ok (.getfield 90, 3) := by decide +kernel
set_option maxRecDepth 100000 in
theorem d_M_eventValue_10 : decode prog_9_method_34_code 10 = .ok (.if_icmp .ge 18, 3) := by decide +kernel
set_option maxRecDepth 100000 in
theorem d_M_eventValue_13 : decode prog_9_method_34_code 13 = .ok (.iload_n 1, 1) := by decide +kernel
set_option maxRecDepth 100000 in
theorem d_M_eventValue_14 : decode prog_9_method_34_code 14 = .ok (.aload_n 0, 1) := by decide +kernel
set_option maxRecDepth 100000 in
theorem d_M_eventValue_15 : decode prog_9_method_34_code 15 = .ok (.getfield 90, 3) := by decide +kernel
set_option maxRecDepth 100000 in
theorem d_M_eventValue_18 : decode prog_9_method_34_code 18 = .ok (.bipush 40, 2) := by decide +kernel
set_option maxRecDepth 100000 in
theorem d_M_eventValue_20 : decode prog_9_method_34_code 20 = .ok (.isub, 1) := by decide +kernel
set_option maxRecDepth 100000 in
theorem d_M_eventValue_21 : decode prog_9_method_34_code 21 = .ok (.if_icmp .lt 7, 3) := by decide +kernel
set_option maxRecDepth 100000 in
theorem d_M_eventValue_24 : decode prog_9_method_34_code 24 = .ok (.iconst 0, 1) := by decide +kernel
set_option maxRecDepth 100000 in
theorem d_M_eventValue_25 : decode prog_9_method_34_code 25 = .ok (.goto 4, 3) := by decide +kernel
set_option maxRecDepth 100000 in
theorem d_M_eventValue_28 : decode prog_9_method_34_code 28 = .ok (.iconst 1, 1) := by decide +kernel
set_option maxRecDepth 100000 in
theorem d_M_eventValue_29 : decode prog_9_method_34_code 29 = .ok (.putfield 72, 3) := by decide +kernel
set_option maxRecDepth 100000 in
theorem d_M_eventValue_32 : decode prog_9_method_34_code 32 = .ok (.aload_n 0, 1) := by decide +kernel
set_option maxRecDepth 100000 in
theorem d_M_eventValue_33 : decode prog_9_method_34_code 33 = .ok (.getfield 72, 3) := by decide +kernel
set_option maxRecDepth 100000 in
theorem d_M_eventValue_36 : decode prog_9_method_34_code 36 = .ok (.ifCond .le 7, 3) := by decide +kernel
set_option maxRecDepth 100000 in
theorem d_M_eventValue_39 : decode prog_9_method_34_code 39 = .ok (.iconst 0, 1) := by decide +kernel
set_option maxRecDepth 100000 in
theorem d_M_eventValue_40 : decode prog_9_method_34_code 40 = .ok (.goto 12, 3) := by decide +kernel
set_option maxRecDepth 100000 in
theorem d_M_eventValue_43 : decode prog_9_method_34_code 43 = .ok (.aload_n 0, 1) := by decide +kernel
set_option maxRecDepth 100000 in
theorem d_M_eventValue_44 : decode prog_9_method_34_code 44 = .ok (.getfield 65, 3) := by decide +kernel
set_option maxRecDepth 100000 in
theorem d_M_eventValue_47 : decode prog_9_method_34_code 47 = .ok (.iload_n 1, 1) := by decide +kernel
set_option maxRecDepth 100000 in
theorem d_M_eventValue_48 : decode prog_9_method_34_code 48 = .ok (.bipush 40, 2) := by decide +kernel
set_option maxRecDepth 100000 in
theorem d_M_eventValue_50 : decode prog_9_method_34_code 50 = .ok (.irem, 1) := by decide +kernel
set_option maxRecDepth 100000 in
theorem d_M_eventValue_51 : decode prog_9_method_34_code 51 = .ok (.iaload, 1) := by decide +kernel
set_option maxRecDepth 100000 in
theorem d_M_eventValue_52 : decode prog_9_method_34_code 52 = .ok (.ireturn, 1) := by decide +kernel
set_option maxRecDepth 100000 in
theorem s_M_init_1 : zObj m_M_init 1 := ⟨1, d_M_init_1, List.mem_cons_of_mem _ w_583, List.mem_cons_of_mem _ w_23, List.mem_cons_of_mem _ w_24⟩
set_option maxRecDepth 100000 in
theorem s_M_init_7 : Cond.arrayClass .int ∈ m_M_init.2.2.2.2.1 := List.mem_cons_of_mem _ w_61
set_option maxRecDepth 100000 in
theorem s_M_init_9 : zPut m_M_init 9 7 2 (.array .int) := ⟨7, R_M, T_M, 22, ty_M, d_M_init_9, rfl, by decide, fun w hw => List.mem_cons_of_mem _ (uws_M w hw), List.mem_cons_of_mem _ w_586, tyok_M, nm_M, tyok_M 2 (by decide), Or.inr ⟨rfl, rfl, rfl⟩⟩
set_option maxRecDepth 100000 in
theorem s_M_init_15 : Cond.arrayClass .int ∈ m_M_init.2.2.2.2.1 := List.mem_cons_of_mem _ w_61
set_option maxRecDepth 100000 in
theorem s_M_init_17 : zPut m_M_init 17 7 3 (.array .int) := ⟨13, R_M, T_M, 22, ty_M, d_M_init_17, rfl, by decide, fun w hw => List.mem_cons_of_mem _ (uws_M w hw), List.mem_cons_of_mem _ w_587, tyok_M, nm_M, tyok_M 3 (by decide), Or.inr ⟨rfl, rfl, rfl⟩⟩
set_option maxRecDepth 100000 in
theorem s_M_init_22 : Cond.arrayClass .int ∈ m_M_init.2.2.2.2.1 := List.mem_cons_of_mem _ w_61
set_option maxRecDepth 100000 in
theorem s_M_init_24 : zPut m_M_init 24 7 4 (.array .int) := ⟨16, R_M, T_M, 22, ty_M, d_M_init_24, rfl, by decide, fun w hw => List.mem_cons_of_mem _ (uws_M w hw), List.mem_cons_of_mem _ w_588, tyok_M, nm_M, tyok_M 4 (by decide), Or.inr ⟨rfl, rfl, rfl⟩⟩
set_option maxRecDepth 100000 in
theorem s_M_init_30 : Cond.arrayClass .int ∈ m_M_init.2.2.2.2.1 := List.mem_cons_of_mem _ w_61
set_option maxRecDepth 100000 in
theorem s_M_init_32 : zPut m_M_init 32 7 5 (.array .int) := ⟨19, R_M, T_M, 22, ty_M, d_M_init_32, rfl, by decide, fun w hw => List.mem_cons_of_mem _ (uws_M w hw), List.mem_cons_of_mem _ w_589, tyok_M, nm_M, tyok_M 5 (by decide), Or.inr ⟨rfl, rfl, rfl⟩⟩
set_option maxRecDepth 100000 in
theorem s_M_init_38 : Cond.arrayClass .int ∈ m_M_init.2.2.2.2.1 := List.mem_cons_of_mem _ w_61
set_option maxRecDepth 100000 in
theorem s_M_init_40 : zPut m_M_init 40 7 6 (.array .int) := ⟨22, R_M, T_M, 22, ty_M, d_M_init_40, rfl, by decide, fun w hw => List.mem_cons_of_mem _ (uws_M w hw), List.mem_cons_of_mem _ w_590, tyok_M, nm_M, tyok_M 6 (by decide), Or.inr ⟨rfl, rfl, rfl⟩⟩
set_option maxRecDepth 100000 in
theorem s_M_init_46 : Cond.arrayClass .int ∈ m_M_init.2.2.2.2.1 := List.mem_cons_of_mem _ w_61
set_option maxRecDepth 100000 in
theorem s_M_init_48 : zPut m_M_init 48 7 7 (.array .int) := ⟨25, R_M, T_M, 22, ty_M, d_M_init_48, rfl, by decide, fun w hw => List.mem_cons_of_mem _ (uws_M w hw), List.mem_cons_of_mem _ w_591, tyok_M, nm_M, tyok_M 7 (by decide), Or.inr ⟨rfl, rfl, rfl⟩⟩
set_option maxRecDepth 100000 in
theorem s_M_init_53 : Cond.arrayClass .int ∈ m_M_init.2.2.2.2.1 := List.mem_cons_of_mem _ w_61
set_option maxRecDepth 100000 in
theorem s_M_init_55 : zPut m_M_init 55 7 8 (.array .int) := ⟨28, R_M, T_M, 22, ty_M, d_M_init_55, rfl, by decide, fun w hw => List.mem_cons_of_mem _ (uws_M w hw), List.mem_cons_of_mem _ w_592, tyok_M, nm_M, tyok_M 8 (by decide), Or.inr ⟨rfl, rfl, rfl⟩⟩
set_option maxRecDepth 100000 in
theorem s_M_init_60 : Cond.arrayClass .int ∈ m_M_init.2.2.2.2.1 := List.mem_cons_of_mem _ w_61
set_option maxRecDepth 100000 in
theorem s_M_init_62 : zPut m_M_init 62 7 9 (.array .int) := ⟨31, R_M, T_M, 22, ty_M, d_M_init_62, rfl, by decide, fun w hw => List.mem_cons_of_mem _ (uws_M w hw), List.mem_cons_of_mem _ w_593, tyok_M, nm_M, tyok_M 9 (by decide), Or.inr ⟨rfl, rfl, rfl⟩⟩
set_option maxRecDepth 100000 in
theorem s_M_init_68 : Cond.arrayClass .int ∈ m_M_init.2.2.2.2.1 := List.mem_cons_of_mem _ w_61
set_option maxRecDepth 100000 in
theorem s_M_init_70 : zPut m_M_init 70 7 10 (.array .int) := ⟨34, R_M, T_M, 22, ty_M, d_M_init_70, rfl, by decide, fun w hw => List.mem_cons_of_mem _ (uws_M w hw), List.mem_cons_of_mem _ w_594, tyok_M, nm_M, tyok_M 10 (by decide), Or.inr ⟨rfl, rfl, rfl⟩⟩
set_option maxRecDepth 100000 in
theorem s_M_init_76 : Cond.arrayClass .int ∈ m_M_init.2.2.2.2.1 := List.mem_cons_of_mem _ w_61
set_option maxRecDepth 100000 in
theorem s_M_init_78 : zPut m_M_init 78 7 11 (.array .int) := ⟨37, R_M, T_M, 22, ty_M, d_M_init_78, rfl, by decide, fun w hw => List.mem_cons_of_mem _ (uws_M w hw), List.mem_cons_of_mem _ w_595, tyok_M, nm_M, tyok_M 11 (by decide), Or.inr ⟨rfl, rfl, rfl⟩⟩
set_option maxRecDepth 100000 in
theorem s_M_init_84 : Cond.arrayClass .int ∈ m_M_init.2.2.2.2.1 := List.mem_cons_of_mem _ w_61
set_option maxRecDepth 100000 in
theorem s_M_init_86 : zPut m_M_init 86 7 12 (.array .int) := ⟨40, R_M, T_M, 22, ty_M, d_M_init_86, rfl, by decide, fun w hw => List.mem_cons_of_mem _ (uws_M w hw), List.mem_cons_of_mem _ w_596, tyok_M, nm_M, tyok_M 12 (by decide), Or.inr ⟨rfl, rfl, rfl⟩⟩
set_option maxRecDepth 100000 in
theorem s_M_init_92 : Cond.arrayClass .int ∈ m_M_init.2.2.2.2.1 := List.mem_cons_of_mem _ w_61
set_option maxRecDepth 100000 in
theorem s_M_init_94 : zPut m_M_init 94 7 13 (.array .int) := ⟨43, R_M, T_M, 22, ty_M, d_M_init_94, rfl, by decide, fun w hw => List.mem_cons_of_mem _ (uws_M w hw), List.mem_cons_of_mem _ w_597, tyok_M, nm_M, tyok_M 13 (by decide), Or.inr ⟨rfl, rfl, rfl⟩⟩
set_option maxRecDepth 100000 in
theorem s_M_init_100 : Cond.arrayClass .int ∈ m_M_init.2.2.2.2.1 := List.mem_cons_of_mem _ w_61
set_option maxRecDepth 100000 in
theorem s_M_init_102 : zPut m_M_init 102 7 14 (.array .int) := ⟨46, R_M, T_M, 22, ty_M, d_M_init_102, rfl, by decide, fun w hw => List.mem_cons_of_mem _ (uws_M w hw), List.mem_cons_of_mem _ w_598, tyok_M, nm_M, tyok_M 14 (by decide), Or.inr ⟨rfl, rfl, rfl⟩⟩
set_option maxRecDepth 100000 in
theorem s_M_init_107 : Cond.arrayClass .int ∈ m_M_init.2.2.2.2.1 := List.mem_cons_of_mem _ w_61
set_option maxRecDepth 100000 in
theorem s_M_init_109 : zPut m_M_init 109 7 15 (.array .int) := ⟨49, R_M, T_M, 22, ty_M, d_M_init_109, rfl, by decide, fun w hw => List.mem_cons_of_mem _ (uws_M w hw), List.mem_cons_of_mem _ w_599, tyok_M, nm_M, tyok_M 15 (by decide), Or.inr ⟨rfl, rfl, rfl⟩⟩
set_option maxRecDepth 100000 in
theorem s_M_init_114 : Cond.arrayClass .int ∈ m_M_init.2.2.2.2.1 := List.mem_cons_of_mem _ w_61
set_option maxRecDepth 100000 in
theorem s_M_init_116 : zPut m_M_init 116 7 16 (.array .int) := ⟨52, R_M, T_M, 22, ty_M, d_M_init_116, rfl, by decide, fun w hw => List.mem_cons_of_mem _ (uws_M w hw), List.mem_cons_of_mem _ w_600, tyok_M, nm_M, tyok_M 16 (by decide), Or.inr ⟨rfl, rfl, rfl⟩⟩
set_option maxRecDepth 100000 in
theorem s_M_init_121 : Cond.arrayClass .boolean ∈ m_M_init.2.2.2.2.1 := List.mem_cons_of_mem _ w_651
set_option maxRecDepth 100000 in
theorem s_M_init_123 : zPut m_M_init 123 7 17 (.array .boolean) := ⟨55, R_M, T_M, 22, ty_M, d_M_init_123, rfl, by decide, fun w hw => List.mem_cons_of_mem _ (uws_M w hw), List.mem_cons_of_mem _ w_601, tyok_M, nm_M, tyok_M 17 (by decide), Or.inr ⟨rfl, rfl, rfl⟩⟩
set_option maxRecDepth 100000 in
theorem s_M_init_128 : Cond.arrayClass .int ∈ m_M_init.2.2.2.2.1 := List.mem_cons_of_mem _ w_61
set_option maxRecDepth 100000 in
theorem s_M_init_130 : zPut m_M_init 130 7 18 (.array .int) := ⟨59, R_M, T_M, 22, ty_M, d_M_init_130, rfl, by decide, fun w hw => List.mem_cons_of_mem _ (uws_M w hw), List.mem_cons_of_mem _ w_602, tyok_M, nm_M, tyok_M 18 (by decide), Or.inr ⟨rfl, rfl, rfl⟩⟩
set_option maxRecDepth 100000 in
theorem s_M_init_136 : Cond.arrayClass .int ∈ m_M_init.2.2.2.2.1 := List.mem_cons_of_mem _ w_61
set_option maxRecDepth 100000 in
theorem s_M_init_138 : zPut m_M_init 138 7 20 (.array .int) := ⟨62, R_M, T_M, 22, ty_M, d_M_init_138, rfl, by decide, fun w hw => List.mem_cons_of_mem _ (uws_M w hw), List.mem_cons_of_mem _ w_604, tyok_M, nm_M, tyok_M 20 (by decide), Or.inr ⟨rfl, rfl, rfl⟩⟩
set_option maxRecDepth 100000 in
theorem s_M_init_144 : Cond.arrayClass .int ∈ m_M_init.2.2.2.2.1 := List.mem_cons_of_mem _ w_61
set_option maxRecDepth 100000 in
theorem s_M_init_146 : zPut m_M_init 146 7 21 (.array .int) := ⟨65, R_M, T_M, 22, ty_M, d_M_init_146, rfl, by decide, fun w hw => List.mem_cons_of_mem _ (uws_M w hw), List.mem_cons_of_mem _ w_605, tyok_M, nm_M, tyok_M 21 (by decide), Or.inr ⟨rfl, rfl, rfl⟩⟩
set_option maxRecDepth 100000 in
theorem s_M_init_169 : zPut m_M_init 169 7 1 (.int) := ⟨68, R_M, T_M, 22, ty_M, d_M_init_169, rfl, by decide, fun w hw => List.mem_cons_of_mem _ (uws_M w hw), List.mem_cons_of_mem _ w_585, tyok_M, nm_M, tyok_M 1 (by decide), Or.inr ⟨rfl, rfl, rfl⟩⟩
set_option maxRecDepth 100000 in
theorem s_M_thrown_1 : zGet m_M_thrown 1 7 0 := ⟨72, R_M, T_M, 22, d_M_thrown_1, rfl, by decide, fun w hw => List.mem_cons_of_mem _ (uws_M w hw), List.mem_cons_of_mem _ w_584⟩
set_option maxRecDepth 100000 in
theorem s_M_code_2 : zCV m_M_code 2 m_M_core 1 := ⟨75, zT, d_M_code_2, zGoodV w_660 w_662 ws_13 w_9 w_663, rfl, ⟨by decide +kernel, by decide +kernel, by decide +kernel⟩, ⟨by decide, by decide⟩⟩
set_option maxRecDepth 100000 in
theorem s_M_code_22 : zCS m_M_code 22 m_M_isRegister 1 := ⟨79, zT, d_M_code_22, zGoodS w_664 w_665 w_9 w_666, Or.inl rfl, ⟨by decide +kernel, by decide +kernel, by decide +kernel⟩, ⟨by decide, by decide⟩⟩
set_option maxRecDepth 100000 in
theorem s_M_code_56 : zCS m_M_code 56 m_M_isRegister 1 := ⟨79, zT, d_M_code_56, zGoodS w_664 w_665 w_9 w_666, Or.inl rfl, ⟨by decide +kernel, by decide +kernel, by decide +kernel⟩, ⟨by decide, by decide⟩⟩
set_option maxRecDepth 100000 in
theorem s_M_code_113 : zGet m_M_code 113 7 4 := ⟨16, R_M, T_M, 22, d_M_code_113, rfl, by decide, fun w hw => List.mem_cons_of_mem _ (uws_M w hw), List.mem_cons_of_mem _ w_588⟩
set_option maxRecDepth 100000 in
theorem s_M_code_128 : zPut m_M_code 128 7 0 (.int) := ⟨72, R_M, T_M, 22, ty_M, d_M_code_128, rfl, by decide, fun w hw => List.mem_cons_of_mem _ (uws_M w hw), List.mem_cons_of_mem _ w_584, tyok_M, nm_M, tyok_M 0 (by decide), Or.inl rfl⟩
set_option maxRecDepth 100000 in
theorem s_M_code_132 : zGet m_M_code 132 7 0 := ⟨72, R_M, T_M, 22, d_M_code_132, rfl, by decide, fun w hw => List.mem_cons_of_mem _ (uws_M w hw), List.mem_cons_of_mem _ w_584⟩
set_option maxRecDepth 100000 in
theorem s_M_code_145 : zGet m_M_code 145 7 4 := ⟨16, R_M, T_M, 22, d_M_code_145, rfl, by decide, fun w hw => List.mem_cons_of_mem _ (uws_M w hw), List.mem_cons_of_mem _ w_588⟩
set_option maxRecDepth 100000 in
theorem s_M_code_154 : zGet m_M_code 154 7 5 := ⟨19, R_M, T_M, 22, d_M_code_154, rfl, by decide, fun w hw => List.mem_cons_of_mem _ (uws_M w hw), List.mem_cons_of_mem _ w_589⟩
set_option maxRecDepth 100000 in
theorem s_M_code_162 : zGet m_M_code 162 7 6 := ⟨22, R_M, T_M, 22, d_M_code_162, rfl, by decide, fun w hw => List.mem_cons_of_mem _ (uws_M w hw), List.mem_cons_of_mem _ w_590⟩
set_option maxRecDepth 100000 in
theorem s_M_code_170 : zGet m_M_code 170 7 7 := ⟨25, R_M, T_M, 22, d_M_code_170, rfl, by decide, fun w hw => List.mem_cons_of_mem _ (uws_M w hw), List.mem_cons_of_mem _ w_591⟩
set_option maxRecDepth 100000 in
theorem s_M_code_179 : zGet m_M_code 179 7 4 := ⟨16, R_M, T_M, 22, d_M_code_179, rfl, by decide, fun w hw => List.mem_cons_of_mem _ (uws_M w hw), List.mem_cons_of_mem _ w_588⟩
set_option maxRecDepth 100000 in
theorem s_M_code_189 : zGet m_M_code 189 7 4 := ⟨16, R_M, T_M, 22, d_M_code_189, rfl, by decide, fun w hw => List.mem_cons_of_mem _ (uws_M w hw), List.mem_cons_of_mem _ w_588⟩
set_option maxRecDepth 100000 in
theorem s_M_core_15 : zPut m_M_core 15 7 0 (.int) := ⟨72, R_M, T_M, 22, ty_M, d_M_core_15, rfl, by decide, fun w hw => List.mem_cons_of_mem _ (uws_M w hw), List.mem_cons_of_mem _ w_584, tyok_M, nm_M, tyok_M 0 (by decide), Or.inl rfl⟩
set_option maxRecDepth 100000 in
theorem s_M_core_19 : zGet m_M_core 19 7 0 := ⟨72, R_M, T_M, 22, d_M_core_19, rfl, by decide, fun w hw => List.mem_cons_of_mem _ (uws_M w hw), List.mem_cons_of_mem _ w_584⟩
set_option maxRecDepth 100000 in
theorem s_M_poke_29 : zCV m_M_poke 29 m_M_has 2 := ⟨86, zT, d_M_poke_29, zGoodV w_671 w_673 ws_14 w_9 w_674, rfl, ⟨by decide +kernel, by decide +kernel, by decide +kernel⟩, ⟨by decide, by decide⟩⟩
set_option maxRecDepth 100000 in
theorem s_M_poke_36 : zGet m_M_poke 36 7 17 := ⟨55, R_M, T_M, 22, d_M_poke_36, rfl, by decide, fun w hw => List.mem_cons_of_mem _ (uws_M w hw), List.mem_cons_of_mem _ w_601⟩
set_option maxRecDepth 100000 in
theorem s_M_poke_46 : zGet m_M_poke 46 7 16 := ⟨52, R_M, T_M, 22, d_M_poke_46, rfl, by decide, fun w hw => List.mem_cons_of_mem _ (uws_M w hw), List.mem_cons_of_mem _ w_600⟩
set_option maxRecDepth 100000 in
theorem s_M_poke_92 : zPut m_M_poke 92 7 0 (.int) := ⟨72, R_M, T_M, 22, ty_M, d_M_poke_92, rfl, by decide, fun w hw => List.mem_cons_of_mem _ (uws_M w hw), List.mem_cons_of_mem _ w_584, tyok_M, nm_M, tyok_M 0 (by decide), Or.inl rfl⟩
set_option maxRecDepth 100000 in
theorem s_M_poke_96 : zGet m_M_poke 96 7 0 := ⟨72, R_M, T_M, 22, d_M_poke_96, rfl, by decide, fun w hw => List.mem_cons_of_mem _ (uws_M w hw), List.mem_cons_of_mem _ w_584⟩
set_option maxRecDepth 100000 in
theorem s_M_poke_103 : zGet m_M_poke 103 7 2 := ⟨7, R_M, T_M, 22, d_M_poke_103, rfl, by decide, fun w hw => List.mem_cons_of_mem _ (uws_M w hw), List.mem_cons_of_mem _ w_586⟩
set_option maxRecDepth 100000 in
theorem s_M_has_3 : zCV m_M_has 3 m_M_lineOf 2 := ⟨82, zT, d_M_has_3, zGoodV w_675 w_677 ws_15 w_9 w_678, rfl, ⟨by decide +kernel, by decide +kernel, by decide +kernel⟩, ⟨by decide, by decide⟩⟩
set_option maxRecDepth 100000 in
theorem s_M_has_8 : zGet m_M_has 8 7 12 := ⟨40, R_M, T_M, 22, d_M_has_8, rfl, by decide, fun w hw => List.mem_cons_of_mem _ (uws_M w hw), List.mem_cons_of_mem _ w_596⟩
set_option maxRecDepth 100000 in
theorem s_M_has_17 : zGet m_M_has 17 7 13 := ⟨43, R_M, T_M, 22, d_M_has_17, rfl, by decide, fun w hw => List.mem_cons_of_mem _ (uws_M w hw), List.mem_cons_of_mem _ w_597⟩
set_option maxRecDepth 100000 in
theorem s_M_step_2 : zCV m_M_step 2 m_M_core 1 := ⟨75, zT, d_M_step_2, zGoodV w_660 w_662 ws_13 w_9 w_663, rfl, ⟨by decide +kernel, by decide +kernel, by decide +kernel⟩, ⟨by decide, by decide⟩⟩
set_option maxRecDepth 100000 in
theorem s_M_step_15 : zGet m_M_step 15 7 8 := ⟨28, R_M, T_M, 22, d_M_step_15, rfl, by decide, fun w hw => List.mem_cons_of_mem _ (uws_M w hw), List.mem_cons_of_mem _ w_592⟩
set_option maxRecDepth 100000 in
theorem s_M_step_23 : zGet m_M_step 23 7 8 := ⟨28, R_M, T_M, 22, d_M_step_23, rfl, by decide, fun w hw => List.mem_cons_of_mem _ (uws_M w hw), List.mem_cons_of_mem _ w_592⟩
set_option maxRecDepth 100000 in
theorem s_M_step_29 : zGet m_M_step 29 7 4 := ⟨16, R_M, T_M, 22, d_M_step_29, rfl, by decide, fun w hw => List.mem_cons_of_mem _ (uws_M w hw), List.mem_cons_of_mem _ w_588⟩
set_option maxRecDepth 100000 in
theorem s_M_step_38 : zGet m_M_step 38 7 5 := ⟨19, R_M, T_M, 22, d_M_step_38, rfl, by decide, fun w hw => List.mem_cons_of_mem _ (uws_M w hw), List.mem_cons_of_mem _ w_589⟩
set_option maxRecDepth 100000 in
theorem s_M_step_51 : zGet m_M_step 51 7 5 := ⟨19, R_M, T_M, 22, d_M_step_51, rfl, by decide, fun w hw => List.mem_cons_of_mem _ (uws_M w hw), List.mem_cons_of_mem _ w_589⟩
set_option maxRecDepth 100000 in
theorem s_M_step_62 : zGet m_M_step 62 7 3 := ⟨13, R_M, T_M, 22, d_M_step_62, rfl, by decide, fun w hw => List.mem_cons_of_mem _ (uws_M w hw), List.mem_cons_of_mem _ w_587⟩
set_option maxRecDepth 100000 in
theorem s_M_step_69 : zGet m_M_step 69 7 6 := ⟨22, R_M, T_M, 22, d_M_step_69, rfl, by decide, fun w hw => List.mem_cons_of_mem _ (uws_M w hw), List.mem_cons_of_mem _ w_590⟩
set_option maxRecDepth 100000 in
theorem s_M_step_88 : zGet m_M_step 88 7 5 := ⟨19, R_M, T_M, 22, d_M_step_88, rfl, by decide, fun w hw => List.mem_cons_of_mem _ (uws_M w hw), List.mem_cons_of_mem _ w_589⟩
set_option maxRecDepth 100000 in
theorem s_M_step_94 : zGet m_M_step 94 7 6 := ⟨22, R_M, T_M, 22, d_M_step_94, rfl, by decide, fun w hw => List.mem_cons_of_mem _ (uws_M w hw), List.mem_cons_of_mem _ w_590⟩
set_option maxRecDepth 100000 in
theorem s_M_step_100 : zGet m_M_step 100 7 7 := ⟨25, R_M, T_M, 22, d_M_step_100, rfl, by decide, fun w hw => List.mem_cons_of_mem _ (uws_M w hw), List.mem_cons_of_mem _ w_591⟩
set_option maxRecDepth 100000 in
theorem s_M_step_105 : zCV m_M_step 105 m_M_act 4 := ⟨114, zT, d_M_step_105, zGoodV w_683 w_685 ws_16 w_9 w_686, rfl, ⟨by decide +kernel, by decide +kernel, by decide +kernel⟩, ⟨by decide, by decide⟩⟩
set_option maxRecDepth 100000 in
theorem s_M_step_111 : zGet m_M_step 111 7 8 := ⟨28, R_M, T_M, 22, d_M_step_111, rfl, by decide, fun w hw => List.mem_cons_of_mem _ (uws_M w hw), List.mem_cons_of_mem _ w_592⟩
set_option maxRecDepth 100000 in
theorem s_M_step_120 : zGet m_M_step 120 7 7 := ⟨25, R_M, T_M, 22, d_M_step_120, rfl, by decide, fun w hw => List.mem_cons_of_mem _ (uws_M w hw), List.mem_cons_of_mem _ w_591⟩
set_option maxRecDepth 100000 in
theorem s_M_step_135 : zGet m_M_step 135 7 8 := ⟨28, R_M, T_M, 22, d_M_step_135, rfl, by decide, fun w hw => List.mem_cons_of_mem _ (uws_M w hw), List.mem_cons_of_mem _ w_592⟩
set_option maxRecDepth 100000 in
theorem s_M_step_146 : zGet m_M_step 146 7 8 := ⟨28, R_M, T_M, 22, d_M_step_146, rfl, by decide, fun w hw => List.mem_cons_of_mem _ (uws_M w hw), List.mem_cons_of_mem _ w_592⟩
set_option maxRecDepth 100000 in
theorem s_M_act_45 : zCV m_M_act 45 m_M_load 3 := ⟨104, zT, d_M_act_45, zGoodV w_687 w_689 ws_17 w_9 w_690, rfl, ⟨by decide +kernel, by decide +kernel, by decide +kernel⟩, ⟨by decide, by decide⟩⟩
set_option maxRecDepth 100000 in
theorem s_M_act_54 : zCV m_M_act 54 m_M_store 3 := ⟨108, zT, d_M_act_54, zGoodV w_699 w_701 ws_20 w_9 w_702, rfl, ⟨by decide +kernel, by decide +kernel, by decide +kernel⟩, ⟨by decide, by decide⟩⟩
set_option maxRecDepth 100000 in
theorem s_M_act_59 : zGet m_M_act 59 7 9 := ⟨31, R_M, T_M, 22, d_M_act_59, rfl, by decide, fun w hw => List.mem_cons_of_mem _ (uws_M w hw), List.mem_cons_of_mem _ w_593⟩
set_option maxRecDepth 100000 in
theorem s_M_act_78 : zCV m_M_act 78 m_M_swap 3 := ⟨111, zT, d_M_act_78, zGoodV w_703 w_705 ws_21 w_9 w_706, rfl, ⟨by decide +kernel, by decide +kernel, by decide +kernel⟩, ⟨by decide, by decide⟩⟩
set_option maxRecDepth 100000 in
theorem s_M_act_83 : zGet m_M_act 83 7 3 := ⟨13, R_M, T_M, 22, d_M_act_83, rfl, by decide, fun w hw => List.mem_cons_of_mem _ (uws_M w hw), List.mem_cons_of_mem _ w_587⟩
set_option maxRecDepth 100000 in
theorem s_M_act_92 : zGet m_M_act 92 7 3 := ⟨13, R_M, T_M, 22, d_M_act_92, rfl, by decide, fun w hw => List.mem_cons_of_mem _ (uws_M w hw), List.mem_cons_of_mem _ w_587⟩
set_option maxRecDepth 100000 in
theorem s_M_act_102 : zGet m_M_act 102 7 3 := ⟨13, R_M, T_M, 22, d_M_act_102, rfl, by decide, fun w hw => List.mem_cons_of_mem _ (uws_M w hw), List.mem_cons_of_mem _ w_587⟩
set_option maxRecDepth 100000 in
theorem s_M_act_117 : zGet m_M_act 117 7 3 := ⟨13, R_M, T_M, 22, d_M_act_117, rfl, by decide, fun w hw => List.mem_cons_of_mem _ (uws_M w hw), List.mem_cons_of_mem _ w_587⟩
set_option maxRecDepth 100000 in
theorem s_M_load_1 : zGet m_M_load 1 7 3 := ⟨13, R_M, T_M, 22, d_M_load_1, rfl, by decide, fun w hw => List.mem_cons_of_mem _ (uws_M w hw), List.mem_cons_of_mem _ w_587⟩
set_option maxRecDepth 100000 in
theorem s_M_load_24 : zGet m_M_load 24 7 9 := ⟨31, R_M, T_M, 22, d_M_load_24, rfl, by decide, fun w hw => List.mem_cons_of_mem _ (uws_M w hw), List.mem_cons_of_mem _ w_593⟩
set_option maxRecDepth 100000 in
theorem s_M_load_33 : zGet m_M_load 33 7 10 := ⟨34, R_M, T_M, 22, d_M_load_33, rfl, by decide, fun w hw => List.mem_cons_of_mem _ (uws_M w hw), List.mem_cons_of_mem _ w_594⟩
set_option maxRecDepth 100000 in
theorem s_M_load_72 : zCV m_M_load 72 m_M_has 2 := ⟨86, zT, d_M_load_72, zGoodV w_671 w_673 ws_14 w_9 w_674, rfl, ⟨by decide +kernel, by decide +kernel, by decide +kernel⟩, ⟨by decide, by decide⟩⟩
set_option maxRecDepth 100000 in
theorem s_M_load_83 : zCV m_M_load 83 m_M_ask 3 := ⟨93, zT, d_M_load_83, zGoodV w_691 w_693 ws_18 w_9 w_694, rfl, ⟨by decide +kernel, by decide +kernel, by decide +kernel⟩, ⟨by decide, by decide⟩⟩
set_option maxRecDepth 100000 in
theorem s_M_load_94 : zGet m_M_load 94 7 11 := ⟨37, R_M, T_M, 22, d_M_load_94, rfl, by decide, fun w hw => List.mem_cons_of_mem _ (uws_M w hw), List.mem_cons_of_mem _ w_595⟩
set_option maxRecDepth 100000 in
theorem s_M_load_108 : zGet m_M_load 108 7 14 := ⟨46, R_M, T_M, 22, d_M_load_108, rfl, by decide, fun w hw => List.mem_cons_of_mem _ (uws_M w hw), List.mem_cons_of_mem _ w_598⟩
set_option maxRecDepth 100000 in
theorem s_M_load_115 : zCV m_M_load 115 m_M_lineOf 2 := ⟨82, zT, d_M_load_115, zGoodV w_675 w_677 ws_15 w_9 w_678, rfl, ⟨by decide +kernel, by decide +kernel, by decide +kernel⟩, ⟨by decide, by decide⟩⟩
set_option maxRecDepth 100000 in
theorem s_M_load_122 : zGet m_M_load 122 7 3 := ⟨13, R_M, T_M, 22, d_M_load_122, rfl, by decide, fun w hw => List.mem_cons_of_mem _ (uws_M w hw), List.mem_cons_of_mem _ w_587⟩
set_option maxRecDepth 100000 in
theorem s_M_load_140 : zCV m_M_load 140 m_M_note 4 := ⟨97, zT, d_M_load_140, zGoodV w_695 w_697 ws_19 w_9 w_698, rfl, ⟨by decide +kernel, by decide +kernel, by decide +kernel⟩, ⟨by decide, by decide⟩⟩
set_option maxRecDepth 100000 in
theorem s_M_ask_1 : zGet m_M_ask 1 7 15 := ⟨49, R_M, T_M, 22, d_M_ask_1, rfl, by decide, fun w hw => List.mem_cons_of_mem _ (uws_M w hw), List.mem_cons_of_mem _ w_599⟩
set_option maxRecDepth 100000 in
theorem s_M_ask_10 : zGet m_M_ask 10 7 15 := ⟨49, R_M, T_M, 22, d_M_ask_10, rfl, by decide, fun w hw => List.mem_cons_of_mem _ (uws_M w hw), List.mem_cons_of_mem _ w_599⟩
set_option maxRecDepth 100000 in
theorem s_M_ask_25 : zGet m_M_ask 25 7 16 := ⟨52, R_M, T_M, 22, d_M_ask_25, rfl, by decide, fun w hw => List.mem_cons_of_mem _ (uws_M w hw), List.mem_cons_of_mem _ w_600⟩
set_option maxRecDepth 100000 in
theorem s_M_ask_32 : zGet m_M_ask 32 7 17 := ⟨55, R_M, T_M, 22, d_M_ask_32, rfl, by decide, fun w hw => List.mem_cons_of_mem _ (uws_M w hw), List.mem_cons_of_mem _ w_601⟩
set_option maxRecDepth 100000 in
theorem s_M_note_1 : zGet m_M_note 1 7 20 := ⟨62, R_M, T_M, 22, d_M_note_1, rfl, by decide, fun w hw => List.mem_cons_of_mem _ (uws_M w hw), List.mem_cons_of_mem _ w_604⟩
set_option maxRecDepth 100000 in
theorem s_M_note_5 : zGet m_M_note 5 7 19 := ⟨90, R_M, T_M, 22, d_M_note_5, rfl, by decide, fun w hw => List.mem_cons_of_mem _ (uws_M w hw), List.mem_cons_of_mem _ w_603⟩
set_option maxRecDepth 100000 in
theorem s_M_note_23 : zGet m_M_note 23 7 21 := ⟨65, R_M, T_M, 22, d_M_note_23, rfl, by decide, fun w hw => List.mem_cons_of_mem _ (uws_M w hw), List.mem_cons_of_mem _ w_605⟩
set_option maxRecDepth 100000 in
theorem s_M_note_27 : zGet m_M_note 27 7 19 := ⟨90, R_M, T_M, 22, d_M_note_27, rfl, by decide, fun w hw => List.mem_cons_of_mem _ (uws_M w hw), List.mem_cons_of_mem _ w_603⟩
set_option maxRecDepth 100000 in
theorem s_M_note_38 : zGet m_M_note 38 7 19 := ⟨90, R_M, T_M, 22, d_M_note_38, rfl, by decide, fun w hw => List.mem_cons_of_mem _ (uws_M w hw), List.mem_cons_of_mem _ w_603⟩
set_option maxRecDepth 100000 in
theorem s_M_note_43 : zPut m_M_note 43 7 19 (.int) := ⟨90, R_M, T_M, 22, ty_M, d_M_note_43, rfl, by decide, fun w hw => List.mem_cons_of_mem _ (uws_M w hw), List.mem_cons_of_mem _ w_603, tyok_M, nm_M, tyok_M 19 (by decide), Or.inl rfl⟩
set_option maxRecDepth 100000 in
theorem s_M_store_1 : zGet m_M_store 1 7 9 := ⟨31, R_M, T_M, 22, d_M_store_1, rfl, by decide, fun w hw => List.mem_cons_of_mem _ (uws_M w hw), List.mem_cons_of_mem _ w_593⟩
set_option maxRecDepth 100000 in
theorem s_M_store_7 : zGet m_M_store 7 7 1 := ⟨68, R_M, T_M, 22, d_M_store_7, rfl, by decide, fun w hw => List.mem_cons_of_mem _ (uws_M w hw), List.mem_cons_of_mem _ w_585⟩
set_option maxRecDepth 100000 in
theorem s_M_store_16 : zGet m_M_store 16 7 10 := ⟨34, R_M, T_M, 22, d_M_store_16, rfl, by decide, fun w hw => List.mem_cons_of_mem _ (uws_M w hw), List.mem_cons_of_mem _ w_594⟩
set_option maxRecDepth 100000 in
theorem s_M_store_23 : zGet m_M_store 23 7 9 := ⟨31, R_M, T_M, 22, d_M_store_23, rfl, by decide, fun w hw => List.mem_cons_of_mem _ (uws_M w hw), List.mem_cons_of_mem _ w_593⟩
set_option maxRecDepth 100000 in
theorem s_M_store_30 : zGet m_M_store 30 7 3 := ⟨13, R_M, T_M, 22, d_M_store_30, rfl, by decide, fun w hw => List.mem_cons_of_mem _ (uws_M w hw), List.mem_cons_of_mem _ w_587⟩
set_option maxRecDepth 100000 in
theorem s_M_store_44 : zGet m_M_store 44 7 11 := ⟨37, R_M, T_M, 22, d_M_store_44, rfl, by decide, fun w hw => List.mem_cons_of_mem _ (uws_M w hw), List.mem_cons_of_mem _ w_595⟩
set_option maxRecDepth 100000 in
theorem s_M_store_51 : zGet m_M_store 51 7 9 := ⟨31, R_M, T_M, 22, d_M_store_51, rfl, by decide, fun w hw => List.mem_cons_of_mem _ (uws_M w hw), List.mem_cons_of_mem _ w_593⟩
set_option maxRecDepth 100000 in
theorem s_M_store_58 : zGet m_M_store 58 7 3 := ⟨13, R_M, T_M, 22, d_M_store_58, rfl, by decide, fun w hw => List.mem_cons_of_mem _ (uws_M w hw), List.mem_cons_of_mem _ w_587⟩
set_option maxRecDepth 100000 in
theorem s_M_store_69 : zGet m_M_store 69 7 9 := ⟨31, R_M, T_M, 22, d_M_store_69, rfl, by decide, fun w hw => List.mem_cons_of_mem _ (uws_M w hw), List.mem_cons_of_mem _ w_593⟩
set_option maxRecDepth 100000 in
theorem s_M_swap_1 : zGet m_M_swap 1 7 3 := ⟨13, R_M, T_M, 22, d_M_swap_1, rfl, by decide, fun w hw => List.mem_cons_of_mem _ (uws_M w hw), List.mem_cons_of_mem _ w_587⟩
set_option maxRecDepth 100000 in
theorem s_M_swap_16 : zGet m_M_swap 16 7 9 := ⟨31, R_M, T_M, 22, d_M_swap_16, rfl, by decide, fun w hw => List.mem_cons_of_mem _ (uws_M w hw), List.mem_cons_of_mem _ w_593⟩
set_option maxRecDepth 100000 in
theorem s_M_swap_30 : zCV m_M_swap 30 m_M_owns 2 := ⟨101, zT, d_M_swap_30, zGoodV w_707 w_709 ws_22 w_9 w_710, rfl, ⟨by decide +kernel, by decide +kernel, by decide +kernel⟩, ⟨by decide, by decide⟩⟩
set_option maxRecDepth 100000 in
theorem s_M_swap_41 : zCV m_M_swap 41 m_M_ask 3 := ⟨93, zT, d_M_swap_41, zGoodV w_691 w_693 ws_18 w_9 w_694, rfl, ⟨by decide +kernel, by decide +kernel, by decide +kernel⟩, ⟨by decide, by decide⟩⟩
set_option maxRecDepth 100000 in
theorem s_M_swap_50 : zCV m_M_swap 50 m_M_lineOf 2 := ⟨82, zT, d_M_swap_50, zGoodV w_675 w_677 ws_15 w_9 w_678, rfl, ⟨by decide +kernel, by decide +kernel, by decide +kernel⟩, ⟨by decide, by decide⟩⟩
set_option maxRecDepth 100000 in
theorem s_M_swap_56 : zGet m_M_swap 56 7 14 := ⟨46, R_M, T_M, 22, d_M_swap_56, rfl, by decide, fun w hw => List.mem_cons_of_mem _ (uws_M w hw), List.mem_cons_of_mem _ w_598⟩
set_option maxRecDepth 100000 in
theorem s_M_swap_67 : zGet m_M_swap 67 7 3 := ⟨13, R_M, T_M, 22, d_M_swap_67, rfl, by decide, fun w hw => List.mem_cons_of_mem _ (uws_M w hw), List.mem_cons_of_mem _ w_587⟩
set_option maxRecDepth 100000 in
theorem s_M_swap_92 : zGet m_M_swap 92 7 14 := ⟨46, R_M, T_M, 22, d_M_swap_92, rfl, by decide, fun w hw => List.mem_cons_of_mem _ (uws_M w hw), List.mem_cons_of_mem _ w_598⟩
set_option maxRecDepth 100000 in
theorem s_M_swap_98 : zGet m_M_swap 98 7 3 := ⟨13, R_M, T_M, 22, d_M_swap_98, rfl, by decide, fun w hw => List.mem_cons_of_mem _ (uws_M w hw), List.mem_cons_of_mem _ w_587⟩
set_option maxRecDepth 100000 in
theorem s_M_swap_109 : zGet m_M_swap 109 7 12 := ⟨40, R_M, T_M, 22, d_M_swap_109, rfl, by decide, fun w hw => List.mem_cons_of_mem _ (uws_M w hw), List.mem_cons_of_mem _ w_596⟩
set_option maxRecDepth 100000 in
theorem s_M_swap_117 : zGet m_M_swap 117 7 3 := ⟨13, R_M, T_M, 22, d_M_swap_117, rfl, by decide, fun w hw => List.mem_cons_of_mem _ (uws_M w hw), List.mem_cons_of_mem _ w_587⟩
set_option maxRecDepth 100000 in
theorem s_M_swap_143 : zCV m_M_swap 143 m_M_note 4 := ⟨97, zT, d_M_swap_143, zGoodV w_695 w_697 ws_19 w_9 w_698, rfl, ⟨by decide +kernel, by decide +kernel, by decide +kernel⟩, ⟨by decide, by decide⟩⟩
set_option maxRecDepth 100000 in
theorem s_M_owns_3 : zCV m_M_owns 3 m_M_has 2 := ⟨86, zT, d_M_owns_3, zGoodV w_671 w_673 ws_14 w_9 w_674, rfl, ⟨by decide +kernel, by decide +kernel, by decide +kernel⟩, ⟨by decide, by decide⟩⟩
set_option maxRecDepth 100000 in
theorem s_M_owns_10 : zGet m_M_owns 10 7 12 := ⟨40, R_M, T_M, 22, d_M_owns_10, rfl, by decide, fun w hw => List.mem_cons_of_mem _ (uws_M w hw), List.mem_cons_of_mem _ w_596⟩
set_option maxRecDepth 100000 in
theorem s_M_owns_16 : zCV m_M_owns 16 m_M_lineOf 2 := ⟨82, zT, d_M_owns_16, zGoodV w_675 w_677 ws_15 w_9 w_678, rfl, ⟨by decide +kernel, by decide +kernel, by decide +kernel⟩, ⟨by decide, by decide⟩⟩
set_option maxRecDepth 100000 in
theorem s_M_drain_2 : zCV m_M_drain 2 m_M_core 1 := ⟨75, zT, d_M_drain_2, zGoodV w_660 w_662 ws_13 w_9 w_663, rfl, ⟨by decide +kernel, by decide +kernel, by decide +kernel⟩, ⟨by decide, by decide⟩⟩
set_option maxRecDepth 100000 in
theorem s_M_drain_11 : zGet m_M_drain 11 7 9 := ⟨31, R_M, T_M, 22, d_M_drain_11, rfl, by decide, fun w hw => List.mem_cons_of_mem _ (uws_M w hw), List.mem_cons_of_mem _ w_593⟩
set_option maxRecDepth 100000 in
theorem s_M_drain_22 : zGet m_M_drain 22 7 10 := ⟨34, R_M, T_M, 22, d_M_drain_22, rfl, by decide, fun w hw => List.mem_cons_of_mem _ (uws_M w hw), List.mem_cons_of_mem _ w_594⟩
set_option maxRecDepth 100000 in
theorem s_M_drain_33 : zCV m_M_drain 33 m_M_owns 2 := ⟨101, zT, d_M_drain_33, zGoodV w_707 w_709 ws_22 w_9 w_710, rfl, ⟨by decide +kernel, by decide +kernel, by decide +kernel⟩, ⟨by decide, by decide⟩⟩
set_option maxRecDepth 100000 in
theorem s_M_drain_43 : zCV m_M_drain 43 m_M_ask 3 := ⟨93, zT, d_M_drain_43, zGoodV w_691 w_693 ws_18 w_9 w_694, rfl, ⟨by decide +kernel, by decide +kernel, by decide +kernel⟩, ⟨by decide, by decide⟩⟩
set_option maxRecDepth 100000 in
theorem s_M_drain_51 : zCV m_M_drain 51 m_M_lineOf 2 := ⟨82, zT, d_M_drain_51, zGoodV w_675 w_677 ws_15 w_9 w_678, rfl, ⟨by decide +kernel, by decide +kernel, by decide +kernel⟩, ⟨by decide, by decide⟩⟩
set_option maxRecDepth 100000 in
theorem s_M_drain_56 : zGet m_M_drain 56 7 11 := ⟨37, R_M, T_M, 22, d_M_drain_56, rfl, by decide, fun w hw => List.mem_cons_of_mem _ (uws_M w hw), List.mem_cons_of_mem _ w_595⟩
set_option maxRecDepth 100000 in
theorem s_M_drain_66 : zGet m_M_drain 66 7 14 := ⟨46, R_M, T_M, 22, d_M_drain_66, rfl, by decide, fun w hw => List.mem_cons_of_mem _ (uws_M w hw), List.mem_cons_of_mem _ w_598⟩
set_option maxRecDepth 100000 in
theorem s_M_drain_74 : zGet m_M_drain 74 7 12 := ⟨40, R_M, T_M, 22, d_M_drain_74, rfl, by decide, fun w hw => List.mem_cons_of_mem _ (uws_M w hw), List.mem_cons_of_mem _ w_596⟩
set_option maxRecDepth 100000 in
theorem s_M_drain_81 : zGet m_M_drain 81 7 9 := ⟨31, R_M, T_M, 22, d_M_drain_81, rfl, by decide, fun w hw => List.mem_cons_of_mem _ (uws_M w hw), List.mem_cons_of_mem _ w_593⟩
set_option maxRecDepth 100000 in
theorem s_M_drain_96 : zGet m_M_drain 96 7 9 := ⟨31, R_M, T_M, 22, d_M_drain_96, rfl, by decide, fun w hw => List.mem_cons_of_mem _ (uws_M w hw), List.mem_cons_of_mem _ w_593⟩
set_option maxRecDepth 100000 in
theorem s_M_drain_105 : zGet m_M_drain 105 7 10 := ⟨34, R_M, T_M, 22, d_M_drain_105, rfl, by decide, fun w hw => List.mem_cons_of_mem _ (uws_M w hw), List.mem_cons_of_mem _ w_594⟩
set_option maxRecDepth 100000 in
theorem s_M_drain_115 : zGet m_M_drain 115 7 10 := ⟨34, R_M, T_M, 22, d_M_drain_115, rfl, by decide, fun w hw => List.mem_cons_of_mem _ (uws_M w hw), List.mem_cons_of_mem _ w_594⟩
set_option maxRecDepth 100000 in
theorem s_M_drain_129 : zGet m_M_drain 129 7 11 := ⟨37, R_M, T_M, 22, d_M_drain_129, rfl, by decide, fun w hw => List.mem_cons_of_mem _ (uws_M w hw), List.mem_cons_of_mem _ w_595⟩
set_option maxRecDepth 100000 in
theorem s_M_drain_139 : zGet m_M_drain 139 7 11 := ⟨37, R_M, T_M, 22, d_M_drain_139, rfl, by decide, fun w hw => List.mem_cons_of_mem _ (uws_M w hw), List.mem_cons_of_mem _ w_595⟩
set_option maxRecDepth 100000 in
theorem s_M_drain_164 : zCV m_M_drain 164 m_M_note 4 := ⟨97, zT, d_M_drain_164, zGoodV w_695 w_697 ws_19 w_9 w_698, rfl, ⟨by decide +kernel, by decide +kernel, by decide +kernel⟩, ⟨by decide, by decide⟩⟩
set_option maxRecDepth 100000 in
theorem s_M_grant_2 : zCV m_M_grant 2 m_M_core 1 := ⟨75, zT, d_M_grant_2, zGoodV w_660 w_662 ws_13 w_9 w_663, rfl, ⟨by decide +kernel, by decide +kernel, by decide +kernel⟩, ⟨by decide, by decide⟩⟩
set_option maxRecDepth 100000 in
theorem s_M_grant_11 : zGet m_M_grant 11 7 15 := ⟨49, R_M, T_M, 22, d_M_grant_11, rfl, by decide, fun w hw => List.mem_cons_of_mem _ (uws_M w hw), List.mem_cons_of_mem _ w_599⟩
set_option maxRecDepth 100000 in
theorem s_M_grant_20 : zGet m_M_grant 20 7 17 := ⟨55, R_M, T_M, 22, d_M_grant_20, rfl, by decide, fun w hw => List.mem_cons_of_mem _ (uws_M w hw), List.mem_cons_of_mem _ w_601⟩
set_option maxRecDepth 100000 in
theorem s_M_grant_31 : zGet m_M_grant 31 7 16 := ⟨52, R_M, T_M, 22, d_M_grant_31, rfl, by decide, fun w hw => List.mem_cons_of_mem _ (uws_M w hw), List.mem_cons_of_mem _ w_600⟩
set_option maxRecDepth 100000 in
theorem s_M_grant_50 : zGet m_M_grant 50 7 17 := ⟨55, R_M, T_M, 22, d_M_grant_50, rfl, by decide, fun w hw => List.mem_cons_of_mem _ (uws_M w hw), List.mem_cons_of_mem _ w_601⟩
set_option maxRecDepth 100000 in
theorem s_M_grant_59 : zGet m_M_grant 59 7 16 := ⟨52, R_M, T_M, 22, d_M_grant_59, rfl, by decide, fun w hw => List.mem_cons_of_mem _ (uws_M w hw), List.mem_cons_of_mem _ w_600⟩
set_option maxRecDepth 100000 in
theorem s_M_grant_79 : zCV m_M_grant 79 m_M_lineOf 2 := ⟨82, zT, d_M_grant_79, zGoodV w_675 w_677 ws_15 w_9 w_678, rfl, ⟨by decide +kernel, by decide +kernel, by decide +kernel⟩, ⟨by decide, by decide⟩⟩
set_option maxRecDepth 100000 in
theorem s_M_grant_84 : zGet m_M_grant 84 7 12 := ⟨40, R_M, T_M, 22, d_M_grant_84, rfl, by decide, fun w hw => List.mem_cons_of_mem _ (uws_M w hw), List.mem_cons_of_mem _ w_596⟩
set_option maxRecDepth 100000 in
theorem s_M_grant_93 : zGet m_M_grant 93 7 13 := ⟨43, R_M, T_M, 22, d_M_grant_93, rfl, by decide, fun w hw => List.mem_cons_of_mem _ (uws_M w hw), List.mem_cons_of_mem _ w_597⟩
set_option maxRecDepth 100000 in
theorem s_M_grant_104 : zCV m_M_grant 104 m_M_writeBack 1 := ⟨118, zT, d_M_grant_104, zGoodV w_719 w_721 ws_23 w_9 w_722, rfl, ⟨by decide +kernel, by decide +kernel, by decide +kernel⟩, ⟨by decide, by decide⟩⟩
set_option maxRecDepth 100000 in
theorem s_M_grant_108 : zGet m_M_grant 108 7 12 := ⟨40, R_M, T_M, 22, d_M_grant_108, rfl, by decide, fun w hw => List.mem_cons_of_mem _ (uws_M w hw), List.mem_cons_of_mem _ w_596⟩
set_option maxRecDepth 100000 in
theorem s_M_grant_115 : zGet m_M_grant 115 7 18 := ⟨59, R_M, T_M, 22, d_M_grant_115, rfl, by decide, fun w hw => List.mem_cons_of_mem _ (uws_M w hw), List.mem_cons_of_mem _ w_602⟩
set_option maxRecDepth 100000 in
theorem s_M_grant_121 : zCV m_M_grant 121 m_M_wordAt 1 := ⟨122, zT, d_M_grant_121, zGoodV w_723 w_725 ws_24 w_9 w_726, rfl, ⟨by decide +kernel, by decide +kernel, by decide +kernel⟩, ⟨by decide, by decide⟩⟩
set_option maxRecDepth 100000 in
theorem s_M_grant_144 : zCV m_M_grant 144 m_M_has 2 := ⟨86, zT, d_M_grant_144, zGoodV w_671 w_673 ws_14 w_9 w_674, rfl, ⟨by decide +kernel, by decide +kernel, by decide +kernel⟩, ⟨by decide, by decide⟩⟩
set_option maxRecDepth 100000 in
theorem s_M_grant_155 : zCV m_M_grant 155 m_M_lineOf 2 := ⟨82, zT, d_M_grant_155, zGoodV w_675 w_677 ws_15 w_9 w_678, rfl, ⟨by decide +kernel, by decide +kernel, by decide +kernel⟩, ⟨by decide, by decide⟩⟩
set_option maxRecDepth 100000 in
theorem s_M_grant_158 : zCV m_M_grant 158 m_M_writeBack 1 := ⟨118, zT, d_M_grant_158, zGoodV w_719 w_721 ws_23 w_9 w_722, rfl, ⟨by decide +kernel, by decide +kernel, by decide +kernel⟩, ⟨by decide, by decide⟩⟩
set_option maxRecDepth 100000 in
theorem s_M_grant_162 : zGet m_M_grant 162 7 12 := ⟨40, R_M, T_M, 22, d_M_grant_162, rfl, by decide, fun w hw => List.mem_cons_of_mem _ (uws_M w hw), List.mem_cons_of_mem _ w_596⟩
set_option maxRecDepth 100000 in
theorem s_M_grant_169 : zCV m_M_grant 169 m_M_lineOf 2 := ⟨82, zT, d_M_grant_169, zGoodV w_675 w_677 ws_15 w_9 w_678, rfl, ⟨by decide +kernel, by decide +kernel, by decide +kernel⟩, ⟨by decide, by decide⟩⟩
set_option maxRecDepth 100000 in
theorem s_M_grant_173 : zGet m_M_grant 173 7 15 := ⟨49, R_M, T_M, 22, d_M_grant_173, rfl, by decide, fun w hw => List.mem_cons_of_mem _ (uws_M w hw), List.mem_cons_of_mem _ w_599⟩
set_option maxRecDepth 100000 in
theorem s_M_grant_195 : zGet m_M_grant 195 7 17 := ⟨55, R_M, T_M, 22, d_M_grant_195, rfl, by decide, fun w hw => List.mem_cons_of_mem _ (uws_M w hw), List.mem_cons_of_mem _ w_601⟩
set_option maxRecDepth 100000 in
theorem s_M_writeBack_1 : zGet m_M_writeBack 1 7 12 := ⟨40, R_M, T_M, 22, d_M_writeBack_1, rfl, by decide, fun w hw => List.mem_cons_of_mem _ (uws_M w hw), List.mem_cons_of_mem _ w_596⟩
set_option maxRecDepth 100000 in
theorem s_M_writeBack_11 : zGet m_M_writeBack 11 7 2 := ⟨7, R_M, T_M, 22, d_M_writeBack_11, rfl, by decide, fun w hw => List.mem_cons_of_mem _ (uws_M w hw), List.mem_cons_of_mem _ w_586⟩
set_option maxRecDepth 100000 in
theorem s_M_writeBack_15 : zGet m_M_writeBack 15 7 13 := ⟨43, R_M, T_M, 22, d_M_writeBack_15, rfl, by decide, fun w hw => List.mem_cons_of_mem _ (uws_M w hw), List.mem_cons_of_mem _ w_597⟩
set_option maxRecDepth 100000 in
theorem s_M_writeBack_21 : zGet m_M_writeBack 21 7 14 := ⟨46, R_M, T_M, 22, d_M_writeBack_21, rfl, by decide, fun w hw => List.mem_cons_of_mem _ (uws_M w hw), List.mem_cons_of_mem _ w_598⟩
set_option maxRecDepth 100000 in
theorem s_M_wordAt_1 : zGet m_M_wordAt 1 7 2 := ⟨7, R_M, T_M, 22, d_M_wordAt_1, rfl, by decide, fun w hw => List.mem_cons_of_mem _ (uws_M w hw), List.mem_cons_of_mem _ w_586⟩
set_option maxRecDepth 100000 in
theorem s_M_wordAt_17 : zCV m_M_wordAt 17 m_M_has 2 := ⟨86, zT, d_M_wordAt_17, zGoodV w_671 w_673 ws_14 w_9 w_674, rfl, ⟨by decide +kernel, by decide +kernel, by decide +kernel⟩, ⟨by decide, by decide⟩⟩
set_option maxRecDepth 100000 in
theorem s_M_wordAt_24 : zGet m_M_wordAt 24 7 12 := ⟨40, R_M, T_M, 22, d_M_wordAt_24, rfl, by decide, fun w hw => List.mem_cons_of_mem _ (uws_M w hw), List.mem_cons_of_mem _ w_596⟩
set_option maxRecDepth 100000 in
theorem s_M_wordAt_30 : zCV m_M_wordAt 30 m_M_lineOf 2 := ⟨82, zT, d_M_wordAt_30, zGoodV w_675 w_677 ws_15 w_9 w_678, rfl, ⟨by decide +kernel, by decide +kernel, by decide +kernel⟩, ⟨by decide, by decide⟩⟩
set_option maxRecDepth 100000 in
theorem s_M_wordAt_39 : zGet m_M_wordAt 39 7 14 := ⟨46, R_M, T_M, 22, d_M_wordAt_39, rfl, by decide, fun w hw => List.mem_cons_of_mem _ (uws_M w hw), List.mem_cons_of_mem _ w_598⟩
set_option maxRecDepth 100000 in
theorem s_M_wordAt_45 : zCV m_M_wordAt 45 m_M_lineOf 2 := ⟨82, zT, d_M_wordAt_45, zGoodV w_675 w_677 ws_15 w_9 w_678, rfl, ⟨by decide +kernel, by decide +kernel, by decide +kernel⟩, ⟨by decide, by decide⟩⟩
set_option maxRecDepth 100000 in
theorem s_M_fill_2 : zCV m_M_fill 2 m_M_core 1 := ⟨75, zT, d_M_fill_2, zGoodV w_660 w_662 ws_13 w_9 w_663, rfl, ⟨by decide +kernel, by decide +kernel, by decide +kernel⟩, ⟨by decide, by decide⟩⟩
set_option maxRecDepth 100000 in
theorem s_M_fill_11 : zGet m_M_fill 11 7 17 := ⟨55, R_M, T_M, 22, d_M_fill_11, rfl, by decide, fun w hw => List.mem_cons_of_mem _ (uws_M w hw), List.mem_cons_of_mem _ w_601⟩
set_option maxRecDepth 100000 in
theorem s_M_fill_22 : zGet m_M_fill 22 7 16 := ⟨52, R_M, T_M, 22, d_M_fill_22, rfl, by decide, fun w hw => List.mem_cons_of_mem _ (uws_M w hw), List.mem_cons_of_mem _ w_600⟩
set_option maxRecDepth 100000 in
theorem s_M_fill_53 : zCV m_M_fill 53 m_M_has 2 := ⟨86, zT, d_M_fill_53, zGoodV w_671 w_673 ws_14 w_9 w_674, rfl, ⟨by decide +kernel, by decide +kernel, by decide +kernel⟩, ⟨by decide, by decide⟩⟩
set_option maxRecDepth 100000 in
theorem s_M_fill_74 : zCV m_M_fill 74 m_M_lineOf 2 := ⟨82, zT, d_M_fill_74, zGoodV w_675 w_677 ws_15 w_9 w_678, rfl, ⟨by decide +kernel, by decide +kernel, by decide +kernel⟩, ⟨by decide, by decide⟩⟩
set_option maxRecDepth 100000 in
theorem s_M_fill_80 : zGet m_M_fill 80 7 13 := ⟨43, R_M, T_M, 22, d_M_fill_80, rfl, by decide, fun w hw => List.mem_cons_of_mem _ (uws_M w hw), List.mem_cons_of_mem _ w_597⟩
set_option maxRecDepth 100000 in
theorem s_M_fill_88 : zGet m_M_fill 88 7 14 := ⟨46, R_M, T_M, 22, d_M_fill_88, rfl, by decide, fun w hw => List.mem_cons_of_mem _ (uws_M w hw), List.mem_cons_of_mem _ w_598⟩
set_option maxRecDepth 100000 in
theorem s_M_fill_94 : zGet m_M_fill 94 7 18 := ⟨59, R_M, T_M, 22, d_M_fill_94, rfl, by decide, fun w hw => List.mem_cons_of_mem _ (uws_M w hw), List.mem_cons_of_mem _ w_602⟩
set_option maxRecDepth 100000 in
theorem s_M_fill_101 : zGet m_M_fill 101 7 12 := ⟨40, R_M, T_M, 22, d_M_fill_101, rfl, by decide, fun w hw => List.mem_cons_of_mem _ (uws_M w hw), List.mem_cons_of_mem _ w_596⟩
set_option maxRecDepth 100000 in
theorem s_M_fill_107 : zGet m_M_fill 107 7 15 := ⟨49, R_M, T_M, 22, d_M_fill_107, rfl, by decide, fun w hw => List.mem_cons_of_mem _ (uws_M w hw), List.mem_cons_of_mem _ w_599⟩
set_option maxRecDepth 100000 in
theorem s_M_fill_127 : zGet m_M_fill 127 7 15 := ⟨49, R_M, T_M, 22, d_M_fill_127, rfl, by decide, fun w hw => List.mem_cons_of_mem _ (uws_M w hw), List.mem_cons_of_mem _ w_599⟩
set_option maxRecDepth 100000 in
theorem s_M_fill_134 : zGet m_M_fill 134 7 17 := ⟨55, R_M, T_M, 22, d_M_fill_134, rfl, by decide, fun w hw => List.mem_cons_of_mem _ (uws_M w hw), List.mem_cons_of_mem _ w_601⟩
set_option maxRecDepth 100000 in
theorem s_M_register_2 : zCV m_M_register 2 m_M_core 1 := ⟨75, zT, d_M_register_2, zGoodV w_660 w_662 ws_13 w_9 w_663, rfl, ⟨by decide +kernel, by decide +kernel, by decide +kernel⟩, ⟨by decide, by decide⟩⟩
set_option maxRecDepth 100000 in
theorem s_M_register_12 : zCS m_M_register 12 m_M_isRegister 1 := ⟨79, zT, d_M_register_12, zGoodS w_664 w_665 w_9 w_666, Or.inl rfl, ⟨by decide +kernel, by decide +kernel, by decide +kernel⟩, ⟨by decide, by decide⟩⟩
set_option maxRecDepth 100000 in
theorem s_M_register_23 : zPut m_M_register 23 7 0 (.int) := ⟨72, R_M, T_M, 22, ty_M, d_M_register_23, rfl, by decide, fun w hw => List.mem_cons_of_mem _ (uws_M w hw), List.mem_cons_of_mem _ w_584, tyok_M, nm_M, tyok_M 0 (by decide), Or.inl rfl⟩
set_option maxRecDepth 100000 in
theorem s_M_register_27 : zGet m_M_register 27 7 0 := ⟨72, R_M, T_M, 22, d_M_register_27, rfl, by decide, fun w hw => List.mem_cons_of_mem _ (uws_M w hw), List.mem_cons_of_mem _ w_584⟩
set_option maxRecDepth 100000 in
theorem s_M_register_38 : zGet m_M_register 38 7 3 := ⟨13, R_M, T_M, 22, d_M_register_38, rfl, by decide, fun w hw => List.mem_cons_of_mem _ (uws_M w hw), List.mem_cons_of_mem _ w_587⟩
set_option maxRecDepth 100000 in
theorem s_M_place_2 : zCV m_M_place 2 m_M_core 1 := ⟨75, zT, d_M_place_2, zGoodV w_660 w_662 ws_13 w_9 w_663, rfl, ⟨by decide +kernel, by decide +kernel, by decide +kernel⟩, ⟨by decide, by decide⟩⟩
set_option maxRecDepth 100000 in
theorem s_M_place_9 : zGet m_M_place 9 7 8 := ⟨28, R_M, T_M, 22, d_M_place_9, rfl, by decide, fun w hw => List.mem_cons_of_mem _ (uws_M w hw), List.mem_cons_of_mem _ w_592⟩
set_option maxRecDepth 100000 in
theorem s_M_buffered_2 : zCV m_M_buffered 2 m_M_core 1 := ⟨75, zT, d_M_buffered_2, zGoodV w_660 w_662 ws_13 w_9 w_663, rfl, ⟨by decide +kernel, by decide +kernel, by decide +kernel⟩, ⟨by decide, by decide⟩⟩
set_option maxRecDepth 100000 in
theorem s_M_buffered_9 : zGet m_M_buffered 9 7 9 := ⟨31, R_M, T_M, 22, d_M_buffered_9, rfl, by decide, fun w hw => List.mem_cons_of_mem _ (uws_M w hw), List.mem_cons_of_mem _ w_593⟩
set_option maxRecDepth 100000 in
theorem s_M_storeAddress_2 : zCV m_M_storeAddress 2 m_M_core 1 := ⟨75, zT, d_M_storeAddress_2, zGoodV w_660 w_662 ws_13 w_9 w_663, rfl, ⟨by decide +kernel, by decide +kernel, by decide +kernel⟩, ⟨by decide, by decide⟩⟩
set_option maxRecDepth 100000 in
theorem s_M_storeAddress_17 : zGet m_M_storeAddress 17 7 9 := ⟨31, R_M, T_M, 22, d_M_storeAddress_17, rfl, by decide, fun w hw => List.mem_cons_of_mem _ (uws_M w hw), List.mem_cons_of_mem _ w_593⟩
set_option maxRecDepth 100000 in
theorem s_M_storeAddress_30 : zPut m_M_storeAddress 30 7 0 (.int) := ⟨72, R_M, T_M, 22, ty_M, d_M_storeAddress_30, rfl, by decide, fun w hw => List.mem_cons_of_mem _ (uws_M w hw), List.mem_cons_of_mem _ w_584, tyok_M, nm_M, tyok_M 0 (by decide), Or.inl rfl⟩
set_option maxRecDepth 100000 in
theorem s_M_storeAddress_34 : zGet m_M_storeAddress 34 7 0 := ⟨72, R_M, T_M, 22, d_M_storeAddress_34, rfl, by decide, fun w hw => List.mem_cons_of_mem _ (uws_M w hw), List.mem_cons_of_mem _ w_584⟩
set_option maxRecDepth 100000 in
theorem s_M_storeAddress_45 : zGet m_M_storeAddress 45 7 10 := ⟨34, R_M, T_M, 22, d_M_storeAddress_45, rfl, by decide, fun w hw => List.mem_cons_of_mem _ (uws_M w hw), List.mem_cons_of_mem _ w_594⟩
set_option maxRecDepth 100000 in
theorem s_M_storeValue_2 : zCV m_M_storeValue 2 m_M_core 1 := ⟨75, zT, d_M_storeValue_2, zGoodV w_660 w_662 ws_13 w_9 w_663, rfl, ⟨by decide +kernel, by decide +kernel, by decide +kernel⟩, ⟨by decide, by decide⟩⟩
set_option maxRecDepth 100000 in
theorem s_M_storeValue_17 : zGet m_M_storeValue 17 7 9 := ⟨31, R_M, T_M, 22, d_M_storeValue_17, rfl, by decide, fun w hw => List.mem_cons_of_mem _ (uws_M w hw), List.mem_cons_of_mem _ w_593⟩
set_option maxRecDepth 100000 in
theorem s_M_storeValue_30 : zPut m_M_storeValue 30 7 0 (.int) := ⟨72, R_M, T_M, 22, ty_M, d_M_storeValue_30, rfl, by decide, fun w hw => List.mem_cons_of_mem _ (uws_M w hw), List.mem_cons_of_mem _ w_584, tyok_M, nm_M, tyok_M 0 (by decide), Or.inl rfl⟩
set_option maxRecDepth 100000 in
theorem s_M_storeValue_34 : zGet m_M_storeValue 34 7 0 := ⟨72, R_M, T_M, 22, d_M_storeValue_34, rfl, by decide, fun w hw => List.mem_cons_of_mem _ (uws_M w hw), List.mem_cons_of_mem _ w_584⟩
set_option maxRecDepth 100000 in
theorem s_M_storeValue_45 : zGet m_M_storeValue 45 7 11 := ⟨37, R_M, T_M, 22, d_M_storeValue_45, rfl, by decide, fun w hw => List.mem_cons_of_mem _ (uws_M w hw), List.mem_cons_of_mem _ w_595⟩
set_option maxRecDepth 100000 in
theorem s_M_line_2 : zCV m_M_line 2 m_M_core 1 := ⟨75, zT, d_M_line_2, zGoodV w_660 w_662 ws_13 w_9 w_663, rfl, ⟨by decide +kernel, by decide +kernel, by decide +kernel⟩, ⟨by decide, by decide⟩⟩
set_option maxRecDepth 100000 in
theorem s_M_line_25 : zPut m_M_line 25 7 0 (.int) := ⟨72, R_M, T_M, 22, ty_M, d_M_line_25, rfl, by decide, fun w hw => List.mem_cons_of_mem _ (uws_M w hw), List.mem_cons_of_mem _ w_584, tyok_M, nm_M, tyok_M 0 (by decide), Or.inl rfl⟩
set_option maxRecDepth 100000 in
theorem s_M_line_29 : zGet m_M_line 29 7 0 := ⟨72, R_M, T_M, 22, d_M_line_29, rfl, by decide, fun w hw => List.mem_cons_of_mem _ (uws_M w hw), List.mem_cons_of_mem _ w_584⟩
set_option maxRecDepth 100000 in
theorem s_M_line_44 : zGet m_M_line 44 7 12 := ⟨40, R_M, T_M, 22, d_M_line_44, rfl, by decide, fun w hw => List.mem_cons_of_mem _ (uws_M w hw), List.mem_cons_of_mem _ w_596⟩
set_option maxRecDepth 100000 in
theorem s_M_line_57 : zGet m_M_line 57 7 12 := ⟨40, R_M, T_M, 22, d_M_line_57, rfl, by decide, fun w hw => List.mem_cons_of_mem _ (uws_M w hw), List.mem_cons_of_mem _ w_596⟩
set_option maxRecDepth 100000 in
theorem s_M_line_64 : zGet m_M_line 64 7 13 := ⟨43, R_M, T_M, 22, d_M_line_64, rfl, by decide, fun w hw => List.mem_cons_of_mem _ (uws_M w hw), List.mem_cons_of_mem _ w_597⟩
set_option maxRecDepth 100000 in
theorem s_M_cached_2 : zCV m_M_cached 2 m_M_core 1 := ⟨75, zT, d_M_cached_2, zGoodV w_660 w_662 ws_13 w_9 w_663, rfl, ⟨by decide +kernel, by decide +kernel, by decide +kernel⟩, ⟨by decide, by decide⟩⟩
set_option maxRecDepth 100000 in
theorem s_M_cached_28 : zCV m_M_cached 28 m_M_has 2 := ⟨86, zT, d_M_cached_28, zGoodV w_671 w_673 ws_14 w_9 w_674, rfl, ⟨by decide +kernel, by decide +kernel, by decide +kernel⟩, ⟨by decide, by decide⟩⟩
set_option maxRecDepth 100000 in
theorem s_M_cached_39 : zPut m_M_cached 39 7 0 (.int) := ⟨72, R_M, T_M, 22, ty_M, d_M_cached_39, rfl, by decide, fun w hw => List.mem_cons_of_mem _ (uws_M w hw), List.mem_cons_of_mem _ w_584, tyok_M, nm_M, tyok_M 0 (by decide), Or.inl rfl⟩
set_option maxRecDepth 100000 in
theorem s_M_cached_43 : zGet m_M_cached 43 7 0 := ⟨72, R_M, T_M, 22, d_M_cached_43, rfl, by decide, fun w hw => List.mem_cons_of_mem _ (uws_M w hw), List.mem_cons_of_mem _ w_584⟩
set_option maxRecDepth 100000 in
theorem s_M_cached_54 : zGet m_M_cached 54 7 14 := ⟨46, R_M, T_M, 22, d_M_cached_54, rfl, by decide, fun w hw => List.mem_cons_of_mem _ (uws_M w hw), List.mem_cons_of_mem _ w_598⟩
set_option maxRecDepth 100000 in
theorem s_M_cached_60 : zCV m_M_cached 60 m_M_lineOf 2 := ⟨82, zT, d_M_cached_60, zGoodV w_675 w_677 ws_15 w_9 w_678, rfl, ⟨by decide +kernel, by decide +kernel, by decide +kernel⟩, ⟨by decide, by decide⟩⟩
set_option maxRecDepth 100000 in
theorem s_M_request_2 : zCV m_M_request 2 m_M_core 1 := ⟨75, zT, d_M_request_2, zGoodV w_660 w_662 ws_13 w_9 w_663, rfl, ⟨by decide +kernel, by decide +kernel, by decide +kernel⟩, ⟨by decide, by decide⟩⟩
set_option maxRecDepth 100000 in
theorem s_M_request_11 : zGet m_M_request 11 7 15 := ⟨49, R_M, T_M, 22, d_M_request_11, rfl, by decide, fun w hw => List.mem_cons_of_mem _ (uws_M w hw), List.mem_cons_of_mem _ w_599⟩
set_option maxRecDepth 100000 in
theorem s_M_request_24 : zGet m_M_request 24 7 15 := ⟨49, R_M, T_M, 22, d_M_request_24, rfl, by decide, fun w hw => List.mem_cons_of_mem _ (uws_M w hw), List.mem_cons_of_mem _ w_599⟩
set_option maxRecDepth 100000 in
theorem s_M_request_30 : zGet m_M_request 30 7 17 := ⟨55, R_M, T_M, 22, d_M_request_30, rfl, by decide, fun w hw => List.mem_cons_of_mem _ (uws_M w hw), List.mem_cons_of_mem _ w_601⟩
set_option maxRecDepth 100000 in
theorem s_M_request_47 : zGet m_M_request 47 7 16 := ⟨52, R_M, T_M, 22, d_M_request_47, rfl, by decide, fun w hw => List.mem_cons_of_mem _ (uws_M w hw), List.mem_cons_of_mem _ w_600⟩
set_option maxRecDepth 100000 in
theorem s_M_memory_16 : zPut m_M_memory 16 7 0 (.int) := ⟨72, R_M, T_M, 22, ty_M, d_M_memory_16, rfl, by decide, fun w hw => List.mem_cons_of_mem _ (uws_M w hw), List.mem_cons_of_mem _ w_584, tyok_M, nm_M, tyok_M 0 (by decide), Or.inl rfl⟩
set_option maxRecDepth 100000 in
theorem s_M_memory_20 : zGet m_M_memory 20 7 0 := ⟨72, R_M, T_M, 22, d_M_memory_20, rfl, by decide, fun w hw => List.mem_cons_of_mem _ (uws_M w hw), List.mem_cons_of_mem _ w_584⟩
set_option maxRecDepth 100000 in
theorem s_M_memory_31 : zGet m_M_memory 31 7 2 := ⟨7, R_M, T_M, 22, d_M_memory_31, rfl, by decide, fun w hw => List.mem_cons_of_mem _ (uws_M w hw), List.mem_cons_of_mem _ w_586⟩
set_option maxRecDepth 100000 in
theorem s_M_word_16 : zPut m_M_word 16 7 0 (.int) := ⟨72, R_M, T_M, 22, ty_M, d_M_word_16, rfl, by decide, fun w hw => List.mem_cons_of_mem _ (uws_M w hw), List.mem_cons_of_mem _ w_584, tyok_M, nm_M, tyok_M 0 (by decide), Or.inl rfl⟩
set_option maxRecDepth 100000 in
theorem s_M_word_20 : zGet m_M_word 20 7 0 := ⟨72, R_M, T_M, 22, d_M_word_20, rfl, by decide, fun w hw => List.mem_cons_of_mem _ (uws_M w hw), List.mem_cons_of_mem _ w_584⟩
set_option maxRecDepth 100000 in
theorem s_M_word_32 : zCV m_M_word 32 m_M_wordAt 1 := ⟨122, zT, d_M_word_32, zGoodV w_723 w_725 ws_24 w_9 w_726, rfl, ⟨by decide +kernel, by decide +kernel, by decide +kernel⟩, ⟨by decide, by decide⟩⟩
set_option maxRecDepth 100000 in
theorem s_M_events_2 : zPut m_M_events 2 7 0 (.int) := ⟨72, R_M, T_M, 22, ty_M, d_M_events_2, rfl, by decide, fun w hw => List.mem_cons_of_mem _ (uws_M w hw), List.mem_cons_of_mem _ w_584, tyok_M, nm_M, tyok_M 0 (by decide), Or.inl rfl⟩
set_option maxRecDepth 100000 in
theorem s_M_events_6 : zGet m_M_events 6 7 19 := ⟨90, R_M, T_M, 22, d_M_events_6, rfl, by decide, fun w hw => List.mem_cons_of_mem _ (uws_M w hw), List.mem_cons_of_mem _ w_603⟩
set_option maxRecDepth 100000 in
theorem s_M_event_7 : zGet m_M_event 7 7 19 := ⟨90, R_M, T_M, 22, d_M_event_7, rfl, by decide, fun w hw => List.mem_cons_of_mem _ (uws_M w hw), List.mem_cons_of_mem _ w_603⟩
set_option maxRecDepth 100000 in
theorem s_M_event_15 : zGet m_M_event 15 7 19 := ⟨90, R_M, T_M, 22, d_M_event_15, rfl, by decide, fun w hw => List.mem_cons_of_mem _ (uws_M w hw), List.mem_cons_of_mem _ w_603⟩
set_option maxRecDepth 100000 in
theorem s_M_event_29 : zPut m_M_event 29 7 0 (.int) := ⟨72, R_M, T_M, 22, ty_M, d_M_event_29, rfl, by decide, fun w hw => List.mem_cons_of_mem _ (uws_M w hw), List.mem_cons_of_mem _ w_584, tyok_M, nm_M, tyok_M 0 (by decide), Or.inl rfl⟩
set_option maxRecDepth 100000 in
theorem s_M_event_33 : zGet m_M_event 33 7 0 := ⟨72, R_M, T_M, 22, d_M_event_33, rfl, by decide, fun w hw => List.mem_cons_of_mem _ (uws_M w hw), List.mem_cons_of_mem _ w_584⟩
set_option maxRecDepth 100000 in
theorem s_M_event_44 : zGet m_M_event 44 7 20 := ⟨62, R_M, T_M, 22, d_M_event_44, rfl, by decide, fun w hw => List.mem_cons_of_mem _ (uws_M w hw), List.mem_cons_of_mem _ w_604⟩
set_option maxRecDepth 100000 in
theorem s_M_eventValue_7 : zGet m_M_eventValue 7 7 19 := ⟨90, R_M, T_M, 22, d_M_eventValue_7, rfl, by decide, fun w hw => List.mem_cons_of_mem _ (uws_M w hw), List.mem_cons_of_mem _ w_603⟩
set_option maxRecDepth 100000 in
theorem s_M_eventValue_15 : zGet m_M_eventValue 15 7 19 := ⟨90, R_M, T_M, 22, d_M_eventValue_15, rfl, by decide, fun w hw => List.mem_cons_of_mem _ (uws_M w hw), List.mem_cons_of_mem _ w_603⟩
set_option maxRecDepth 100000 in
theorem s_M_eventValue_29 : zPut m_M_eventValue 29 7 0 (.int) := ⟨72, R_M, T_M, 22, ty_M, d_M_eventValue_29, rfl, by decide, fun w hw => List.mem_cons_of_mem _ (uws_M w hw), List.mem_cons_of_mem _ w_584, tyok_M, nm_M, tyok_M 0 (by decide), Or.inl rfl⟩
set_option maxRecDepth 100000 in
theorem s_M_eventValue_33 : zGet m_M_eventValue 33 7 0 := ⟨72, R_M, T_M, 22, d_M_eventValue_33, rfl, by decide, fun w hw => List.mem_cons_of_mem _ (uws_M w hw), List.mem_cons_of_mem _ w_584⟩
set_option maxRecDepth 100000 in
theorem s_M_eventValue_44 : zGet m_M_eventValue 44 7 21 := ⟨65, R_M, T_M, 22, d_M_eventValue_44, rfl, by decide, fun w hw => List.mem_cons_of_mem _ (uws_M w hw), List.mem_cons_of_mem _ w_605⟩
