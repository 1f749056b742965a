def m_L_cell : zMI := (⟨"BufferedCoresLaw", "cell", "([II)I"⟩, method_2_code, 2, (some .int), Cond.code ⟨"BufferedCoresLaw", "cell", "([II)I"⟩ method_2_code 2 (some .int) :: zT, { frames := 0, cells := 0, slots := 0, locals := 0 }, [])
def m_L_code : zMI := (⟨"BufferedCoresLaw", "code", "(LBufferedCores;IIII[J)I"⟩, method_3_code, 7, (some .int), Cond.codeWith ⟨"BufferedCoresLaw", "code", "(LBufferedCores;IIII[J)I"⟩ method_3_code 7 (some .int) [(0, 14, 17, 13), (0, 14, 21, 15), (0, 14, 25, 17)] :: zT, { frames := 8, cells := 2, slots := 12, locals := 128 }, [(0, 14, 17, 13), (0, 14, 21, 15), (0, 14, 25, 17)])
def m_L_poke : zMI := (⟨"BufferedCoresLaw", "poke", "(LBufferedCores;II)I"⟩, method_4_code, 4, (some .int), Cond.codeWith ⟨"BufferedCoresLaw", "poke", "(LBufferedCores;II)I"⟩ method_4_code 4 (some .int) [(0, 6, 9, 15), (0, 6, 12, 17)] :: zT, { frames := 8, cells := 2, slots := 12, locals := 124 }, [(0, 6, 9, 15), (0, 6, 12, 17)])
def m_L_step : zMI := (⟨"BufferedCoresLaw", "step", "(LBufferedCores;I[J)I"⟩, method_5_code, 4, (some .int), Cond.codeWith ⟨"BufferedCoresLaw", "step", "(LBufferedCores;I[J)I"⟩ method_5_code 4 (some .int) [(0, 9, 12, 13)] :: zT, { frames := 8, cells := 1, slots := 6, locals := 127 }, [(0, 9, 12, 13)])
def m_L_drain : zMI := (⟨"BufferedCoresLaw", "drain", "(LBufferedCores;I[J)I"⟩, method_6_code, 4, (some .int), Cond.codeWith ⟨"BufferedCoresLaw", "drain", "(LBufferedCores;I[J)I"⟩ method_6_code 4 (some .int) [(0, 9, 12, 13)] :: zT, { frames := 8, cells := 1, slots := 6, locals := 128 }, [(0, 9, 12, 13)])
def m_L_grant : zMI := (⟨"BufferedCoresLaw", "grant", "(LBufferedCores;I[J)I"⟩, method_7_code, 4, (some .int), Cond.codeWith ⟨"BufferedCoresLaw", "grant", "(LBufferedCores;I[J)I"⟩ method_7_code 4 (some .int) [(0, 9, 12, 13)] :: zT, { frames := 8, cells := 1, slots := 6, locals := 129 }, [(0, 9, 12, 13)])
def m_L_fill : zMI := (⟨"BufferedCoresLaw", "fill", "(LBufferedCores;I[J)I"⟩, method_8_code, 4, (some .int), Cond.codeWith ⟨"BufferedCoresLaw", "fill", "(LBufferedCores;I[J)I"⟩ method_8_code 4 (some .int) [(0, 9, 12, 13)] :: zT, { frames := 8, cells := 1, slots := 6, locals := 128 }, [(0, 9, 12, 13)])
def m_L_register : zMI := (⟨"BufferedCoresLaw", "register", "(LBufferedCores;II[J)I"⟩, method_9_code, 5, (some .int), Cond.codeWith ⟨"BufferedCoresLaw", "register", "(LBufferedCores;II[J)I"⟩ method_9_code 5 (some .int) [(0, 10, 13, 13), (0, 10, 17, 15)] :: zT, { frames := 8, cells := 2, slots := 12, locals := 126 }, [(0, 10, 13, 13), (0, 10, 17, 15)])
def m_L_place : zMI := (⟨"BufferedCoresLaw", "place", "(LBufferedCores;I[J)I"⟩, method_10_code, 4, (some .int), Cond.codeWith ⟨"BufferedCoresLaw", "place", "(LBufferedCores;I[J)I"⟩ method_10_code 4 (some .int) [(0, 9, 12, 13)] :: zT, { frames := 8, cells := 1, slots := 6, locals := 124 }, [(0, 9, 12, 13)])
def m_L_buffered : zMI := (⟨"BufferedCoresLaw", "buffered", "(LBufferedCores;I[J)I"⟩, method_11_code, 4, (some .int), Cond.codeWith ⟨"BufferedCoresLaw", "buffered", "(LBufferedCores;I[J)I"⟩ method_11_code 4 (some .int) [(0, 9, 12, 13)] :: zT, { frames := 8, cells := 1, slots := 6, locals := 124 }, [(0, 9, 12, 13)])
def m_L_storeAddress : zMI := (⟨"BufferedCoresLaw", "storeAddress", "(LBufferedCores;II[J)I"⟩, method_12_code, 5, (some .int), Cond.codeWith ⟨"BufferedCoresLaw", "storeAddress", "(LBufferedCores;II[J)I"⟩ method_12_code 5 (some .int) [(0, 10, 13, 13), (0, 10, 17, 49)] :: zT, { frames := 8, cells := 2, slots := 12, locals := 126 }, [(0, 10, 13, 13), (0, 10, 17, 49)])
def m_L_storeValue : zMI := (⟨"BufferedCoresLaw", "storeValue", "(LBufferedCores;II[J)I"⟩, method_13_code, 5, (some .int), Cond.codeWith ⟨"BufferedCoresLaw", "storeValue", "(LBufferedCores;II[J)I"⟩ method_13_code 5 (some .int) [(0, 10, 13, 13), (0, 10, 17, 49)] :: zT, { frames := 8, cells := 2, slots := 12, locals := 126 }, [(0, 10, 13, 13), (0, 10, 17, 49)])
def m_L_line : zMI := (⟨"BufferedCoresLaw", "line", "(LBufferedCores;II[J)I"⟩, method_14_code, 5, (some .int), Cond.codeWith ⟨"BufferedCoresLaw", "line", "(LBufferedCores;II[J)I"⟩ method_14_code 5 (some .int) [(0, 10, 13, 13), (0, 10, 17, 15)] :: zT, { frames := 8, cells := 2, slots := 12, locals := 127 }, [(0, 10, 13, 13), (0, 10, 17, 15)])
def m_L_cached : zMI := (⟨"BufferedCoresLaw", "cached", "(LBufferedCores;II[J)I"⟩, method_15_code, 5, (some .int), Cond.codeWith ⟨"BufferedCoresLaw", "cached", "(LBufferedCores;II[J)I"⟩ method_15_code 5 (some .int) [(0, 10, 13, 13), (0, 10, 17, 15), (0, 10, 21, 49)] :: zT, { frames := 8, cells := 3, slots := 18, locals := 127 }, [(0, 10, 13, 13), (0, 10, 17, 15), (0, 10, 21, 49)])
def m_L_request : zMI := (⟨"BufferedCoresLaw", "request", "(LBufferedCores;I[J)I"⟩, method_16_code, 4, (some .int), Cond.codeWith ⟨"BufferedCoresLaw", "request", "(LBufferedCores;I[J)I"⟩ method_16_code 4 (some .int) [(0, 9, 12, 13)] :: zT, { frames := 8, cells := 1, slots := 6, locals := 125 }, [(0, 9, 12, 13)])
def m_L_memory : zMI := (⟨"BufferedCoresLaw", "memory", "(LBufferedCores;I[J)I"⟩, method_17_code, 4, (some .int), Cond.codeWith ⟨"BufferedCoresLaw", "memory", "(LBufferedCores;I[J)I"⟩ method_17_code 4 (some .int) [(0, 9, 12, 15)] :: zT, { frames := 8, cells := 1, slots := 6, locals := 123 }, [(0, 9, 12, 15)])
def m_L_word : zMI := (⟨"BufferedCoresLaw", "word", "(LBufferedCores;I[J)I"⟩, method_18_code, 4, (some .int), Cond.codeWith ⟨"BufferedCoresLaw", "word", "(LBufferedCores;I[J)I"⟩ method_18_code 4 (some .int) [(0, 9, 12, 15)] :: zT, { frames := 8, cells := 1, slots := 6, locals := 123 }, [(0, 9, 12, 15)])
def m_L_event : zMI := (⟨"BufferedCoresLaw", "event", "(LBufferedCores;I[J)I"⟩, method_19_code, 4, (some .int), Cond.codeWith ⟨"BufferedCoresLaw", "event", "(LBufferedCores;I[J)I"⟩ method_19_code 4 (some .int) [(0, 9, 12, 49)] :: zT, { frames := 8, cells := 1, slots := 6, locals := 124 }, [(0, 9, 12, 49)])
def m_L_eventValue : zMI := (⟨"BufferedCoresLaw", "eventValue", "(LBufferedCores;I[J)I"⟩, method_20_code, 4, (some .int), Cond.codeWith ⟨"BufferedCoresLaw", "eventValue", "(LBufferedCores;I[J)I"⟩ method_20_code 4 (some .int) [(0, 9, 12, 49)] :: zT, { frames := 8, cells := 1, slots := 6, locals := 124 }, [(0, 9, 12, 49)])
set_option maxRecDepth 100000 in
theorem d_L_cell_0 : decode method_2_code 0 = .ok (.iload_n 1, 1) := by decide +kernel
set_option maxRecDepth 100000 in
theorem d_L_cell_1 : decode method_2_code 1 = .ok (.aload_n 0, 1) := by decide +kernel
set_option maxRecDepth 100000 in
theorem d_L_cell_2 : decode method_2_code 2 = .ok (.arraylength, 1) := by decide +kernel
set_option maxRecDepth 100000 in
theorem d_L_cell_3 : decode method_2_code 3 = .ok (.if_icmp .ge 9, 3) := by decide +kernel
set_option maxRecDepth 100000 in
theorem d_L_cell_6 : decode method_2_code 6 = .ok (.aload_n 0, 1) := by decide +kernel
set_option maxRecDepth 100000 in
theorem d_L_cell_7 : decode method_2_code 7 = .ok (.iload_n 1, 1) := by decide +kernel
set_option maxRecDepth 100000 in
theorem d_L_cell_8 : decode method_2_code 8 = .ok (.iaload, 1) := by decide +kernel
set_option maxRecDepth 100000 in
theorem d_L_cell_9 : decode method_2_code 9 = .ok (.goto 4, 3) := by decide +kernel
set_option maxRecDepth 100000 in
theorem d_L_cell_12 : decode method_2_code 12 = .ok (.iconst 0, 1) := by decide +kernel
set_option maxRecDepth 100000 in
theorem d_L_cell_13 : decode method_2_code 13 = .ok (.ireturn, 1) := by decide +kernel
set_option maxRecDepth 100000 in
theorem d_L_code_0 : decode method_3_code 0 = .ok (.aload 5, 2) := by decide +kernel
set_option maxRecDepth 100000 in
theorem d_L_code_2 : decode method_3_code 2 = .ok (.iconst 0, 1) := by decide +kernel
set_option maxRecDepth 100000 in
theorem d_L_code_3 : decode method_3_code 3 = .ok (.aload_n 0, 1) := by decide +kernel
set_option maxRecDepth 100000 in
theorem d_L_code_4 : decode method_3_code 4 = .ok (.iload_n 1, 1) := by decide +kernel
set_option maxRecDepth 100000 in
theorem d_L_code_5 : decode method_3_code 5 = .ok (.iload_n 2, 1) := by decide +kernel
set_option maxRecDepth 100000 in
theorem d_L_code_6 : decode method_3_code 6 = .ok (.iload_n 3, 1) := by decide +kernel
set_option maxRecDepth 100000 in
theorem d_L_code_7 : decode method_3_code 7 = .ok (.iload 4, 2) := by decide +kernel
set_option maxRecDepth 100000 in
theorem d_L_code_9 : decode method_3_code 9 = .ok (.invokevirtual 7, 3) := by decide +kernel
set_option maxRecDepth 100000 in
theorem d_L_code_12 : decode method_3_code 12 = .ok (.i2l, 1) := by decide +kernel
set_option maxRecDepth 100000 in
theorem d_L_code_13 : decode method_3_code 13 = .ok (.lastore, 1) := by decide +kernel
set_option maxRecDepth 100000 in
theorem d_L_code_14 : decode method_3_code 14 = .ok (.goto 15, 3) := by decide +kernel
set_option maxRecDepth 100000 in
theorem d_L_code_17 : decode method_3_code 17 = .ok (.astore 6, 2) := by decide +kernel
set_option maxRecDepth 100000 in
theorem d_L_code_19 : decode method_3_code 19 = .ok (.iconst 1, 1) := by decide +kernel
set_option maxRecDepth 100000 in
theorem d_L_code_20 : decode method_3_code 20 = .ok (.ireturn, 1) := by decide +kernel
set_option maxRecDepth 100000 in
theorem d_L_code_21 : decode method_3_code 21 = .ok (.astore 6, 2) := by decide +kernel
set_option maxRecDepth 100000 in
theorem d_L_code_23 : decode method_3_code 23 = .ok (.iconst 2, 1) := by decide +kernel
set_option maxRecDepth 100000 in
theorem d_L_code_24 : decode method_3_code 24 = .ok (.ireturn, 1) := by decide +kernel
set_option maxRecDepth 100000 in
theorem d_L_code_25 : decode method_3_code 25 = .ok (.astore 6, 2) := by decide +kernel
set_option maxRecDepth 100000 in
theorem d_L_code_27 : decode method_3_code 27 = .ok (.iconst 3, 1) := by decide +kernel
set_option maxRecDepth 100000 in
theorem d_L_code_28 : decode method_3_code 28 = .ok (.ireturn, 1) := by decide +kernel
set_option maxRecDepth 100000 in
theorem d_L_code_29 : decode method_3_code 29 = .ok (.iconst 0, 1) := by decide +kernel
set_option maxRecDepth 100000 in
theorem d_L_code_30 : decode method_3_code 30 = .ok (.ireturn, 1) := by decide +kernel
set_option maxRecDepth 100000 in
theorem d_L_poke_0 : decode method_4_code 0 = .ok (.aload_n 0, 1) := by decide +kernel
set_option maxRecDepth 100000 in
theorem d_L_poke_1 : decode method_4_code 1 = .ok (.iload_n 1, 1) := by decide +kernel
set_option maxRecDepth 100000 in
theorem d_L_poke_2 : decode method_4_code 2 = .ok (.iload_n 2, 1) := by decide +kernel
set_option maxRecDepth 100000 in
theorem d_L_poke_3 : decode method_4_code 3 = .ok (.invokevirtual 19, 3) := by decide +kernel
set_option maxRecDepth 100000 in
theorem d_L_poke_6 : decode method_4_code 6 = .ok (.goto 9, 3) := by decide +kernel
set_option maxRecDepth 100000 in
theorem d_L_poke_9 : decode method_4_code 9 = .ok (.astore_n 3, 1) := by decide +kernel
set_option maxRecDepth 100000 in
theorem d_L_poke_10 : decode method_4_code 10 = .ok (.iconst 1, 1) := by decide +kernel
set_option maxRecDepth 100000 in
theorem d_L_poke_11 : decode method_4_code 11 = .ok (.ireturn, 1) := by decide +kernel
set_option maxRecDepth 100000 in
theorem d_L_poke_12 : decode method_4_code 12 = .ok (.astore_n 3, 1) := by decide +kernel
set_option maxRecDepth 100000 in
theorem d_L_poke_13 : decode method_4_code 13 = .ok (.iconst 2, 1) := by decide +kernel
set_option maxRecDepth 100000 in
theorem d_L_poke_14 : decode method_4_code 14 = .ok (.ireturn, 1) := by decide +kernel
set_option maxRecDepth 100000 in
theorem d_L_poke_15 : decode method_4_code 15 = .ok (.iconst 0, 1) := by decide +kernel
set_option maxRecDepth 100000 in
theorem d_L_poke_16 : decode method_4_code 16 = .ok (.ireturn, 1) := by decide +kernel
set_option maxRecDepth 100000 in
theorem d_L_step_0 : decode method_5_code 0 = .ok (.aload_n 2, 1) := by decide +kernel
set_option maxRecDepth 100000 in
theorem d_L_step_1 : decode method_5_code 1 = .ok (.iconst 0, 1) := by decide +kernel
set_option maxRecDepth 100000 in
theorem d_L_step_2 : decode method_5_code 2 = .ok (.aload_n 0, 1) := by decide +kernel
set_option maxRecDepth 100000 in
theorem d_L_step_3 : decode method_5_code 3 = .ok (.iload_n 1, 1) := by decide +kernel
set_option maxRecDepth 100000 in
theorem d_L_step_4 : decode method_5_code 4 = .ok (.invokevirtual 23, 3) := by decide +kernel
set_option maxRecDepth 100000 in
theorem d_L_step_7 : decode method_5_code 7 = .ok (.i2l, 1) := by decide +kernel
set_option maxRecDepth 100000 in
theorem d_L_step_8 : decode method_5_code 8 = .ok (.lastore, 1) := by decide +kernel
set_option maxRecDepth 100000 in
theorem d_L_step_9 : decode method_5_code 9 = .ok (.goto 6, 3) := by decide +kernel
set_option maxRecDepth 100000 in
theorem d_L_step_12 : decode method_5_code 12 = .ok (.astore_n 3, 1) := by decide +kernel
set_option maxRecDepth 100000 in
theorem d_L_step_13 : decode method_5_code 13 = .ok (.iconst 1, 1) := by decide +kernel
set_option maxRecDepth 100000 in
theorem d_L_step_14 : decode method_5_code 14 = .ok (.ireturn, 1) := by decide +kernel
set_option maxRecDepth 100000 in
theorem d_L_step_15 : decode method_5_code 15 = .ok (.iconst 0, 1) := by decide +kernel
set_option maxRecDepth 100000 in
theorem d_L_step_16 : decode method_5_code 16 = .ok (.ireturn, 1) := by decide +kernel
set_option maxRecDepth 100000 in
theorem d_L_drain_0 : decode method_6_code 0 = .ok (.aload_n 2, 1) := by decide +kernel
set_option maxRecDepth 100000 in
theorem d_L_drain_1 : decode method_6_code 1 = .ok (.iconst 0, 1) := by decide +kernel
set_option maxRecDepth 100000 in
theorem d_L_drain_2 : decode method_6_code 2 = .ok (.aload_n 0, 1) := by decide +kernel
set_option maxRecDepth 100000 in
theorem d_L_drain_3 : decode method_6_code 3 = .ok (.iload_n 1, 1) := by decide +kernel
set_option maxRecDepth 100000 in
theorem d_L_drain_4 : decode method_6_code 4 = .ok (.invokevirtual 27, 3) := by decide +kernel
set_option maxRecDepth 100000 in
theorem d_L_drain_7 : decode method_6_code 7 = .ok (.i2l, 1) := by decide +kernel
set_option maxRecDepth 100000 in
theorem d_L_drain_8 : decode method_6_code 8 = .ok (.lastore, 1) := by decide +kernel
set_option maxRecDepth 100000 in
theorem d_L_drain_9 : decode method_6_code 9 = .ok (.goto 6, 3) := by decide +kernel
set_option maxRecDepth 100000 in
theorem d_L_drain_12 : decode method_6_code 12 = .ok (.astore_n 3, 1) := by decide +kernel
set_option maxRecDepth 100000 in
theorem d_L_drain_13 : decode method_6_code 13 = .ok (.iconst 1, 1) := by decide +kernel
set_option maxRecDepth 100000 in
theorem d_L_drain_14 : decode method_6_code 14 = .ok (.ireturn, 1) := by decide +kernel
set_option maxRecDepth 100000 in
theorem d_L_drain_15 : decode method_6_code 15 = .ok (.iconst 0, 1) := by decide +kernel
set_option maxRecDepth 100000 in
theorem d_L_drain_16 : decode method_6_code 16 = .ok (.ireturn, 1) := by decide +kernel
set_option maxRecDepth 100000 in
theorem d_L_grant_0 : decode method_7_code 0 = .ok (.aload_n 2, 1) := by decide +kernel
set_option maxRecDepth 100000 in
theorem d_L_grant_1 : decode method_7_code 1 = .ok (.iconst 0, 1) := by decide +kernel
set_option maxRecDepth 100000 in
theorem d_L_grant_2 : decode method_7_code 2 = .ok (.aload_n 0, 1) := by decide +kernel
set_option maxRecDepth 100000 in
theorem d_L_grant_3 : decode method_7_code 3 = .ok (.iload_n 1, 1) := by decide +kernel
set_option maxRecDepth 100000 in
theorem d_L_grant_4 : decode method_7_code 4 = .ok (.invokevirtual 30, 3) := by decide +kernel
set_option maxRecDepth 100000 in
theorem d_L_grant_7 : decode method_7_code 7 = .ok (.i2l, 1) := by decide +kernel
set_option maxRecDepth 100000 in
theorem d_L_grant_8 : decode method_7_code 8 = .ok (.lastore, 1) := by decide +kernel
set_option maxRecDepth 100000 in
theorem d_L_grant_9 : decode method_7_code 9 = .ok (.goto 6, 3) := by decide +kernel
set_option maxRecDepth 100000 in
theorem d_L_grant_12 : decode method_7_code 12 = .ok (.astore_n 3, 1) := by decide +kernel
set_option maxRecDepth 100000 in
theorem d_L_grant_13 : decode method_7_code 13 = .ok (.iconst 1, 1) := by decide +kernel
set_option maxRecDepth 100000 in
theorem d_L_grant_14 : decode method_7_code 14 = .ok (.ireturn, 1) := by decide +kernel
set_option maxRecDepth 100000 in
theorem d_L_grant_15 : decode method_7_code 15 = .ok (.iconst 0, 1) := by decide +kernel
set_option maxRecDepth 100000 in
theorem d_L_grant_16 : decode method_7_code 16 = .ok (.ireturn, 1) := by decide +kernel
set_option maxRecDepth 100000 in
theorem d_L_fill_0 : decode method_8_code 0 = .ok (.aload_n 2, 1) := by decide +kernel
set_option maxRecDepth 100000 in
theorem d_L_fill_1 : decode method_8_code 1 = .ok (.iconst 0, 1) := by decide +kernel
set_option maxRecDepth 100000 in
theorem d_L_fill_2 : decode method_8_code 2 = .ok (.aload_n 0, 1) := by decide +kernel
set_option maxRecDepth 100000 in
theorem d_L_fill_3 : decode method_8_code 3 = .ok (.iload_n 1, 1) := by decide +kernel
set_option maxRecDepth 100000 in
theorem d_L_fill_4 : decode method_8_code 4 = .ok (.invokevirtual 33, 3) := by decide +kernel
set_option maxRecDepth 100000 in
theorem d_L_fill_7 : decode method_8_code 7 = .ok (.i2l, 1) := by decide +kernel
set_option maxRecDepth 100000 in
theorem d_L_fill_8 : decode method_8_code 8 = .ok (.lastore, 1) := by decide +kernel
set_option maxRecDepth 100000 in
theorem d_L_fill_9 : decode method_8_code 9 = .ok (.goto 6, 3) := by decide +kernel
set_option maxRecDepth 100000 in
theorem d_L_fill_12 : decode method_8_code 12 = .ok (.astore_n 3, 1) := by decide +kernel
set_option maxRecDepth 100000 in
theorem d_L_fill_13 : decode method_8_code 13 = .ok (.iconst 1, 1) := by decide +kernel
set_option maxRecDepth 100000 in
theorem d_L_fill_14 : decode method_8_code 14 = .ok (.ireturn, 1) := by decide +kernel
set_option maxRecDepth 100000 in
theorem d_L_fill_15 : decode method_8_code 15 = .ok (.iconst 0, 1) := by decide +kernel
set_option maxRecDepth 100000 in
theorem d_L_fill_16 : decode method_8_code 16 = .ok (.ireturn, 1) := by decide +kernel
set_option maxRecDepth 100000 in
theorem d_L_register_0 : decode method_9_code 0 = .ok (.aload_n 3, 1) := by decide +kernel
set_option maxRecDepth 100000 in
theorem d_L_register_1 : decode method_9_code 1 = .ok (.iconst 0, 1) := by decide +kernel
set_option maxRecDepth 100000 in
theorem d_L_register_2 : decode method_9_code 2 = .ok (.aload_n 0, 1) := by decide +kernel
set_option maxRecDepth 100000 in
theorem d_L_register_3 : decode method_9_code 3 = .ok (.iload_n 1, 1) := by decide +kernel
set_option maxRecDepth 100000 in
theorem d_L_register_4 : decode method_9_code 4 = .ok (.iload_n 2, 1) := by decide +kernel
set_option maxRecDepth 100000 in
theorem d_L_register_5 : decode method_9_code 5 = .ok (.invokevirtual 36, 3) := by decide +kernel
set_option maxRecDepth 100000 in
theorem d_L_register_8 : decode method_9_code 8 = .ok (.i2l, 1) := by decide +kernel
set_option maxRecDepth 100000 in
theorem d_L_register_9 : decode method_9_code 9 = .ok (.lastore, 1) := by decide +kernel
set_option maxRecDepth 100000 in
theorem d_L_register_10 : decode method_9_code 10 = .ok (.goto 11, 3) := by decide +kernel
set_option maxRecDepth 100000 in
theorem d_L_register_13 : decode method_9_code 13 = .ok (.astore 4, 2) := by decide +kernel
set_option maxRecDepth 100000 in
theorem d_L_register_15 : decode method_9_code 15 = .ok (.iconst 1, 1) := by decide +kernel
set_option maxRecDepth 100000 in
theorem d_L_register_16 : decode method_9_code 16 = .ok (.ireturn, 1) := by decide +kernel
set_option maxRecDepth 100000 in
theorem d_L_register_17 : decode method_9_code 17 = .ok (.astore 4, 2) := by decide +kernel
set_option maxRecDepth 100000 in
theorem d_L_register_19 : decode method_9_code 19 = .ok (.iconst 2, 1) := by decide +kernel
set_option maxRecDepth 100000 in
theorem d_L_register_20 : decode method_9_code 20 = .ok (.ireturn, 1) := by decide +kernel
set_option maxRecDepth 100000 in
theorem d_L_register_21 : decode method_9_code 21 = .ok (.iconst 0, 1) := by decide +kernel
set_option maxRecDepth 100000 in
theorem d_L_register_22 : decode method_9_code 22 = .ok (.ireturn, 1) := by decide +kernel
set_option maxRecDepth 100000 in
theorem d_L_place_0 : decode method_10_code 0 = .ok (.aload_n 2, 1) := by decide +kernel
set_option maxRecDepth 100000 in
theorem d_L_place_1 : decode method_10_code 1 = .ok (.iconst 0, 1) := by decide +kernel
set_option maxRecDepth 100000 in
theorem d_L_place_2 : decode method_10_code 2 = .ok (.aload_n 0, 1) := by decide +kernel
set_option maxRecDepth 100000 in
theorem d_L_place_3 : decode method_10_code 3 = .ok (.iload_n 1, 1) := by decide +kernel
set_option maxRecDepth 100000 in
theorem d_L_place_4 : decode method_10_code 4 = .ok (.invokevirtual 40, 3) := by decide +kernel
set_option maxRecDepth 100000 in
theorem d_L_place_7 : decode method_10_code 7 = .ok (.i2l, 1) := by decide +kernel
set_option maxRecDepth 100000 in
theorem d_L_place_8 : decode method_10_code 8 = .ok (.lastore, 1) := by decide +kernel
set_option maxRecDepth 100000 in
theorem d_L_place_9 : decode method_10_code 9 = .ok (.goto 6, 3) := by decide +kernel
set_option maxRecDepth 100000 in
theorem d_L_place_12 : decode method_10_code 12 = .ok (.astore_n 3, 1) := by decide +kernel
set_option maxRecDepth 100000 in
theorem d_L_place_13 : decode method_10_code 13 = .ok (.iconst 1, 1) := by decide +kernel
set_option maxRecDepth 100000 in
theorem d_L_place_14 : decode method_10_code 14 = .ok (.ireturn, 1) := by decide +kernel
set_option maxRecDepth 100000 in
theorem d_L_place_15 : decode method_10_code 15 = .ok (.iconst 0, 1) := by decide +kernel
set_option maxRecDepth 100000 in
theorem d_L_place_16 : decode method_10_code 16 = .ok (.ireturn, 1) := by decide +kernel
set_option maxRecDepth 100000 in
theorem d_L_buffered_0 : decode method_11_code 0 = .ok (.aload_n 2, 1) := by decide +kernel
set_option maxRecDepth 100000 in
theorem d_L_buffered_1 : decode method_11_code 1 = .ok (.iconst 0, 1) := by decide +kernel
set_option maxRecDepth 100000 in
theorem d_L_buffered_2 : decode method_11_code 2 = .ok (.aload_n 0, 1) := by decide +kernel
set_option maxRecDepth 100000 in
theorem d_L_buffered_3 : decode method_11_code 3 = .ok (.iload_n 1, 1) := by decide +kernel
set_option maxRecDepth 100000 in
theorem d_L_buffered_4 : decode method_11_code 4 = .ok (.invokevirtual 43, 3) := by decide +kernel
set_option maxRecDepth 100000 in
theorem d_L_buffered_7 : decode method_11_code 7 = .ok (.i2l, 1) := by decide +kernel
set_option maxRecDepth 100000 in
theorem d_L_buffered_8 : decode method_11_code 8 = .ok (.lastore, 1) := by decide +kernel
set_option maxRecDepth 100000 in
theorem d_L_buffered_9 : decode method_11_code 9 = .ok (.goto 6, 3) := by decide +kernel
set_option maxRecDepth 100000 in
theorem d_L_buffered_12 : decode method_11_code 12 = .ok (.astore_n 3, 1) := by decide +kernel
set_option maxRecDepth 100000 in
theorem d_L_buffered_13 : decode method_11_code 13 = .ok (.iconst 1, 1) := by decide +kernel
set_option maxRecDepth 100000 in
theorem d_L_buffered_14 : decode method_11_code 14 = .ok (.ireturn, 1) := by decide +kernel
set_option maxRecDepth 100000 in
theorem d_L_buffered_15 : decode method_11_code 15 = .ok (.iconst 0, 1) := by decide +kernel
set_option maxRecDepth 100000 in
theorem d_L_buffered_16 : decode method_11_code 16 = .ok (.ireturn, 1) := by decide +kernel
set_option maxRecDepth 100000 in
theorem d_L_storeAddress_0 : decode method_12_code 0 = .ok (.aload_n 3, 1) := by decide +kernel
set_option maxRecDepth 100000 in
theorem d_L_storeAddress_1 : decode method_12_code 1 = .ok (.iconst 0, 1) := by decide +kernel
set_option maxRecDepth 100000 in
theorem d_L_storeAddress_2 : decode method_12_code 2 = .ok (.aload_n 0, 1) := by decide +kernel
set_option maxRecDepth 100000 in
theorem d_L_storeAddress_3 : decode method_12_code 3 = .ok (.iload_n 1, 1) := by decide +kernel
set_option maxRecDepth 100000 in
theorem d_L_storeAddress_4 : decode method_12_code 4 = .ok (.iload_n 2, 1) := by decide +kernel
set_option maxRecDepth 100000 in
theorem d_L_storeAddress_5 : decode method_12_code 5 = .ok (.invokevirtual 46, 3) := by decide +kernel
set_option maxRecDepth 100000 in
theorem d_L_storeAddress_8 : decode method_12_code 8 = .ok (.i2l, 1) := by decide +kernel
set_option maxRecDepth 100000 in
theorem d_L_storeAddress_9 : decode method_12_code 9 = .ok (.lastore, 1) := by decide +kernel
set_option maxRecDepth 100000 in
theorem d_L_storeAddress_10 : decode method_12_code 10 = .ok (.goto 11, 3) := by decide +kernel
set_option maxRecDepth 100000 in
theorem d_L_storeAddress_13 : decode method_12_code 13 = .ok (.astore 4, 2) := by decide +kernel
set_option maxRecDepth 100000 in
theorem d_L_storeAddress_15 : decode method_12_code 15 = .ok (.iconst 1, 1) := by decide +kernel
set_option maxRecDepth 100000 in
theorem d_L_storeAddress_16 : decode method_12_code 16 = .ok (.ireturn, 1) := by decide +kernel
set_option maxRecDepth 100000 in
theorem d_L_storeAddress_17 : decode method_12_code 17 = .ok (.astore 4, 2) := by decide +kernel
set_option maxRecDepth 100000 in
theorem d_L_storeAddress_19 : decode method_12_code 19 = .ok (.iconst 2, 1) := by decide +kernel
set_option maxRecDepth 100000 in
theorem d_L_storeAddress_20 : decode method_12_code 20 = .ok (.ireturn, 1) := by decide +kernel
set_option maxRecDepth 100000 in
theorem d_L_storeAddress_21 : decode method_12_code 21 = .ok (.iconst 0, 1) := by decide +kernel
set_option maxRecDepth 100000 in
theorem d_L_storeAddress_22 : decode method_12_code 22 = .ok (.ireturn, 1) := by decide +kernel
set_option maxRecDepth 100000 in
theorem d_L_storeValue_0 : decode method_13_code 0 = .ok (.aload_n 3, 1) := by decide +kernel
set_option maxRecDepth 100000 in
theorem d_L_storeValue_1 : decode method_13_code 1 = .ok (.iconst 0, 1) := by decide +kernel
set_option maxRecDepth 100000 in
theorem d_L_storeValue_2 : decode method_13_code 2 = .ok (.aload_n 0, 1) := by decide +kernel
set_option maxRecDepth 100000 in
theorem d_L_storeValue_3 : decode method_13_code 3 = .ok (.iload_n 1, 1) := by decide +kernel
set_option maxRecDepth 100000 in
theorem d_L_storeValue_4 : decode method_13_code 4 = .ok (.iload_n 2, 1) := by decide +kernel
set_option maxRecDepth 100000 in
theorem d_L_storeValue_5 : decode method_13_code 5 = .ok (.invokevirtual 51, 3) := by decide +kernel
set_option maxRecDepth 100000 in
theorem d_L_storeValue_8 : decode method_13_code 8 = .ok (.i2l, 1) := by decide +kernel
set_option maxRecDepth 100000 in
theorem d_L_storeValue_9 : decode method_13_code 9 = .ok (.lastore, 1) := by decide +kernel
set_option maxRecDepth 100000 in
theorem d_L_storeValue_10 : decode method_13_code 10 = .ok (.goto 11, 3) := by decide +kernel
set_option maxRecDepth 100000 in
theorem d_L_storeValue_13 : decode method_13_code 13 = .ok (.astore 4, 2) := by decide +kernel
set_option maxRecDepth 100000 in
theorem d_L_storeValue_15 : decode method_13_code 15 = .ok (.iconst 1, 1) := by decide +kernel
set_option maxRecDepth 100000 in
theorem d_L_storeValue_16 : decode method_13_code 16 = .ok (.ireturn, 1) := by decide +kernel
set_option maxRecDepth 100000 in
theorem d_L_storeValue_17 : decode method_13_code 17 = .ok (.astore 4, 2) := by decide +kernel
set_option maxRecDepth 100000 in
theorem d_L_storeValue_19 : decode method_13_code 19 = .ok (.iconst 2, 1) := by decide +kernel
set_option maxRecDepth 100000 in
theorem d_L_storeValue_20 : decode method_13_code 20 = .ok (.ireturn, 1) := by decide +kernel
set_option maxRecDepth 100000 in
theorem d_L_storeValue_21 : decode method_13_code 21 = .ok (.iconst 0, 1) := by decide +kernel
set_option maxRecDepth 100000 in
theorem d_L_storeValue_22 : decode method_13_code 22 = .ok (.ireturn, 1) := by decide +kernel
set_option maxRecDepth 100000 in
theorem d_L_line_0 : decode method_14_code 0 = .ok (.aload_n 3, 1) := by decide +kernel
set_option maxRecDepth 100000 in
theorem d_L_line_1 : decode method_14_code 1 = .ok (.iconst 0, 1) := by decide +kernel
set_option maxRecDepth 100000 in
theorem d_L_line_2 : decode method_14_code 2 = .ok (.aload_n 0, 1) := by decide +kernel
set_option maxRecDepth 100000 in
theorem d_L_line_3 : decode method_14_code 3 = .ok (.iload_n 1, 1) := by decide +kernel
set_option maxRecDepth 100000 in
theorem d_L_line_4 : decode method_14_code 4 = .ok (.iload_n 2, 1) := by decide +kernel
set_option maxRecDepth 100000 in
theorem d_L_line_5 : decode method_14_code 5 = .ok (.invokevirtual 54, 3) := by decide +kernel
set_option maxRecDepth 100000 in
theorem d_L_line_8 : decode method_14_code 8 = .ok (.i2l, 1) := by decide +kernel
set_option maxRecDepth 100000 in
theorem d_L_line_9 : decode method_14_code 9 = .ok (.lastore, 1) := by decide +kernel
set_option maxRecDepth 100000 in
theorem d_L_line_10 : decode method_14_code 10 = .ok (.goto 11, 3) := by decide +kernel
set_option maxRecDepth 100000 in
theorem d_L_line_13 : decode method_14_code 13 = .ok (.astore 4, 2) := by decide +kernel
set_option maxRecDepth 100000 in
theorem d_L_line_15 : decode method_14_code 15 = .ok (.iconst 1, 1) := by decide +kernel
set_option maxRecDepth 100000 in
theorem d_L_line_16 : decode method_14_code 16 = .ok (.ireturn, 1) := by decide +kernel
set_option maxRecDepth 100000 in
theorem d_L_line_17 : decode method_14_code 17 = .ok (.astore 4, 2) := by decide +kernel
set_option maxRecDepth 100000 in
theorem d_L_line_19 : decode method_14_code 19 = .ok (.iconst 2, 1) := by decide +kernel
set_option maxRecDepth 100000 in
theorem d_L_line_20 : decode method_14_code 20 = .ok (.ireturn, 1) := by decide +kernel
set_option maxRecDepth 100000 in
theorem d_L_line_21 : decode method_14_code 21 = .ok (.iconst 0, 1) := by decide +kernel
set_option maxRecDepth 100000 in
theorem d_L_line_22 : decode method_14_code 22 = .ok (.ireturn, 1) := by decide +kernel
set_option maxRecDepth 100000 in
theorem d_L_cached_0 : decode method_15_code 0 = .ok (.aload_n 3, 1) := by decide +kernel
set_option maxRecDepth 100000 in
theorem d_L_cached_1 : decode method_15_code 1 = .ok (.iconst 0, 1) := by decide +kernel
set_option maxRecDepth 100000 in
theorem d_L_cached_2 : decode method_15_code 2 = .ok (.aload_n 0, 1) := by decide +kernel
set_option maxRecDepth 100000 in
theorem d_L_cached_3 : decode method_15_code 3 = .ok (.iload_n 1, 1) := by decide +kernel
set_option maxRecDepth 100000 in
theorem d_L_cached_4 : decode method_15_code 4 = .ok (.iload_n 2, 1) := by decide +kernel
set_option maxRecDepth 100000 in
theorem d_L_cached_5 : decode method_15_code 5 = .ok (.invokevirtual 57, 3) := by decide +kernel
set_option maxRecDepth 100000 in
theorem d_L_cached_8 : decode method_15_code 8 = .ok (.i2l, 1) := by decide +kernel
set_option maxRecDepth 100000 in
theorem d_L_cached_9 : decode method_15_code 9 = .ok (.lastore, 1) := by decide +kernel
set_option maxRecDepth 100000 in
theorem d_L_cached_10 : decode method_15_code 10 = .ok (.goto 15, 3) := by decide +kernel
set_option maxRecDepth 100000 in
theorem d_L_cached_13 : decode method_15_code 13 = .ok (.astore 4, 2) := by decide +kernel
set_option maxRecDepth 100000 in
theorem d_L_cached_15 : decode method_15_code 15 = .ok (.iconst 1, 1) := by decide +kernel
set_option maxRecDepth 100000 in
theorem d_L_cached_16 : decode method_15_code 16 = .ok (.ireturn, 1) := by decide +kernel
set_option maxRecDepth 100000 in
theorem d_L_cached_17 : decode method_15_code 17 = .ok (.astore 4, 2) := by decide +kernel
set_option maxRecDepth 100000 in
theorem d_L_cached_19 : decode method_15_code 19 = .ok (.iconst 2, 1) := by decide +kernel
set_option maxRecDepth 100000 in
theorem d_L_cached_20 : decode method_15_code 20 = .ok (.ireturn, 1) := by decide +kernel
set_option maxRecDepth 100000 in
theorem d_L_cached_21 : decode method_15_code 21 = .ok (.astore 4, 2) := by decide +kernel
set_option maxRecDepth 100000 in
theorem d_L_cached_23 : decode method_15_code 23 = .ok (.iconst 3, 1) := by decide +kernel
set_option maxRecDepth 100000 in
theorem d_L_cached_24 : decode method_15_code 24 = .ok (.ireturn, 1) := by decide +kernel
set_option maxRecDepth 100000 in
theorem d_L_cached_25 : decode method_15_code 25 = .ok (.iconst 0, 1) := by decide +kernel
set_option maxRecDepth 100000 in
theorem d_L_cached_26 : decode method_15_code 26 = .ok (.ireturn, 1) := by decide +kernel
set_option maxRecDepth 100000 in
theorem d_L_request_0 : decode method_16_code 0 = .ok (.aload_n 2, 1) := by decide +kernel
set_option maxRecDepth 100000 in
theorem d_L_request_1 : decode method_16_code 1 = .ok (.iconst 0, 1) := by decide +kernel
set_option maxRecDepth 100000 in
theorem d_L_request_2 : decode method_16_code 2 = .ok (.aload_n 0, 1) := by decide +kernel
set_option maxRecDepth 100000 in
theorem d_L_request_3 : decode method_16_code 3 = .ok (.iload_n 1, 1) := by decide +kernel
set_option maxRecDepth 100000 in
theorem d_L_request_4 : decode method_16_code 4 = .ok (.invokevirtual 60, 3) := by decide +kernel
set_option maxRecDepth 100000 in
theorem d_L_request_7 : decode method_16_code 7 = .ok (.i2l, 1) := by decide +kernel
set_option maxRecDepth 100000 in
theorem d_L_request_8 : decode method_16_code 8 = .ok (.lastore, 1) := by decide +kernel
set_option maxRecDepth 100000 in
theorem d_L_request_9 : decode method_16_code 9 = .ok (.goto 6, 3) := by decide +kernel
set_option maxRecDepth 100000 in
theorem d_L_request_12 : decode method_16_code 12 = .ok (.astore_n 3, 1) := by decide +kernel
set_option maxRecDepth 100000 in
theorem d_L_request_13 : decode method_16_code 13 = .ok (.iconst 1, 1) := by decide +kernel
set_option maxRecDepth 100000 in
theorem d_L_request_14 : decode method_16_code 14 = .ok (.ireturn, 1) := by decide +kernel
set_option maxRecDepth 100000 in
theorem d_L_request_15 : decode method_16_code 15 = .ok (.iconst 0, 1) := by decide +kernel
set_option maxRecDepth 100000 in
theorem d_L_request_16 : decode method_16_code 16 = .ok (.ireturn, 1) := by decide +kernel
set_option maxRecDepth 100000 in
theorem d_L_memory_0 : decode method_17_code 0 = .ok (.aload_n 2, 1) := by decide +kernel
set_option maxRecDepth 100000 in
theorem d_L_memory_1 : decode method_17_code 1 = .ok (.iconst 0, 1) := by decide +kernel
set_option maxRecDepth 100000 in
theorem d_L_memory_2 : decode method_17_code 2 = .ok (.aload_n 0, 1) := by decide +kernel
set_option maxRecDepth 100000 in
theorem d_L_memory_3 : decode method_17_code 3 = .ok (.iload_n 1, 1) := by decide +kernel
set_option maxRecDepth 100000 in
theorem d_L_memory_4 : decode method_17_code 4 = .ok (.invokevirtual 63, 3) := by decide +kernel
set_option maxRecDepth 100000 in
theorem d_L_memory_7 : decode method_17_code 7 = .ok (.i2l, 1) := by decide +kernel
set_option maxRecDepth 100000 in
theorem d_L_memory_8 : decode method_17_code 8 = .ok (.lastore, 1) := by decide +kernel
set_option maxRecDepth 100000 in
theorem d_L_memory_9 : decode method_17_code 9 = .ok (.goto 6, 3) := by decide +kernel
set_option maxRecDepth 100000 in
theorem d_L_memory_12 : decode method_17_code 12 = .ok (.astore_n 3, 1) := by decide +kernel
set_option maxRecDepth 100000 in
theorem d_L_memory_13 : decode method_17_code 13 = .ok (.iconst 1, 1) := by decide +kernel
set_option maxRecDepth 100000 in
theorem d_L_memory_14 : decode method_17_code 14 = .ok (.ireturn, 1) := by decide +kernel
set_option maxRecDepth 100000 in
theorem d_L_memory_15 : decode method_17_code 15 = .ok (.iconst 0, 1) := by decide +kernel
set_option maxRecDepth 100000 in
theorem d_L_memory_16 : decode method_17_code 16 = .ok (.ireturn, 1) := by decide +kernel
set_option maxRecDepth 100000 in
theorem d_L_word_0 : decode method_18_code 0 = .ok (.aload_n 2, 1) := by decide +kernel
set_option maxRecDepth 100000 in
theorem d_L_word_1 : decode method_18_code 1 = .ok (.iconst 0, 1) := by decide +kernel
set_option maxRecDepth 100000 in
theorem d_L_word_2 : decode method_18_code 2 = .ok (.aload_n 0, 1) := by decide +kernel
set_option maxRecDepth 100000 in
theorem d_L_word_3 : decode method_18_code 3 = .ok (.iload_n 1, 1) := by decide +kernel
set_option maxRecDepth 100000 in
theorem d_L_word_4 : decode method_18_code 4 = .ok (.invokevirtual 66, 3) := by decide +kernel
set_option maxRecDepth 100000 in
theorem d_L_word_7 : decode method_18_code 7 = .ok (.i2l, 1) := by decide +kernel
set_option maxRecDepth 100000 in
theorem d_L_word_8 : decode method_18_code 8 = .ok (.lastore, 1) := by decide +kernel
set_option maxRecDepth 100000 in
theorem d_L_word_9 : decode method_18_code 9 = .ok (.goto 6, 3) := by decide +kernel
set_option maxRecDepth 100000 in
theorem d_L_word_12 : decode method_18_code 12 = .ok (.astore_n 3, 1) := by decide +kernel
set_option maxRecDepth 100000 in
theorem d_L_word_13 : decode method_18_code 13 = .ok (.iconst 1, 1) := by decide +kernel
set_option maxRecDepth 100000 in
theorem d_L_word_14 : decode method_18_code 14 = .ok (.ireturn, 1) := by decide +kernel
set_option maxRecDepth 100000 in
theorem d_L_word_15 : decode method_18_code 15 = .ok (.iconst 0, 1) := by decide +kernel
set_option maxRecDepth 100000 in
theorem d_L_word_16 : decode method_18_code 16 = .ok (.ireturn, 1) := by decide +kernel
set_option maxRecDepth 100000 in
theorem d_L_event_0 : decode method_19_code 0 = .ok (.aload_n 2, 1) := by decide +kernel
set_option maxRecDepth 100000 in
theorem d_L_event_1 : decode method_19_code 1 = .ok (.iconst 0, 1) := by decide +kernel
set_option maxRecDepth 100000 in
theorem d_L_event_2 : decode method_19_code 2 = .ok (.aload_n 0, 1) := by decide +kernel
set_option maxRecDepth 100000 in
theorem d_L_event_3 : decode method_19_code 3 = .ok (.iload_n 1, 1) := by decide +kernel
set_option maxRecDepth 100000 in
theorem d_L_event_4 : decode method_19_code 4 = .ok (.invokevirtual 69, 3) := by decide +kernel
set_option maxRecDepth 100000 in
theorem d_L_event_7 : decode method_19_code 7 = .ok (.i2l, 1) := by decide +kernel
set_option maxRecDepth 100000 in
theorem d_L_event_8 : decode method_19_code 8 = .ok (.lastore, 1) := by decide +kernel
set_option maxRecDepth 100000 in
theorem d_L_event_9 : decode method_19_code 9 = .ok (.goto 6, 3) := by decide +kernel
set_option maxRecDepth 100000 in
theorem d_L_event_12 : decode method_19_code 12 = .ok (.astore_n 3, 1) := by decide +kernel
set_option maxRecDepth 100000 in
theorem d_L_event_13 : decode method_19_code 13 = .ok (.iconst 1, 1) := by decide +kernel
set_option maxRecDepth 100000 in
theorem d_L_event_14 : decode method_19_code 14 = .ok (.ireturn, 1) := by decide +kernel
set_option maxRecDepth 100000 in
theorem d_L_event_15 : decode method_19_code 15 = .ok (.iconst 0, 1) := by decide +kernel
set_option maxRecDepth 100000 in
theorem d_L_event_16 : decode method_19_code 16 = .ok (.ireturn, 1) := by decide +kernel
set_option maxRecDepth 100000 in
theorem d_L_eventValue_0 : decode method_20_code 0 = .ok (.aload_n 2, 1) := by decide +kernel
set_option maxRecDepth 100000 in
theorem d_L_eventValue_1 : decode method_20_code 1 = .ok (.iconst 0, 1) := by decide +kernel
set_option maxRecDepth 100000 in
theorem d_L_eventValue_2 : decode method_20_code 2 = .ok (.aload_n 0, 1) := by decide +kernel
set_option maxRecDepth 100000 in
theorem d_L_eventValue_3 : decode method_20_code 3 = .ok (.iload_n 1, 1) := by decide +kernel
set_option maxRecDepth 100000 in
theorem d_L_eventValue_4 : decode method_20_code 4 = .ok (.invokevirtual 72, 3) := by decide +kernel
set_option maxRecDepth 100000 in
theorem d_L_eventValue_7 : decode method_20_code 7 = .ok (.i2l, 1) := by decide +kernel
set_option maxRecDepth 100000 in
theorem d_L_eventValue_8 : decode method_20_code 8 = .ok (.lastore, 1) := by decide +kernel
set_option maxRecDepth 100000 in
theorem d_L_eventValue_9 : decode method_20_code 9 = .ok (.goto 6, 3) := by decide +kernel
set_option maxRecDepth 100000 in
theorem d_L_eventValue_12 : decode method_20_code 12 = .ok (.astore_n 3, 1) := by decide +kernel
set_option maxRecDepth 100000 in
theorem d_L_eventValue_13 : decode method_20_code 13 = .ok (.iconst 1, 1) := by decide +kernel
set_option maxRecDepth 100000 in
theorem d_L_eventValue_14 : decode method_20_code 14 = .ok (.ireturn, 1) := by decide +kernel
set_option maxRecDepth 100000 in
theorem d_L_eventValue_15 : decode method_20_code 15 = .ok (.iconst 0, 1) := by decide +kernel
set_option maxRecDepth 100000 in
theorem d_L_eventValue_16 : decode method_20_code 16 = .ok (.ireturn, 1) := by decide +kernel
set_option maxRecDepth 100000 in
theorem s_L_code_9 : zCV m_L_code 9 m_B_code 4 := ⟨7, zT, d_L_code_9, zGoodV w_194 w_195 w_196 w_1 w_197, rfl, ⟨by decide +kernel, by decide +kernel, by decide +kernel⟩, ⟨by decide, by decide⟩⟩
set_option maxRecDepth 100000 in
theorem s_L_poke_3 : zCV m_L_poke 3 m_B_poke 2 := ⟨19, zT, d_L_poke_3, zGoodV w_316 w_317 w_318 w_1 w_319, rfl, ⟨by decide +kernel, by decide +kernel, by decide +kernel⟩, ⟨by decide, by decide⟩⟩
set_option maxRecDepth 100000 in
theorem s_L_step_4 : zCV m_L_step 4 m_B_step 1 := ⟨23, zT, d_L_step_4, zGoodV w_344 w_345 w_346 w_1 w_347, rfl, ⟨by decide +kernel, by decide +kernel, by decide +kernel⟩, ⟨by decide, by decide⟩⟩
set_option maxRecDepth 100000 in
theorem s_L_drain_4 : zCV m_L_drain 4 m_B_drain 1 := ⟨27, zT, d_L_drain_4, zGoodV w_404 w_405 w_406 w_1 w_407, rfl, ⟨by decide +kernel, by decide +kernel, by decide +kernel⟩, ⟨by decide, by decide⟩⟩
set_option maxRecDepth 100000 in
theorem s_L_grant_4 : zCV m_L_grant 4 m_B_grant 1 := ⟨30, zT, d_L_grant_4, zGoodV w_415 w_416 w_417 w_1 w_418, rfl, ⟨by decide +kernel, by decide +kernel, by decide +kernel⟩, ⟨by decide, by decide⟩⟩
set_option maxRecDepth 100000 in
theorem s_L_fill_4 : zCV m_L_fill 4 m_B_fill 1 := ⟨33, zT, d_L_fill_4, zGoodV w_446 w_447 w_448 w_1 w_449, rfl, ⟨by decide +kernel, by decide +kernel, by decide +kernel⟩, ⟨by decide, by decide⟩⟩
set_option maxRecDepth 100000 in
theorem s_L_register_5 : zCV m_L_register 5 m_B_register 2 := ⟨36, zT, d_L_register_5, zGoodV w_465 w_466 w_467 w_1 w_468, rfl, ⟨by decide +kernel, by decide +kernel, by decide +kernel⟩, ⟨by decide, by decide⟩⟩
set_option maxRecDepth 100000 in
theorem s_L_place_4 : zCV m_L_place 4 m_B_place 1 := ⟨40, zT, d_L_place_4, zGoodV w_473 w_474 w_475 w_1 w_476, rfl, ⟨by decide +kernel, by decide +kernel, by decide +kernel⟩, ⟨by decide, by decide⟩⟩
set_option maxRecDepth 100000 in
theorem s_L_buffered_4 : zCV m_L_buffered 4 m_B_buffered 1 := ⟨43, zT, d_L_buffered_4, zGoodV w_480 w_481 w_482 w_1 w_483, rfl, ⟨by decide +kernel, by decide +kernel, by decide +kernel⟩, ⟨by decide, by decide⟩⟩
set_option maxRecDepth 100000 in
theorem s_L_storeAddress_5 : zCV m_L_storeAddress 5 m_B_storeAddress 2 := ⟨46, zT, d_L_storeAddress_5, zGoodV w_488 w_489 w_490 w_1 w_491, rfl, ⟨by decide +kernel, by decide +kernel, by decide +kernel⟩, ⟨by decide, by decide⟩⟩
set_option maxRecDepth 100000 in
theorem s_L_storeValue_5 : zCV m_L_storeValue 5 m_B_storeValue 2 := ⟨51, zT, d_L_storeValue_5, zGoodV w_514 w_515 w_516 w_1 w_517, rfl, ⟨by decide +kernel, by decide +kernel, by decide +kernel⟩, ⟨by decide, by decide⟩⟩
set_option maxRecDepth 100000 in
theorem s_L_line_5 : zCV m_L_line 5 m_B_line 2 := ⟨54, zT, d_L_line_5, zGoodV w_521 w_522 w_523 w_1 w_524, rfl, ⟨by decide +kernel, by decide +kernel, by decide +kernel⟩, ⟨by decide, by decide⟩⟩
set_option maxRecDepth 100000 in
theorem s_L_cached_5 : zCV m_L_cached 5 m_B_cached 2 := ⟨57, zT, d_L_cached_5, zGoodV w_529 w_530 w_531 w_1 w_532, rfl, ⟨by decide +kernel, by decide +kernel, by decide +kernel⟩, ⟨by decide, by decide⟩⟩
set_option maxRecDepth 100000 in
theorem s_L_request_4 : zCV m_L_request 4 m_B_request 1 := ⟨60, zT, d_L_request_4, zGoodV w_537 w_538 w_539 w_1 w_540, rfl, ⟨by decide +kernel, by decide +kernel, by decide +kernel⟩, ⟨by decide, by decide⟩⟩
set_option maxRecDepth 100000 in
theorem s_L_memory_4 : zCV m_L_memory 4 m_B_memory 1 := ⟨63, zT, d_L_memory_4, zGoodV w_544 w_545 w_546 w_1 w_547, rfl, ⟨by decide +kernel, by decide +kernel, by decide +kernel⟩, ⟨by decide, by decide⟩⟩
set_option maxRecDepth 100000 in
theorem s_L_word_4 : zCV m_L_word 4 m_B_word 1 := ⟨66, zT, d_L_word_4, zGoodV w_551 w_552 w_553 w_1 w_554, rfl, ⟨by decide +kernel, by decide +kernel, by decide +kernel⟩, ⟨by decide, by decide⟩⟩
set_option maxRecDepth 100000 in
theorem s_L_event_4 : zCV m_L_event 4 m_B_event 1 := ⟨69, zT, d_L_event_4, zGoodV w_558 w_559 w_560 w_1 w_561, rfl, ⟨by decide +kernel, by decide +kernel, by decide +kernel⟩, ⟨by decide, by decide⟩⟩
set_option maxRecDepth 100000 in
theorem s_L_eventValue_4 : zCV m_L_eventValue 4 m_B_eventValue 1 := ⟨72, zT, d_L_eventValue_4, zGoodV w_574 w_575 w_576 w_1 w_577, rfl, ⟨by decide +kernel, by decide +kernel, by decide +kernel⟩, ⟨by decide, by decide⟩⟩
def m_L_law : zMI := (⟨"BufferedCoresLaw", "law", "([I)Z"⟩, code, 7, (some .boolean), Cond.code ⟨"BufferedCoresLaw", "law", "([I)Z"⟩ code 7 (some .boolean) :: zT, { frames := 11, cells := 650581, slots := 7144328, locals := 394 }, [])
set_option maxRecDepth 100000 in
theorem d_L_law_0 : decode code 0 = .ok (.new 8, 3) := by decide +kernel
set_option maxRecDepth 100000 in
theorem d_L_law_3 : decode code 3 = .ok (.dup, 1) := by decide +kernel
set_option maxRecDepth 100000 in
theorem d_L_law_4 : decode code 4 = .ok (.aload_n 0, 1) := by decide +kernel
set_option maxRecDepth 100000 in
theorem d_L_law_5 : decode code 5 = .ok (.iconst 0, 1) := by decide +kernel
set_option maxRecDepth 100000 in
theorem d_L_law_6 : decode code 6 = .ok (.invokestatic 75, 3) := by decide +kernel
set_option maxRecDepth 100000 in
theorem d_L_law_9 : decode code 9 = .ok (.invokespecial 81, 3) := by decide +kernel
set_option maxRecDepth 100000 in
theorem d_L_law_12 : decode code 12 = .ok (.astore_n 1, 1) := by decide +kernel
set_option maxRecDepth 100000 in
theorem d_L_law_13 : decode code 13 = .ok (.new 84, 3) := by decide +kernel
set_option maxRecDepth 100000 in
theorem d_L_law_16 : decode code 16 = .ok (.dup, 1) := by decide +kernel
set_option maxRecDepth 100000 in
theorem d_L_law_17 : decode code 17 = .ok (.aload_n 0, 1) := by decide +kernel
set_option maxRecDepth 100000 in
theorem d_L_law_18 : decode code 18 = .ok (.iconst 0, 1) := by decide +kernel
set_option maxRecDepth 100000 in
theorem d_L_law_19 : decode code 19 = .ok (.invokestatic 75, 3) := by decide +kernel
set_option maxRecDepth 100000 in
theorem d_L_law_22 : decode code 22 = .ok (.invokespecial 86, 3) := by decide +kernel
set_option maxRecDepth 100000 in
theorem d_L_law_25 : decode code 25 = .ok (.astore_n 2, 1) := by decide +kernel
set_option maxRecDepth 100000 in
theorem d_L_law_26 : decode code 26 = .ok (.iconst 1, 1) := by decide +kernel
set_option maxRecDepth 100000 in
theorem d_L_law_27 : decode code 27 = .ok (.newarray .long, 2) := by decide +kernel
set_option maxRecDepth 100000 in
theorem d_L_law_29 : decode code 29 = .ok (.astore_n 3, 1) := by decide +kernel
set_option maxRecDepth 100000 in
theorem d_L_law_30 : decode code 30 = .ok (.iconst 1, 1) := by decide +kernel
set_option maxRecDepth 100000 in
theorem d_L_law_31 : decode code 31 = .ok (.istore 4, 2) := by decide +kernel
set_option maxRecDepth 100000 in
theorem d_L_law_33 : decode code 33 = .ok (.iload 4, 2) := by decide +kernel
set_option maxRecDepth 100000 in
theorem d_L_law_35 : decode code 35 = .ok (.aload_n 0, 1) := by decide +kernel
set_option maxRecDepth 100000 in
theorem d_L_law_36 : decode code 36 = .ok (.arraylength, 1) := by decide +kernel
set_option maxRecDepth 100000 in
theorem d_L_law_37 : decode code 37 = .ok (.iconst 5, 1) := by decide +kernel
set_option maxRecDepth 100000 in
theorem d_L_law_38 : decode code 38 = .ok (.isub, 1) := by decide +kernel
set_option maxRecDepth 100000 in
theorem d_L_law_39 : decode code 39 = .ok (.if_icmp .gt 1216, 3) := by decide +kernel
set_option maxRecDepth 100000 in
theorem d_L_law_42 : decode code 42 = .ok (.aload_n 0, 1) := by decide +kernel
set_option maxRecDepth 100000 in
theorem d_L_law_43 : decode code 43 = .ok (.iload 4, 2) := by decide +kernel
set_option maxRecDepth 100000 in
theorem d_L_law_45 : decode code 45 = .ok (.iaload, 1) := by decide +kernel
set_option maxRecDepth 100000 in
theorem d_L_law_46 : decode code 46 = .ok (.bipush 31, 2) := by decide +kernel
set_option maxRecDepth 100000 in
theorem d_L_law_48 : decode code 48 = .ok (.iand, 1) := by decide +kernel
set_option maxRecDepth 100000 in
theorem d_L_law_49 : decode code 49 = .ok (.tableswitch 1200 0 18 #[91, 183, 231, 287, 343, 399, 455, 523, 579, 635, 703, 771, 839, 907, 963, 1019, 1075, 1088, 1144], 91) := by decide +kernel
set_option maxRecDepth 100000 in
theorem d_L_law_140 : decode code 140 = .ok (.aload_n 1, 1) := by decide +kernel
set_option maxRecDepth 100000 in
theorem d_L_law_141 : decode code 141 = .ok (.aload_n 0, 1) := by decide +kernel
set_option maxRecDepth 100000 in
theorem d_L_law_142 : decode code 142 = .ok (.iload 4, 2) := by decide +kernel
set_option maxRecDepth 100000 in
theorem d_L_law_144 : decode code 144 = .ok (.iconst 1, 1) := by decide +kernel
set_option maxRecDepth 100000 in
theorem d_L_law_145 : decode code 145 = .ok (.iadd, 1) := by decide +kernel
set_option maxRecDepth 100000 in
theorem d_L_law_146 : decode code 146 = .ok (.iaload, 1) := by decide +kernel
set_option maxRecDepth 100000 in
theorem d_L_law_147 : decode code 147 = .ok (.aload_n 0, 1) := by decide +kernel
set_option maxRecDepth 100000 in
theorem d_L_law_148 : decode code 148 = .ok (.iload 4, 2) := by decide +kernel
set_option maxRecDepth 100000 in
theorem d_L_law_150 : decode code 150 = .ok (.iconst 2, 1) := by decide +kernel
set_option maxRecDepth 100000 in
theorem d_L_law_151 : decode code 151 = .ok (.iadd, 1) := by decide +kernel
set_option maxRecDepth 100000 in
theorem d_L_law_152 : decode code 152 = .ok (.iaload, 1) := by decide +kernel
set_option maxRecDepth 100000 in
theorem d_L_law_153 : decode code 153 = .ok (.aload_n 0, 1) := by decide +kernel
set_option maxRecDepth 100000 in
theorem d_L_law_154 : decode code 154 = .ok (.iload 4, 2) := by decide +kernel
set_option maxRecDepth 100000 in
theorem d_L_law_156 : decode code 156 = .ok (.iconst 3, 1) := by decide +kernel
set_option maxRecDepth 100000 in
theorem d_L_law_157 : decode code 157 = .ok (.iadd, 1) := by decide +kernel
set_option maxRecDepth 100000 in
theorem d_L_law_158 : decode code 158 = .ok (.iaload, 1) := by decide +kernel
set_option maxRecDepth 100000 in
theorem d_L_law_159 : decode code 159 = .ok (.aload_n 0, 1) := by decide +kernel
set_option maxRecDepth 100000 in
theorem d_L_law_160 : decode code 160 = .ok (.iload 4, 2) := by decide +kernel
set_option maxRecDepth 100000 in
theorem d_L_law_162 : decode code 162 = .ok (.iconst 4, 1) := by decide +kernel
set_option maxRecDepth 100000 in
theorem d_L_law_163 : decode code 163 = .ok (.iadd, 1) := by decide +kernel
set_option maxRecDepth 100000 in
theorem d_L_law_164 : decode code 164 = .ok (.iaload, 1) := by decide +kernel
set_option maxRecDepth 100000 in
theorem d_L_law_165 : decode code 165 = .ok (.aload_n 3, 1) := by decide +kernel
set_option maxRecDepth 100000 in
theorem d_L_law_166 : decode code 166 = .ok (.invokestatic 87, 3) := by decide +kernel
set_option maxRecDepth 100000 in
theorem d_L_law_169 : decode code 169 = .ok (.istore 5, 2) := by decide +kernel
set_option maxRecDepth 100000 in
theorem d_L_law_171 : decode code 171 = .ok (.aload_n 2, 1) := by decide +kernel
set_option maxRecDepth 100000 in
theorem d_L_law_172 : decode code 172 = .ok (.aload_n 0, 1) := by decide +kernel
set_option maxRecDepth 100000 in
theorem d_L_law_173 : decode code 173 = .ok (.iload 4, 2) := by decide +kernel
set_option maxRecDepth 100000 in
theorem d_L_law_175 : decode code 175 = .ok (.iconst 1, 1) := by decide +kernel
set_option maxRecDepth 100000 in
theorem d_L_law_176 : decode code 176 = .ok (.iadd, 1) := by decide +kernel
set_option maxRecDepth 100000 in
theorem d_L_law_177 : decode code 177 = .ok (.iaload, 1) := by decide +kernel
set_option maxRecDepth 100000 in
theorem d_L_law_178 : decode code 178 = .ok (.aload_n 0, 1) := by decide +kernel
set_option maxRecDepth 100000 in
theorem d_L_law_179 : decode code 179 = .ok (.iload 4, 2) := by decide +kernel
set_option maxRecDepth 100000 in
theorem d_L_law_181 : decode code 181 = .ok (.iconst 2, 1) := by decide +kernel
set_option maxRecDepth 100000 in
theorem d_L_law_182 : decode code 182 = .ok (.iadd, 1) := by decide +kernel
set_option maxRecDepth 100000 in
theorem d_L_law_183 : decode code 183 = .ok (.iaload, 1) := by decide +kernel
set_option maxRecDepth 100000 in
theorem d_L_law_184 : decode code 184 = .ok (.aload_n 0, 1) := by decide +kernel
set_option maxRecDepth 100000 in
theorem d_L_law_185 : decode code 185 = .ok (.iload 4, 2) := by decide +kernel
set_option maxRecDepth 100000 in
theorem d_L_law_187 : decode code 187 = .ok (.iconst 3, 1) := by decide +kernel
set_option maxRecDepth 100000 in
theorem d_L_law_188 : decode code 188 = .ok (.iadd, 1) := by decide +kernel
set_option maxRecDepth 100000 in
theorem d_L_law_189 : decode code 189 = .ok (.iaload, 1) := by decide +kernel
set_option maxRecDepth 100000 in
theorem d_L_law_190 : decode code 190 = .ok (.aload_n 0, 1) := by decide +kernel
set_option maxRecDepth 100000 in
theorem d_L_law_191 : decode code 191 = .ok (.iload 4, 2) := by decide +kernel
set_option maxRecDepth 100000 in
theorem d_L_law_193 : decode code 193 = .ok (.iconst 4, 1) := by decide +kernel
set_option maxRecDepth 100000 in
theorem d_L_law_194 : decode code 194 = .ok (.iadd, 1) := by decide +kernel
set_option maxRecDepth 100000 in
theorem d_L_law_195 : decode code 195 = .ok (.iaload, 1) := by decide +kernel
set_option maxRecDepth 100000 in
theorem d_L_law_196 : decode code 196 = .ok (.invokevirtual 90, 3) := by decide +kernel
set_option maxRecDepth 100000 in
theorem d_L_law_199 : decode code 199 = .ok (.istore 6, 2) := by decide +kernel
set_option maxRecDepth 100000 in
theorem d_L_law_201 : decode code 201 = .ok (.aload_n 2, 1) := by decide +kernel
set_option maxRecDepth 100000 in
theorem d_L_law_202 : decode code 202 = .ok (.invokevirtual 91, 3) := by decide +kernel
set_option maxRecDepth 100000 in
theorem d_L_law_205 : decode code 205 = .ok (.iload 5, 2) := by decide +kernel
set_option maxRecDepth 100000 in
theorem d_L_law_207 : decode code 207 = .ok (.if_icmp .eq 5, 3) := by decide +kernel
set_option maxRecDepth 100000 in
theorem d_L_law_210 : decode code 210 = .ok (.iconst 0, 1) := by decide +kernel
set_option maxRecDepth 100000 in
theorem d_L_law_211 : decode code 211 = .ok (.ireturn, 1) := by decide +kernel
set_option maxRecDepth 100000 in
theorem d_L_law_212 : decode code 212 = .ok (.iload 5, 2) := by decide +kernel
set_option maxRecDepth 100000 in
theorem d_L_law_214 : decode code 214 = .ok (.ifCond .ne 15, 3) := by decide +kernel
set_option maxRecDepth 100000 in
theorem d_L_law_217 : decode code 217 = .ok (.aload_n 3, 1) := by decide +kernel
set_option maxRecDepth 100000 in
theorem d_L_law_218 : decode code 218 = .ok (.iconst 0, 1) := by decide +kernel
set_option maxRecDepth 100000 in
theorem d_L_law_219 : decode code 219 = .ok (.laload, 1) := by decide +kernel
set_option maxRecDepth 100000 in
theorem d_L_law_220 : decode code 220 = .ok (.iload 6, 2) := by decide +kernel
set_option maxRecDepth 100000 in
theorem d_L_law_222 : decode code 222 = .ok (.i2l, 1) := by decide +kernel
set_option maxRecDepth 100000 in
theorem d_L_law_223 : decode code 223 = .ok (.lcmp, 1) := by decide +kernel
set_option maxRecDepth 100000 in
theorem d_L_law_224 : decode code 224 = .ok (.ifCond .eq 5, 3) := by decide +kernel
set_option maxRecDepth 100000 in
theorem d_L_law_227 : decode code 227 = .ok (.iconst 0, 1) := by decide +kernel
set_option maxRecDepth 100000 in
theorem d_L_law_228 : decode code 228 = .ok (.ireturn, 1) := by decide +kernel
set_option maxRecDepth 100000 in
theorem d_L_law_229 : decode code 229 = .ok (.goto 1020, 3) := by decide +kernel
set_option maxRecDepth 100000 in
theorem d_L_law_232 : decode code 232 = .ok (.aload_n 1, 1) := by decide +kernel
set_option maxRecDepth 100000 in
theorem d_L_law_233 : decode code 233 = .ok (.aload_n 0, 1) := by decide +kernel
set_option maxRecDepth 100000 in
theorem d_L_law_234 : decode code 234 = .ok (.iload 4, 2) := by decide +kernel
set_option maxRecDepth 100000 in
theorem d_L_law_236 : decode code 236 = .ok (.iconst 1, 1) := by decide +kernel
set_option maxRecDepth 100000 in
theorem d_L_law_237 : decode code 237 = .ok (.iadd, 1) := by decide +kernel
set_option maxRecDepth 100000 in
theorem d_L_law_238 : decode code 238 = .ok (.iaload, 1) := by decide +kernel
set_option maxRecDepth 100000 in
theorem d_L_law_239 : decode code 239 = .ok (.aload_n 0, 1) := by decide +kernel
set_option maxRecDepth 100000 in
theorem d_L_law_240 : decode code 240 = .ok (.iload 4, 2) := by decide +kernel
set_option maxRecDepth 100000 in
theorem d_L_law_242 : decode code 242 = .ok (.iconst 2, 1) := by decide +kernel
set_option maxRecDepth 100000 in
theorem d_L_law_243 : decode code 243 = .ok (.iadd, 1) := by decide +kernel
set_option maxRecDepth 100000 in
theorem d_L_law_244 : decode code 244 = .ok (.iaload, 1) := by decide +kernel
set_option maxRecDepth 100000 in
theorem d_L_law_245 : decode code 245 = .ok (.invokestatic 95, 3) := by decide +kernel
set_option maxRecDepth 100000 in
theorem d_L_law_248 : decode code 248 = .ok (.istore 5, 2) := by decide +kernel
set_option maxRecDepth 100000 in
theorem d_L_law_250 : decode code 250 = .ok (.aload_n 2, 1) := by decide +kernel
set_option maxRecDepth 100000 in
theorem d_L_law_251 : decode code 251 = .ok (.aload_n 0, 1) := by decide +kernel
set_option maxRecDepth 100000 in
theorem d_L_law_252 : decode code 252 = .ok (.iload 4, 2) := by decide +kernel
set_option maxRecDepth 100000 in
theorem d_L_law_254 : decode code 254 = .ok (.iconst 1, 1) := by decide +kernel
set_option maxRecDepth 100000 in
theorem d_L_law_255 : decode code 255 = .ok (.iadd, 1) := by decide +kernel
set_option maxRecDepth 100000 in
theorem d_L_law_256 : decode code 256 = .ok (.iaload, 1) := by decide +kernel
set_option maxRecDepth 100000 in
theorem d_L_law_257 : decode code 257 = .ok (.aload_n 0, 1) := by decide +kernel
set_option maxRecDepth 100000 in
theorem d_L_law_258 : decode code 258 = .ok (.iload 4, 2) := by decide +kernel
set_option maxRecDepth 100000 in
theorem d_L_law_260 : decode code 260 = .ok (.iconst 2, 1) := by decide +kernel
set_option maxRecDepth 100000 in
theorem d_L_law_261 : decode code 261 = .ok (.iadd, 1) := by decide +kernel
set_option maxRecDepth 100000 in
theorem d_L_law_262 : decode code 262 = .ok (.iaload, 1) := by decide +kernel
set_option maxRecDepth 100000 in
theorem d_L_law_263 : decode code 263 = .ok (.invokevirtual 98, 3) := by decide +kernel
set_option maxRecDepth 100000 in
theorem d_L_law_266 : decode code 266 = .ok (.aload_n 2, 1) := by decide +kernel
set_option maxRecDepth 100000 in
theorem d_L_law_267 : decode code 267 = .ok (.invokevirtual 91, 3) := by decide +kernel
set_option maxRecDepth 100000 in
theorem d_L_law_270 : decode code 270 = .ok (.iload 5, 2) := by decide +kernel
set_option maxRecDepth 100000 in
theorem d_L_law_272 : decode code 272 = .ok (.if_icmp .eq 5, 3) := by decide +kernel
set_option maxRecDepth 100000 in
theorem d_L_law_275 : decode code 275 = .ok (.iconst 0, 1) := by decide +kernel
set_option maxRecDepth 100000 in
theorem d_L_law_276 : decode code 276 = .ok (.ireturn, 1) := by decide +kernel
set_option maxRecDepth 100000 in
theorem d_L_law_277 : decode code 277 = .ok (.goto 972, 3) := by decide +kernel
set_option maxRecDepth 100000 in
theorem d_L_law_280 : decode code 280 = .ok (.aload_n 1, 1) := by decide +kernel
set_option maxRecDepth 100000 in
theorem d_L_law_281 : decode code 281 = .ok (.aload_n 0, 1) := by decide +kernel
set_option maxRecDepth 100000 in
theorem d_L_law_282 : decode code 282 = .ok (.iload 4, 2) := by decide +kernel
set_option maxRecDepth 100000 in
theorem d_L_law_284 : decode code 284 = .ok (.iconst 1, 1) := by decide +kernel
set_option maxRecDepth 100000 in
theorem d_L_law_285 : decode code 285 = .ok (.iadd, 1) := by decide +kernel
set_option maxRecDepth 100000 in
theorem d_L_law_286 : decode code 286 = .ok (.iaload, 1) := by decide +kernel
set_option maxRecDepth 100000 in
theorem d_L_law_287 : decode code 287 = .ok (.aload_n 3, 1) := by decide +kernel
set_option maxRecDepth 100000 in
theorem d_L_law_288 : decode code 288 = .ok (.invokestatic 99, 3) := by decide +kernel
set_option maxRecDepth 100000 in
theorem d_L_law_291 : decode code 291 = .ok (.istore 5, 2) := by decide +kernel
set_option maxRecDepth 100000 in
theorem d_L_law_293 : decode code 293 = .ok (.aload_n 2, 1) := by decide +kernel
set_option maxRecDepth 100000 in
theorem d_L_law_294 : decode code 294 = .ok (.aload_n 0, 1) := by decide +kernel
set_option maxRecDepth 100000 in
theorem d_L_law_295 : decode code 295 = .ok (.iload 4, 2) := by decide +kernel
set_option maxRecDepth 100000 in
theorem d_L_law_297 : decode code 297 = .ok (.iconst 1, 1) := by decide +kernel
set_option maxRecDepth 100000 in
theorem d_L_law_298 : decode code 298 = .ok (.iadd, 1) := by decide +kernel
set_option maxRecDepth 100000 in
theorem d_L_law_299 : decode code 299 = .ok (.iaload, 1) := by decide +kernel
set_option maxRecDepth 100000 in
theorem d_L_law_300 : decode code 300 = .ok (.invokevirtual 102, 3) := by decide +kernel
set_option maxRecDepth 100000 in
theorem d_L_law_303 : decode code 303 = .ok (.istore 6, 2) := by decide +kernel
set_option maxRecDepth 100000 in
theorem d_L_law_305 : decode code 305 = .ok (.aload_n 2, 1) := by decide +kernel
set_option maxRecDepth 100000 in
theorem d_L_law_306 : decode code 306 = .ok (.invokevirtual 91, 3) := by decide +kernel
set_option maxRecDepth 100000 in
theorem d_L_law_309 : decode code 309 = .ok (.iload 5, 2) := by decide +kernel
set_option maxRecDepth 100000 in
theorem d_L_law_311 : decode code 311 = .ok (.if_icmp .eq 5, 3) := by decide +kernel
set_option maxRecDepth 100000 in
theorem d_L_law_314 : decode code 314 = .ok (.iconst 0, 1) := by decide +kernel
set_option maxRecDepth 100000 in
theorem d_L_law_315 : decode code 315 = .ok (.ireturn, 1) := by decide +kernel
set_option maxRecDepth 100000 in
theorem d_L_law_316 : decode code 316 = .ok (.iload 5, 2) := by decide +kernel
set_option maxRecDepth 100000 in
theorem d_L_law_318 : decode code 318 = .ok (.ifCond .ne 15, 3) := by decide +kernel
set_option maxRecDepth 100000 in
theorem d_L_law_321 : decode code 321 = .ok (.aload_n 3, 1) := by decide +kernel
set_option maxRecDepth 100000 in
theorem d_L_law_322 : decode code 322 = .ok (.iconst 0, 1) := by decide +kernel
set_option maxRecDepth 100000 in
theorem d_L_law_323 : decode code 323 = .ok (.laload, 1) := by decide +kernel
set_option maxRecDepth 100000 in
theorem d_L_law_324 : decode code 324 = .ok (.iload 6, 2) := by decide +kernel
set_option maxRecDepth 100000 in
theorem d_L_law_326 : decode code 326 = .ok (.i2l, 1) := by decide +kernel
set_option maxRecDepth 100000 in
theorem d_L_law_327 : decode code 327 = .ok (.lcmp, 1) := by decide +kernel
set_option maxRecDepth 100000 in
theorem d_L_law_328 : decode code 328 = .ok (.ifCond .eq 5, 3) := by decide +kernel
set_option maxRecDepth 100000 in
theorem d_L_law_331 : decode code 331 = .ok (.iconst 0, 1) := by decide +kernel
set_option maxRecDepth 100000 in
theorem d_L_law_332 : decode code 332 = .ok (.ireturn, 1) := by decide +kernel
set_option maxRecDepth 100000 in
theorem d_L_law_333 : decode code 333 = .ok (.goto 916, 3) := by decide +kernel
set_option maxRecDepth 100000 in
theorem d_L_law_336 : decode code 336 = .ok (.aload_n 1, 1) := by decide +kernel
set_option maxRecDepth 100000 in
theorem d_L_law_337 : decode code 337 = .ok (.aload_n 0, 1) := by decide +kernel
set_option maxRecDepth 100000 in
theorem d_L_law_338 : decode code 338 = .ok (.iload 4, 2) := by decide +kernel
set_option maxRecDepth 100000 in
theorem d_L_law_340 : decode code 340 = .ok (.iconst 1, 1) := by decide +kernel
set_option maxRecDepth 100000 in
theorem d_L_law_341 : decode code 341 = .ok (.iadd, 1) := by decide +kernel
set_option maxRecDepth 100000 in
theorem d_L_law_342 : decode code 342 = .ok (.iaload, 1) := by decide +kernel
set_option maxRecDepth 100000 in
theorem d_L_law_343 : decode code 343 = .ok (.aload_n 3, 1) := by decide +kernel
set_option maxRecDepth 100000 in
theorem d_L_law_344 : decode code 344 = .ok (.invokestatic 103, 3) := by decide +kernel
set_option maxRecDepth 100000 in
theorem d_L_law_347 : decode code 347 = .ok (.istore 5, 2) := by decide +kernel
set_option maxRecDepth 100000 in
theorem d_L_law_349 : decode code 349 = .ok (.aload_n 2, 1) := by decide +kernel
set_option maxRecDepth 100000 in
theorem d_L_law_350 : decode code 350 = .ok (.aload_n 0, 1) := by decide +kernel
set_option maxRecDepth 100000 in
theorem d_L_law_351 : decode code 351 = .ok (.iload 4, 2) := by decide +kernel
set_option maxRecDepth 100000 in
theorem d_L_law_353 : decode code 353 = .ok (.iconst 1, 1) := by decide +kernel
set_option maxRecDepth 100000 in
theorem d_L_law_354 : decode code 354 = .ok (.iadd, 1) := by decide +kernel
set_option maxRecDepth 100000 in
theorem d_L_law_355 : decode code 355 = .ok (.iaload, 1) := by decide +kernel
set_option maxRecDepth 100000 in
theorem d_L_law_356 : decode code 356 = .ok (.invokevirtual 105, 3) := by decide +kernel
set_option maxRecDepth 100000 in
theorem d_L_law_359 : decode code 359 = .ok (.istore 6, 2) := by decide +kernel
set_option maxRecDepth 100000 in
theorem d_L_law_361 : decode code 361 = .ok (.aload_n 2, 1) := by decide +kernel
set_option maxRecDepth 100000 in
theorem d_L_law_362 : decode code 362 = .ok (.invokevirtual 91, 3) := by decide +kernel
set_option maxRecDepth 100000 in
theorem d_L_law_365 : decode code 365 = .ok (.iload 5, 2) := by decide +kernel
set_option maxRecDepth 100000 in
theorem d_L_law_367 : decode code 367 = .ok (.if_icmp .eq 5, 3) := by decide +kernel
set_option maxRecDepth 100000 in
theorem d_L_law_370 : decode code 370 = .ok (.iconst 0, 1) := by decide +kernel
set_option maxRecDepth 100000 in
theorem d_L_law_371 : decode code 371 = .ok (.ireturn, 1) := by decide +kernel
set_option maxRecDepth 100000 in
theorem d_L_law_372 : decode code 372 = .ok (.iload 5, 2) := by decide +kernel
set_option maxRecDepth 100000 in
theorem d_L_law_374 : decode code 374 = .ok (.ifCond .ne 15, 3) := by decide +kernel
set_option maxRecDepth 100000 in
theorem d_L_law_377 : decode code 377 = .ok (.aload_n 3, 1) := by decide +kernel
set_option maxRecDepth 100000 in
theorem d_L_law_378 : decode code 378 = .ok (.iconst 0, 1) := by decide +kernel
set_option maxRecDepth 100000 in
theorem d_L_law_379 : decode code 379 = .ok (.laload, 1) := by decide +kernel
set_option maxRecDepth 100000 in
theorem d_L_law_380 : decode code 380 = .ok (.iload 6, 2) := by decide +kernel
set_option maxRecDepth 100000 in
theorem d_L_law_382 : decode code 382 = .ok (.i2l, 1) := by decide +kernel
set_option maxRecDepth 100000 in
theorem d_L_law_383 : decode code 383 = .ok (.lcmp, 1) := by decide +kernel
set_option maxRecDepth 100000 in
theorem d_L_law_384 : decode code 384 = .ok (.ifCond .eq 5, 3) := by decide +kernel
set_option maxRecDepth 100000 in
theorem d_L_law_387 : decode code 387 = .ok (.iconst 0, 1) := by decide +kernel
set_option maxRecDepth 100000 in
theorem d_L_law_388 : decode code 388 = .ok (.ireturn, 1) := by decide +kernel
set_option maxRecDepth 100000 in
theorem d_L_law_389 : decode code 389 = .ok (.goto 860, 3) := by decide +kernel
set_option maxRecDepth 100000 in
theorem d_L_law_392 : decode code 392 = .ok (.aload_n 1, 1) := by decide +kernel
set_option maxRecDepth 100000 in
theorem d_L_law_393 : decode code 393 = .ok (.aload_n 0, 1) := by decide +kernel
set_option maxRecDepth 100000 in
theorem d_L_law_394 : decode code 394 = .ok (.iload 4, 2) := by decide +kernel
set_option maxRecDepth 100000 in
theorem d_L_law_396 : decode code 396 = .ok (.iconst 1, 1) := by decide +kernel
set_option maxRecDepth 100000 in
theorem d_L_law_397 : decode code 397 = .ok (.iadd, 1) := by decide +kernel
set_option maxRecDepth 100000 in
theorem d_L_law_398 : decode code 398 = .ok (.iaload, 1) := by decide +kernel
set_option maxRecDepth 100000 in
theorem d_L_law_399 : decode code 399 = .ok (.aload_n 3, 1) := by decide +kernel
set_option maxRecDepth 100000 in
theorem d_L_law_400 : decode code 400 = .ok (.invokestatic 106, 3) := by decide +kernel
set_option maxRecDepth 100000 in
theorem d_L_law_403 : decode code 403 = .ok (.istore 5, 2) := by decide +kernel
set_option maxRecDepth 100000 in
theorem d_L_law_405 : decode code 405 = .ok (.aload_n 2, 1) := by decide +kernel
set_option maxRecDepth 100000 in
theorem d_L_law_406 : decode code 406 = .ok (.aload_n 0, 1) := by decide +kernel
set_option maxRecDepth 100000 in
theorem d_L_law_407 : decode code 407 = .ok (.iload 4, 2) := by decide +kernel
set_option maxRecDepth 100000 in
theorem d_L_law_409 : decode code 409 = .ok (.iconst 1, 1) := by decide +kernel
set_option maxRecDepth 100000 in
theorem d_L_law_410 : decode code 410 = .ok (.iadd, 1) := by decide +kernel
set_option maxRecDepth 100000 in
theorem d_L_law_411 : decode code 411 = .ok (.iaload, 1) := by decide +kernel
set_option maxRecDepth 100000 in
theorem d_L_law_412 : decode code 412 = .ok (.invokevirtual 108, 3) := by decide +kernel
set_option maxRecDepth 100000 in
theorem d_L_law_415 : decode code 415 = .ok (.istore 6, 2) := by decide +kernel
set_option maxRecDepth 100000 in
theorem d_L_law_417 : decode code 417 = .ok (.aload_n 2, 1) := by decide +kernel
set_option maxRecDepth 100000 in
theorem d_L_law_418 : decode code 418 = .ok (.invokevirtual 91, 3) := by decide +kernel
set_option maxRecDepth 100000 in
theorem d_L_law_421 : decode code 421 = .ok (.iload 5, 2) := by decide +kernel
set_option maxRecDepth 100000 in
theorem d_L_law_423 : decode code 423 = .ok (.if_icmp .eq 5, 3) := by decide +kernel
set_option maxRecDepth 100000 in
theorem d_L_law_426 : decode code 426 = .ok (.iconst 0, 1) := by decide +kernel
set_option maxRecDepth 100000 in
theorem d_L_law_427 : decode code 427 = .ok (.ireturn, 1) := by decide +kernel
set_option maxRecDepth 100000 in
theorem d_L_law_428 : decode code 428 = .ok (.iload 5, 2) := by decide +kernel
set_option maxRecDepth 100000 in
theorem d_L_law_430 : decode code 430 = .ok (.ifCond .ne 15, 3) := by decide +kernel
set_option maxRecDepth 100000 in
theorem d_L_law_433 : decode code 433 = .ok (.aload_n 3, 1) := by decide +kernel
set_option maxRecDepth 100000 in
theorem d_L_law_434 : decode code 434 = .ok (.iconst 0, 1) := by decide +kernel
set_option maxRecDepth 100000 in
theorem d_L_law_435 : decode code 435 = .ok (.laload, 1) := by decide +kernel
set_option maxRecDepth 100000 in
theorem d_L_law_436 : decode code 436 = .ok (.iload 6, 2) := by decide +kernel
set_option maxRecDepth 100000 in
theorem d_L_law_438 : decode code 438 = .ok (.i2l, 1) := by decide +kernel
set_option maxRecDepth 100000 in
theorem d_L_law_439 : decode code 439 = .ok (.lcmp, 1) := by decide +kernel
set_option maxRecDepth 100000 in
theorem d_L_law_440 : decode code 440 = .ok (.ifCond .eq 5, 3) := by decide +kernel
set_option maxRecDepth 100000 in
theorem d_L_law_443 : decode code 443 = .ok (.iconst 0, 1) := by decide +kernel
set_option maxRecDepth 100000 in
theorem d_L_law_444 : decode code 444 = .ok (.ireturn, 1) := by decide +kernel
set_option maxRecDepth 100000 in
theorem d_L_law_445 : decode code 445 = .ok (.goto 804, 3) := by decide +kernel
set_option maxRecDepth 100000 in
theorem d_L_law_448 : decode code 448 = .ok (.aload_n 1, 1) := by decide +kernel
set_option maxRecDepth 100000 in
theorem d_L_law_449 : decode code 449 = .ok (.aload_n 0, 1) := by decide +kernel
set_option maxRecDepth 100000 in
theorem d_L_law_450 : decode code 450 = .ok (.iload 4, 2) := by decide +kernel
set_option maxRecDepth 100000 in
theorem d_L_law_452 : decode code 452 = .ok (.iconst 1, 1) := by decide +kernel
set_option maxRecDepth 100000 in
theorem d_L_law_453 : decode code 453 = .ok (.iadd, 1) := by decide +kernel
set_option maxRecDepth 100000 in
theorem d_L_law_454 : decode code 454 = .ok (.iaload, 1) := by decide +kernel
set_option maxRecDepth 100000 in
theorem d_L_law_455 : decode code 455 = .ok (.aload_n 3, 1) := by decide +kernel
set_option maxRecDepth 100000 in
theorem d_L_law_456 : decode code 456 = .ok (.invokestatic 109, 3) := by decide +kernel
set_option maxRecDepth 100000 in
theorem d_L_law_459 : decode code 459 = .ok (.istore 5, 2) := by decide +kernel
set_option maxRecDepth 100000 in
theorem d_L_law_461 : decode code 461 = .ok (.aload_n 2, 1) := by decide +kernel
set_option maxRecDepth 100000 in
theorem d_L_law_462 : decode code 462 = .ok (.aload_n 0, 1) := by decide +kernel
set_option maxRecDepth 100000 in
theorem d_L_law_463 : decode code 463 = .ok (.iload 4, 2) := by decide +kernel
set_option maxRecDepth 100000 in
theorem d_L_law_465 : decode code 465 = .ok (.iconst 1, 1) := by decide +kernel
set_option maxRecDepth 100000 in
theorem d_L_law_466 : decode code 466 = .ok (.iadd, 1) := by decide +kernel
set_option maxRecDepth 100000 in
theorem d_L_law_467 : decode code 467 = .ok (.iaload, 1) := by decide +kernel
set_option maxRecDepth 100000 in
theorem d_L_law_468 : decode code 468 = .ok (.invokevirtual 111, 3) := by decide +kernel
set_option maxRecDepth 100000 in
theorem d_L_law_471 : decode code 471 = .ok (.istore 6, 2) := by decide +kernel
set_option maxRecDepth 100000 in
theorem d_L_law_473 : decode code 473 = .ok (.aload_n 2, 1) := by decide +kernel
set_option maxRecDepth 100000 in
theorem d_L_law_474 : decode code 474 = .ok (.invokevirtual 91, 3) := by decide +kernel
set_option maxRecDepth 100000 in
theorem d_L_law_477 : decode code 477 = .ok (.iload 5, 2) := by decide +kernel
set_option maxRecDepth 100000 in
theorem d_L_law_479 : decode code 479 = .ok (.if_icmp .eq 5, 3) := by decide +kernel
set_option maxRecDepth 100000 in
theorem d_L_law_482 : decode code 482 = .ok (.iconst 0, 1) := by decide +kernel
set_option maxRecDepth 100000 in
theorem d_L_law_483 : decode code 483 = .ok (.ireturn, 1) := by decide +kernel
set_option maxRecDepth 100000 in
theorem d_L_law_484 : decode code 484 = .ok (.iload 5, 2) := by decide +kernel
set_option maxRecDepth 100000 in
theorem d_L_law_486 : decode code 486 = .ok (.ifCond .ne 15, 3) := by decide +kernel
set_option maxRecDepth 100000 in
theorem d_L_law_489 : decode code 489 = .ok (.aload_n 3, 1) := by decide +kernel
