/-! ===== the wrappers of the law ===== -/
theorem w_191 : (Jvm.Cond.classLink "BufferedCoresLaw" (13 : Nat) "java/lang/IndexOutOfBoundsException") ∈ zT := zT.of (i := 191) (by decide +kernel) (by decide +kernel)
theorem w_192 : (Jvm.Cond.classLink "BufferedCoresLaw" (15 : Nat) "java/lang/IllegalArgumentException") ∈ zT := zT.of (i := 192) (by decide +kernel) (by decide +kernel)
theorem w_193 : (Jvm.Cond.classLink "BufferedCoresLaw" (17 : Nat) "java/lang/IllegalStateException") ∈ zT := zT.of (i := 193) (by decide +kernel) (by decide +kernel)
theorem w_487 : (Jvm.Cond.classLink "BufferedCoresLaw" (49 : Nat) "java/util/NoSuchElementException") ∈ zT := zT.of (i := 487) (by decide +kernel) (by decide +kernel)
set_option maxHeartbeats 4000000 in
set_option maxRecDepth 100000 in
theorem wV_code {l : Launch} {G : zGP} {K : Nat} {S S' T : St} {th : Int32} {fo : Nat → Int64} {x0 x1 x2 x3 : Int32} {v : Int32} (h : Rn l G m_B_code [.ref 0, .int x0, .int x1, .int x2, .int x3] (hpA K S T th fo) (.inl (some (.int v)), (hpA K S' T th fo))) : Rn l G m_L_code [.ref 0, .int x0, .int x1, .int x2, .int x3, .ref 65] (hpA K S T th fo) (.inl (some (.int 0)), (hpA K S' T th (vp_updL fo 0 v.toInt64))) := by
  refine Rn.ofH (by decide) rfl (Nat.le_of_ble_eq_true rfl) rfl ?_
  show Ev l G m_L_code 0 [.ref 0, .int x0, .int x1, .int x2, .int x3, .ref 65, .double 0] [] (hpA K S T th fo) 0 0 _
  refine e_aload (pc := 0) d_L_code_0 rfl ?_
  refine e_iconst (pc := 2) (v := 0) d_L_code_2 (by decide) ?_
  refine e_aload_n (pc := 3) d_L_code_3 rfl ?_
  refine e_iload_n (pc := 4) d_L_code_4 rfl ?_
  refine e_iload_n (pc := 5) d_L_code_5 rfl ?_
  refine e_iload_n (pc := 6) d_L_code_6 rfl ?_
  refine e_iload (pc := 7) d_L_code_7 rfl ?_
  refine e_cV4 (pc := 9) s_L_code_9 (h) rfl rfl rfl (Nat.le_of_ble_eq_true rfl) (Nat.le_of_ble_eq_true rfl) (Nat.le_of_ble_eq_true rfl) (zGo.v ?_)
  refine e_i2l (pc := 12) d_L_code_12 ?_
  refine e_last (pc := 13) d_L_code_13 rfl (vp_dec (by decide)) wOut ?_
  refine e_goto (pc := 14) (tgt := 29) d_L_code_14 (by decide) ?_
  refine e_iconst (pc := 29) (v := 0) d_L_code_29 (by decide) ?_
  exact e_iret (pc := 30) d_L_code_30 rfl rfl (Nat.le_of_ble_eq_true rfl) (Nat.le_of_ble_eq_true rfl) rfl
set_option maxHeartbeats 4000000 in
set_option maxRecDepth 100000 in
theorem wX_code0 {l : Launch} {G : zGP} {K : Nat} {S S' T : St} {th : Int32} {fo : Nat → Int64} {x0 x1 x2 x3 : Int32} (h : Rn l G m_B_code [.ref 0, .int x0, .int x1, .int x2, .int x3] (hpA K S T th fo) (.inr "java/lang/IndexOutOfBoundsException", (hpA K S T th fo))) : Rn l G m_L_code [.ref 0, .int x0, .int x1, .int x2, .int x3, .ref 65] (hpA K S T th fo) (.inl (some (.int 1)), (hpA K S T th fo)) := by
  refine Rn.ofH (by decide) rfl (Nat.le_of_ble_eq_true rfl) rfl ?_
  show Ev l G m_L_code 0 [.ref 0, .int x0, .int x1, .int x2, .int x3, .ref 65, .double 0] [] (hpA K S T th fo) 0 0 _
  refine e_aload (pc := 0) d_L_code_0 rfl ?_
  refine e_iconst (pc := 2) (v := 0) d_L_code_2 (by decide) ?_
  refine e_aload_n (pc := 3) d_L_code_3 rfl ?_
  refine e_iload_n (pc := 4) d_L_code_4 rfl ?_
  refine e_iload_n (pc := 5) d_L_code_5 rfl ?_
  refine e_iload_n (pc := 6) d_L_code_6 rfl ?_
  refine e_iload (pc := 7) d_L_code_7 rfl ?_
  refine e_cV4 (pc := 9) s_L_code_9 (h) rfl rfl rfl (Nat.le_of_ble_eq_true rfl) (Nat.le_of_ble_eq_true rfl) (Nat.le_of_ble_eq_true rfl) ?_
  refine Or.inr (Or.inr ⟨"java/lang/IndexOutOfBoundsException", rfl, Or.inr ⟨[], [⟨0, 14, 21, 15⟩, ⟨0, 14, 25, 17⟩], ⟨0, 14, 17, 13⟩, "java/lang/IndexOutOfBoundsException", 6, 2, rfl, (fun z hz => absurd hz List.not_mem_nil), by decide, by decide, List.mem_cons_of_mem _ w_191, by decide, Or.inr ⟨rfl, d_L_code_17⟩, by decide, ?_⟩⟩)
  dsimp only [List.set]
  refine e_iconst (pc := 19) (v := 1) d_L_code_19 (by decide) ?_
  exact e_iret (pc := 20) d_L_code_20 rfl rfl (Nat.le_of_ble_eq_true rfl) (Nat.le_of_ble_eq_true rfl) rfl
set_option maxHeartbeats 4000000 in
set_option maxRecDepth 100000 in
theorem wX_code1 {l : Launch} {G : zGP} {K : Nat} {S S' T : St} {th : Int32} {fo : Nat → Int64} {x0 x1 x2 x3 : Int32} (h : Rn l G m_B_code [.ref 0, .int x0, .int x1, .int x2, .int x3] (hpA K S T th fo) (.inr "java/lang/IllegalArgumentException", (hpA K S T th fo))) : Rn l G m_L_code [.ref 0, .int x0, .int x1, .int x2, .int x3, .ref 65] (hpA K S T th fo) (.inl (some (.int 2)), (hpA K S T th fo)) := by
  refine Rn.ofH (by decide) rfl (Nat.le_of_ble_eq_true rfl) rfl ?_
  show Ev l G m_L_code 0 [.ref 0, .int x0, .int x1, .int x2, .int x3, .ref 65, .double 0] [] (hpA K S T th fo) 0 0 _
  refine e_aload (pc := 0) d_L_code_0 rfl ?_
  refine e_iconst (pc := 2) (v := 0) d_L_code_2 (by decide) ?_
  refine e_aload_n (pc := 3) d_L_code_3 rfl ?_
  refine e_iload_n (pc := 4) d_L_code_4 rfl ?_
  refine e_iload_n (pc := 5) d_L_code_5 rfl ?_
  refine e_iload_n (pc := 6) d_L_code_6 rfl ?_
  refine e_iload (pc := 7) d_L_code_7 rfl ?_
  refine e_cV4 (pc := 9) s_L_code_9 (h) rfl rfl rfl (Nat.le_of_ble_eq_true rfl) (Nat.le_of_ble_eq_true rfl) (Nat.le_of_ble_eq_true rfl) ?_
  refine Or.inr (Or.inr ⟨"java/lang/IllegalArgumentException", rfl, Or.inr ⟨[⟨0, 14, 17, 13⟩], [⟨0, 14, 25, 17⟩], ⟨0, 14, 21, 15⟩, "java/lang/IllegalArgumentException", 6, 2, rfl, (fun z hz => by rw [List.mem_singleton.mp hz]; exact Or.inr ⟨by decide, "java/lang/IndexOutOfBoundsException", List.mem_cons_of_mem _ w_191, by decide⟩), by decide, by decide, List.mem_cons_of_mem _ w_192, by decide, Or.inr ⟨rfl, d_L_code_21⟩, by decide, ?_⟩⟩)
  dsimp only [List.set]
  refine e_iconst (pc := 23) (v := 2) d_L_code_23 (by decide) ?_
  exact e_iret (pc := 24) d_L_code_24 rfl rfl (Nat.le_of_ble_eq_true rfl) (Nat.le_of_ble_eq_true rfl) rfl
set_option maxHeartbeats 4000000 in
set_option maxRecDepth 100000 in
theorem wX_code2 {l : Launch} {G : zGP} {K : Nat} {S S' T : St} {th : Int32} {fo : Nat → Int64} {x0 x1 x2 x3 : Int32} (h : Rn l G m_B_code [.ref 0, .int x0, .int x1, .int x2, .int x3] (hpA K S T th fo) (.inr "java/lang/IllegalStateException", (hpA K S T th fo))) : Rn l G m_L_code [.ref 0, .int x0, .int x1, .int x2, .int x3, .ref 65] (hpA K S T th fo) (.inl (some (.int 3)), (hpA K S T th fo)) := by
  refine Rn.ofH (by decide) rfl (Nat.le_of_ble_eq_true rfl) rfl ?_
  show Ev l G m_L_code 0 [.ref 0, .int x0, .int x1, .int x2, .int x3, .ref 65, .double 0] [] (hpA K S T th fo) 0 0 _
  refine e_aload (pc := 0) d_L_code_0 rfl ?_
  refine e_iconst (pc := 2) (v := 0) d_L_code_2 (by decide) ?_
  refine e_aload_n (pc := 3) d_L_code_3 rfl ?_
  refine e_iload_n (pc := 4) d_L_code_4 rfl ?_
  refine e_iload_n (pc := 5) d_L_code_5 rfl ?_
  refine e_iload_n (pc := 6) d_L_code_6 rfl ?_
  refine e_iload (pc := 7) d_L_code_7 rfl ?_
  refine e_cV4 (pc := 9) s_L_code_9 (h) rfl rfl rfl (Nat.le_of_ble_eq_true rfl) (Nat.le_of_ble_eq_true rfl) (Nat.le_of_ble_eq_true rfl) ?_
  refine Or.inr (Or.inr ⟨"java/lang/IllegalStateException", rfl, Or.inr ⟨[⟨0, 14, 17, 13⟩, ⟨0, 14, 21, 15⟩], [], ⟨0, 14, 25, 17⟩, "java/lang/IllegalStateException", 6, 2, rfl, (fun z hz => by
        rcases List.mem_cons.mp hz with q | q
        · rw [q]; exact Or.inr ⟨by decide, "java/lang/IndexOutOfBoundsException", List.mem_cons_of_mem _ w_191, by decide⟩
        · rw [List.mem_singleton.mp q]; exact Or.inr ⟨by decide, "java/lang/IllegalArgumentException", List.mem_cons_of_mem _ w_192, by decide⟩), by decide, by decide, List.mem_cons_of_mem _ w_193, by decide, Or.inr ⟨rfl, d_L_code_25⟩, by decide, ?_⟩⟩)
  dsimp only [List.set]
  refine e_iconst (pc := 27) (v := 3) d_L_code_27 (by decide) ?_
  exact e_iret (pc := 28) d_L_code_28 rfl rfl (Nat.le_of_ble_eq_true rfl) (Nat.le_of_ble_eq_true rfl) rfl
set_option maxHeartbeats 4000000 in
set_option maxRecDepth 100000 in
theorem wV_poke {l : Launch} {G : zGP} {K : Nat} {S S' T : St} {th : Int32} {fo : Nat → Int64} {x0 x1 : Int32} (h : Rn l G m_B_poke [.ref 0, .int x0, .int x1] (hpA K S T th fo) (.inl none, (hpA K S' T th fo))) : Rn l G m_L_poke [.ref 0, .int x0, .int x1] (hpA K S T th fo) (.inl (some (.int 0)), (hpA K S' T th fo)) := by
  refine Rn.ofH (by decide) rfl (Nat.le_of_ble_eq_true rfl) rfl ?_
  show Ev l G m_L_poke 0 [.ref 0, .int x0, .int x1, .double 0] [] (hpA K S T th fo) 0 0 _
  refine e_aload_n (pc := 0) d_L_poke_0 rfl ?_
  refine e_iload_n (pc := 1) d_L_poke_1 rfl ?_
  refine e_iload_n (pc := 2) d_L_poke_2 rfl ?_
  refine e_cV2 (pc := 3) s_L_poke_3 (h) rfl rfl rfl (Nat.le_of_ble_eq_true rfl) (Nat.le_of_ble_eq_true rfl) (Nat.le_of_ble_eq_true rfl) (zGo.n ?_)
  refine e_goto (pc := 6) (tgt := 15) d_L_poke_6 (by decide) ?_
  refine e_iconst (pc := 15) (v := 0) d_L_poke_15 (by decide) ?_
  exact e_iret (pc := 16) d_L_poke_16 rfl rfl (Nat.le_of_ble_eq_true rfl) (Nat.le_of_ble_eq_true rfl) rfl
set_option maxHeartbeats 4000000 in
set_option maxRecDepth 100000 in
theorem wX_poke0 {l : Launch} {G : zGP} {K : Nat} {S S' T : St} {th : Int32} {fo : Nat → Int64} {x0 x1 : Int32} (h : Rn l G m_B_poke [.ref 0, .int x0, .int x1] (hpA K S T th fo) (.inr "java/lang/IllegalArgumentException", (hpA K S T th fo))) : Rn l G m_L_poke [.ref 0, .int x0, .int x1] (hpA K S T th fo) (.inl (some (.int 1)), (hpA K S T th fo)) := by
  refine Rn.ofH (by decide) rfl (Nat.le_of_ble_eq_true rfl) rfl ?_
  show Ev l G m_L_poke 0 [.ref 0, .int x0, .int x1, .double 0] [] (hpA K S T th fo) 0 0 _
  refine e_aload_n (pc := 0) d_L_poke_0 rfl ?_
  refine e_iload_n (pc := 1) d_L_poke_1 rfl ?_
  refine e_iload_n (pc := 2) d_L_poke_2 rfl ?_
  refine e_cV2 (pc := 3) s_L_poke_3 (h) rfl rfl rfl (Nat.le_of_ble_eq_true rfl) (Nat.le_of_ble_eq_true rfl) (Nat.le_of_ble_eq_true rfl) ?_
  refine Or.inr (Or.inr ⟨"java/lang/IllegalArgumentException", rfl, Or.inr ⟨[], [⟨0, 6, 12, 17⟩], ⟨0, 6, 9, 15⟩, "java/lang/IllegalArgumentException", 3, 1, rfl, (fun z hz => absurd hz List.not_mem_nil), by decide, by decide, List.mem_cons_of_mem _ w_192, by decide, Or.inl ⟨3, rfl, rfl, d_L_poke_9⟩, by decide, ?_⟩⟩)
  dsimp only [List.set]
  refine e_iconst (pc := 10) (v := 1) d_L_poke_10 (by decide) ?_
  exact e_iret (pc := 11) d_L_poke_11 rfl rfl (Nat.le_of_ble_eq_true rfl) (Nat.le_of_ble_eq_true rfl) rfl
set_option maxHeartbeats 4000000 in
set_option maxRecDepth 100000 in
theorem wX_poke1 {l : Launch} {G : zGP} {K : Nat} {S S' T : St} {th : Int32} {fo : Nat → Int64} {x0 x1 : Int32} (h : Rn l G m_B_poke [.ref 0, .int x0, .int x1] (hpA K S T th fo) (.inr "java/lang/IllegalStateException", (hpA K S T th fo))) : Rn l G m_L_poke [.ref 0, .int x0, .int x1] (hpA K S T th fo) (.inl (some (.int 2)), (hpA K S T th fo)) := by
  refine Rn.ofH (by decide) rfl (Nat.le_of_ble_eq_true rfl) rfl ?_
  show Ev l G m_L_poke 0 [.ref 0, .int x0, .int x1, .double 0] [] (hpA K S T th fo) 0 0 _
  refine e_aload_n (pc := 0) d_L_poke_0 rfl ?_
  refine e_iload_n (pc := 1) d_L_poke_1 rfl ?_
  refine e_iload_n (pc := 2) d_L_poke_2 rfl ?_
  refine e_cV2 (pc := 3) s_L_poke_3 (h) rfl rfl rfl (Nat.le_of_ble_eq_true rfl) (Nat.le_of_ble_eq_true rfl) (Nat.le_of_ble_eq_true rfl) ?_
  refine Or.inr (Or.inr ⟨"java/lang/IllegalStateException", rfl, Or.inr ⟨[⟨0, 6, 9, 15⟩], [], ⟨0, 6, 12, 17⟩, "java/lang/IllegalStateException", 3, 1, rfl, (fun z hz => by rw [List.mem_singleton.mp hz]; exact Or.inr ⟨by decide, "java/lang/IllegalArgumentException", List.mem_cons_of_mem _ w_192, by decide⟩), by decide, by decide, List.mem_cons_of_mem _ w_193, by decide, Or.inl ⟨3, rfl, rfl, d_L_poke_12⟩, by decide, ?_⟩⟩)
  dsimp only [List.set]
  refine e_iconst (pc := 13) (v := 2) d_L_poke_13 (by decide) ?_
  exact e_iret (pc := 14) d_L_poke_14 rfl rfl (Nat.le_of_ble_eq_true rfl) (Nat.le_of_ble_eq_true rfl) rfl
set_option maxHeartbeats 4000000 in
set_option maxRecDepth 100000 in
theorem wV_step {l : Launch} {G : zGP} {K : Nat} {S S' T : St} {th : Int32} {fo : Nat → Int64} {x0 : Int32} {v : Int32} (h : Rn l G m_B_step [.ref 0, .int x0] (hpA K S T th fo) (.inl (some (.int v)), (hpA K S' T th fo))) : Rn l G m_L_step [.ref 0, .int x0, .ref 65] (hpA K S T th fo) (.inl (some (.int 0)), (hpA K S' T th (vp_updL fo 0 v.toInt64))) := by
  refine Rn.ofH (by decide) rfl (Nat.le_of_ble_eq_true rfl) rfl ?_
  show Ev l G m_L_step 0 [.ref 0, .int x0, .ref 65, .double 0] [] (hpA K S T th fo) 0 0 _
  refine e_aload_n (pc := 0) d_L_step_0 rfl ?_
  refine e_iconst (pc := 1) (v := 0) d_L_step_1 (by decide) ?_
  refine e_aload_n (pc := 2) d_L_step_2 rfl ?_
  refine e_iload_n (pc := 3) d_L_step_3 rfl ?_
  refine e_cV1 (pc := 4) s_L_step_4 (h) rfl rfl rfl (Nat.le_of_ble_eq_true rfl) (Nat.le_of_ble_eq_true rfl) (Nat.le_of_ble_eq_true rfl) (zGo.v ?_)
  refine e_i2l (pc := 7) d_L_step_7 ?_
  refine e_last (pc := 8) d_L_step_8 rfl (vp_dec (by decide)) wOut ?_
  refine e_goto (pc := 9) (tgt := 15) d_L_step_9 (by decide) ?_
  refine e_iconst (pc := 15) (v := 0) d_L_step_15 (by decide) ?_
  exact e_iret (pc := 16) d_L_step_16 rfl rfl (Nat.le_of_ble_eq_true rfl) (Nat.le_of_ble_eq_true rfl) rfl
set_option maxHeartbeats 4000000 in
set_option maxRecDepth 100000 in
theorem wX_step0 {l : Launch} {G : zGP} {K : Nat} {S S' T : St} {th : Int32} {fo : Nat → Int64} {x0 : Int32} (h : Rn l G m_B_step [.ref 0, .int x0] (hpA K S T th fo) (.inr "java/lang/IndexOutOfBoundsException", (hpA K S T th fo))) : Rn l G m_L_step [.ref 0, .int x0, .ref 65] (hpA K S T th fo) (.inl (some (.int 1)), (hpA K S T th fo)) := by
  refine Rn.ofH (by decide) rfl (Nat.le_of_ble_eq_true rfl) rfl ?_
  show Ev l G m_L_step 0 [.ref 0, .int x0, .ref 65, .double 0] [] (hpA K S T th fo) 0 0 _
  refine e_aload_n (pc := 0) d_L_step_0 rfl ?_
  refine e_iconst (pc := 1) (v := 0) d_L_step_1 (by decide) ?_
  refine e_aload_n (pc := 2) d_L_step_2 rfl ?_
  refine e_iload_n (pc := 3) d_L_step_3 rfl ?_
  refine e_cV1 (pc := 4) s_L_step_4 (h) rfl rfl rfl (Nat.le_of_ble_eq_true rfl) (Nat.le_of_ble_eq_true rfl) (Nat.le_of_ble_eq_true rfl) ?_
  refine Or.inr (Or.inr ⟨"java/lang/IndexOutOfBoundsException", rfl, Or.inr ⟨[], [], ⟨0, 9, 12, 13⟩, "java/lang/IndexOutOfBoundsException", 3, 1, rfl, (fun z hz => absurd hz List.not_mem_nil), by decide, by decide, List.mem_cons_of_mem _ w_191, by decide, Or.inl ⟨3, rfl, rfl, d_L_step_12⟩, by decide, ?_⟩⟩)
  dsimp only [List.set]
  refine e_iconst (pc := 13) (v := 1) d_L_step_13 (by decide) ?_
  exact e_iret (pc := 14) d_L_step_14 rfl rfl (Nat.le_of_ble_eq_true rfl) (Nat.le_of_ble_eq_true rfl) rfl
set_option maxHeartbeats 4000000 in
set_option maxRecDepth 100000 in
theorem wV_drain {l : Launch} {G : zGP} {K : Nat} {S S' T : St} {th : Int32} {fo : Nat → Int64} {x0 : Int32} {v : Int32} (h : Rn l G m_B_drain [.ref 0, .int x0] (hpA K S T th fo) (.inl (some (.int v)), (hpA K S' T th fo))) : Rn l G m_L_drain [.ref 0, .int x0, .ref 65] (hpA K S T th fo) (.inl (some (.int 0)), (hpA K S' T th (vp_updL fo 0 v.toInt64))) := by
  refine Rn.ofH (by decide) rfl (Nat.le_of_ble_eq_true rfl) rfl ?_
  show Ev l G m_L_drain 0 [.ref 0, .int x0, .ref 65, .double 0] [] (hpA K S T th fo) 0 0 _
  refine e_aload_n (pc := 0) d_L_drain_0 rfl ?_
  refine e_iconst (pc := 1) (v := 0) d_L_drain_1 (by decide) ?_
  refine e_aload_n (pc := 2) d_L_drain_2 rfl ?_
  refine e_iload_n (pc := 3) d_L_drain_3 rfl ?_
  refine e_cV1 (pc := 4) s_L_drain_4 (h) rfl rfl rfl (Nat.le_of_ble_eq_true rfl) (Nat.le_of_ble_eq_true rfl) (Nat.le_of_ble_eq_true rfl) (zGo.v ?_)
  refine e_i2l (pc := 7) d_L_drain_7 ?_
  refine e_last (pc := 8) d_L_drain_8 rfl (vp_dec (by decide)) wOut ?_
  refine e_goto (pc := 9) (tgt := 15) d_L_drain_9 (by decide) ?_
  refine e_iconst (pc := 15) (v := 0) d_L_drain_15 (by decide) ?_
  exact e_iret (pc := 16) d_L_drain_16 rfl rfl (Nat.le_of_ble_eq_true rfl) (Nat.le_of_ble_eq_true rfl) rfl
set_option maxHeartbeats 4000000 in
set_option maxRecDepth 100000 in
theorem wX_drain0 {l : Launch} {G : zGP} {K : Nat} {S S' T : St} {th : Int32} {fo : Nat → Int64} {x0 : Int32} (h : Rn l G m_B_drain [.ref 0, .int x0] (hpA K S T th fo) (.inr "java/lang/IndexOutOfBoundsException", (hpA K S T th fo))) : Rn l G m_L_drain [.ref 0, .int x0, .ref 65] (hpA K S T th fo) (.inl (some (.int 1)), (hpA K S T th fo)) := by
  refine Rn.ofH (by decide) rfl (Nat.le_of_ble_eq_true rfl) rfl ?_
  show Ev l G m_L_drain 0 [.ref 0, .int x0, .ref 65, .double 0] [] (hpA K S T th fo) 0 0 _
  refine e_aload_n (pc := 0) d_L_drain_0 rfl ?_
  refine e_iconst (pc := 1) (v := 0) d_L_drain_1 (by decide) ?_
  refine e_aload_n (pc := 2) d_L_drain_2 rfl ?_
  refine e_iload_n (pc := 3) d_L_drain_3 rfl ?_
  refine e_cV1 (pc := 4) s_L_drain_4 (h) rfl rfl rfl (Nat.le_of_ble_eq_true rfl) (Nat.le_of_ble_eq_true rfl) (Nat.le_of_ble_eq_true rfl) ?_
  refine Or.inr (Or.inr ⟨"java/lang/IndexOutOfBoundsException", rfl, Or.inr ⟨[], [], ⟨0, 9, 12, 13⟩, "java/lang/IndexOutOfBoundsException", 3, 1, rfl, (fun z hz => absurd hz List.not_mem_nil), by decide, by decide, List.mem_cons_of_mem _ w_191, by decide, Or.inl ⟨3, rfl, rfl, d_L_drain_12⟩, by decide, ?_⟩⟩)
  dsimp only [List.set]
  refine e_iconst (pc := 13) (v := 1) d_L_drain_13 (by decide) ?_
  exact e_iret (pc := 14) d_L_drain_14 rfl rfl (Nat.le_of_ble_eq_true rfl) (Nat.le_of_ble_eq_true rfl) rfl
set_option maxHeartbeats 4000000 in
set_option maxRecDepth 100000 in
theorem wV_grant {l : Launch} {G : zGP} {K : Nat} {S S' T : St} {th : Int32} {fo : Nat → Int64} {x0 : Int32} {v : Int32} (h : Rn l G m_B_grant [.ref 0, .int x0] (hpA K S T th fo) (.inl (some (.int v)), (hpA K S' T th fo))) : Rn l G m_L_grant [.ref 0, .int x0, .ref 65] (hpA K S T th fo) (.inl (some (.int 0)), (hpA K S' T th (vp_updL fo 0 v.toInt64))) := by
  refine Rn.ofH (by decide) rfl (Nat.le_of_ble_eq_true rfl) rfl ?_
  show Ev l G m_L_grant 0 [.ref 0, .int x0, .ref 65, .double 0] [] (hpA K S T th fo) 0 0 _
  refine e_aload_n (pc := 0) d_L_grant_0 rfl ?_
  refine e_iconst (pc := 1) (v := 0) d_L_grant_1 (by decide) ?_
  refine e_aload_n (pc := 2) d_L_grant_2 rfl ?_
  refine e_iload_n (pc := 3) d_L_grant_3 rfl ?_
  refine e_cV1 (pc := 4) s_L_grant_4 (h) rfl rfl rfl (Nat.le_of_ble_eq_true rfl) (Nat.le_of_ble_eq_true rfl) (Nat.le_of_ble_eq_true rfl) (zGo.v ?_)
  refine e_i2l (pc := 7) d_L_grant_7 ?_
  refine e_last (pc := 8) d_L_grant_8 rfl (vp_dec (by decide)) wOut ?_
  refine e_goto (pc := 9) (tgt := 15) d_L_grant_9 (by decide) ?_
  refine e_iconst (pc := 15) (v := 0) d_L_grant_15 (by decide) ?_
  exact e_iret (pc := 16) d_L_grant_16 rfl rfl (Nat.le_of_ble_eq_true rfl) (Nat.le_of_ble_eq_true rfl) rfl
set_option maxHeartbeats 4000000 in
set_option maxRecDepth 100000 in
theorem wX_grant0 {l : Launch} {G : zGP} {K : Nat} {S S' T : St} {th : Int32} {fo : Nat → Int64} {x0 : Int32} (h : Rn l G m_B_grant [.ref 0, .int x0] (hpA K S T th fo) (.inr "java/lang/IndexOutOfBoundsException", (hpA K S T th fo))) : Rn l G m_L_grant [.ref 0, .int x0, .ref 65] (hpA K S T th fo) (.inl (some (.int 1)), (hpA K S T th fo)) := by
  refine Rn.ofH (by decide) rfl (Nat.le_of_ble_eq_true rfl) rfl ?_
  show Ev l G m_L_grant 0 [.ref 0, .int x0, .ref 65, .double 0] [] (hpA K S T th fo) 0 0 _
  refine e_aload_n (pc := 0) d_L_grant_0 rfl ?_
  refine e_iconst (pc := 1) (v := 0) d_L_grant_1 (by decide) ?_
  refine e_aload_n (pc := 2) d_L_grant_2 rfl ?_
  refine e_iload_n (pc := 3) d_L_grant_3 rfl ?_
  refine e_cV1 (pc := 4) s_L_grant_4 (h) rfl rfl rfl (Nat.le_of_ble_eq_true rfl) (Nat.le_of_ble_eq_true rfl) (Nat.le_of_ble_eq_true rfl) ?_
  refine Or.inr (Or.inr ⟨"java/lang/IndexOutOfBoundsException", rfl, Or.inr ⟨[], [], ⟨0, 9, 12, 13⟩, "java/lang/IndexOutOfBoundsException", 3, 1, rfl, (fun z hz => absurd hz List.not_mem_nil), by decide, by decide, List.mem_cons_of_mem _ w_191, by decide, Or.inl ⟨3, rfl, rfl, d_L_grant_12⟩, by decide, ?_⟩⟩)
  dsimp only [List.set]
  refine e_iconst (pc := 13) (v := 1) d_L_grant_13 (by decide) ?_
  exact e_iret (pc := 14) d_L_grant_14 rfl rfl (Nat.le_of_ble_eq_true rfl) (Nat.le_of_ble_eq_true rfl) rfl
set_option maxHeartbeats 4000000 in
set_option maxRecDepth 100000 in
theorem wV_fill {l : Launch} {G : zGP} {K : Nat} {S S' T : St} {th : Int32} {fo : Nat → Int64} {x0 : Int32} {v : Int32} (h : Rn l G m_B_fill [.ref 0, .int x0] (hpA K S T th fo) (.inl (some (.int v)), (hpA K S' T th fo))) : Rn l G m_L_fill [.ref 0, .int x0, .ref 65] (hpA K S T th fo) (.inl (some (.int 0)), (hpA K S' T th (vp_updL fo 0 v.toInt64))) := by
  refine Rn.ofH (by decide) rfl (Nat.le_of_ble_eq_true rfl) rfl ?_
  show Ev l G m_L_fill 0 [.ref 0, .int x0, .ref 65, .double 0] [] (hpA K S T th fo) 0 0 _
  refine e_aload_n (pc := 0) d_L_fill_0 rfl ?_
  refine e_iconst (pc := 1) (v := 0) d_L_fill_1 (by decide) ?_
  refine e_aload_n (pc := 2) d_L_fill_2 rfl ?_
  refine e_iload_n (pc := 3) d_L_fill_3 rfl ?_
  refine e_cV1 (pc := 4) s_L_fill_4 (h) rfl rfl rfl (Nat.le_of_ble_eq_true rfl) (Nat.le_of_ble_eq_true rfl) (Nat.le_of_ble_eq_true rfl) (zGo.v ?_)
  refine e_i2l (pc := 7) d_L_fill_7 ?_
  refine e_last (pc := 8) d_L_fill_8 rfl (vp_dec (by decide)) wOut ?_
  refine e_goto (pc := 9) (tgt := 15) d_L_fill_9 (by decide) ?_
  refine e_iconst (pc := 15) (v := 0) d_L_fill_15 (by decide) ?_
  exact e_iret (pc := 16) d_L_fill_16 rfl rfl (Nat.le_of_ble_eq_true rfl) (Nat.le_of_ble_eq_true rfl) rfl
set_option maxHeartbeats 4000000 in
set_option maxRecDepth 100000 in
theorem wX_fill0 {l : Launch} {G : zGP} {K : Nat} {S S' T : St} {th : Int32} {fo : Nat → Int64} {x0 : Int32} (h : Rn l G m_B_fill [.ref 0, .int x0] (hpA K S T th fo) (.inr "java/lang/IndexOutOfBoundsException", (hpA K S T th fo))) : Rn l G m_L_fill [.ref 0, .int x0, .ref 65] (hpA K S T th fo) (.inl (some (.int 1)), (hpA K S T th fo)) := by
  refine Rn.ofH (by decide) rfl (Nat.le_of_ble_eq_true rfl) rfl ?_
  show Ev l G m_L_fill 0 [.ref 0, .int x0, .ref 65, .double 0] [] (hpA K S T th fo) 0 0 _
  refine e_aload_n (pc := 0) d_L_fill_0 rfl ?_
  refine e_iconst (pc := 1) (v := 0) d_L_fill_1 (by decide) ?_
  refine e_aload_n (pc := 2) d_L_fill_2 rfl ?_
  refine e_iload_n (pc := 3) d_L_fill_3 rfl ?_
  refine e_cV1 (pc := 4) s_L_fill_4 (h) rfl rfl rfl (Nat.le_of_ble_eq_true rfl) (Nat.le_of_ble_eq_true rfl) (Nat.le_of_ble_eq_true rfl) ?_
  refine Or.inr (Or.inr ⟨"java/lang/IndexOutOfBoundsException", rfl, Or.inr ⟨[], [], ⟨0, 9, 12, 13⟩, "java/lang/IndexOutOfBoundsException", 3, 1, rfl, (fun z hz => absurd hz List.not_mem_nil), by decide, by decide, List.mem_cons_of_mem _ w_191, by decide, Or.inl ⟨3, rfl, rfl, d_L_fill_12⟩, by decide, ?_⟩⟩)
  dsimp only [List.set]
  refine e_iconst (pc := 13) (v := 1) d_L_fill_13 (by decide) ?_
  exact e_iret (pc := 14) d_L_fill_14 rfl rfl (Nat.le_of_ble_eq_true rfl) (Nat.le_of_ble_eq_true rfl) rfl
set_option maxHeartbeats 4000000 in
set_option maxRecDepth 100000 in
theorem wV_register {l : Launch} {G : zGP} {K : Nat} {S S' T : St} {th : Int32} {fo : Nat → Int64} {x0 x1 : Int32} {v : Int32} (h : Rn l G m_B_register [.ref 0, .int x0, .int x1] (hpA K S T th fo) (.inl (some (.int v)), (hpA K S' T th fo))) : Rn l G m_L_register [.ref 0, .int x0, .int x1, .ref 65] (hpA K S T th fo) (.inl (some (.int 0)), (hpA K S' T th (vp_updL fo 0 v.toInt64))) := by
  refine Rn.ofH (by decide) rfl (Nat.le_of_ble_eq_true rfl) rfl ?_
  show Ev l G m_L_register 0 [.ref 0, .int x0, .int x1, .ref 65, .double 0] [] (hpA K S T th fo) 0 0 _
  refine e_aload_n (pc := 0) d_L_register_0 rfl ?_
  refine e_iconst (pc := 1) (v := 0) d_L_register_1 (by decide) ?_
  refine e_aload_n (pc := 2) d_L_register_2 rfl ?_
  refine e_iload_n (pc := 3) d_L_register_3 rfl ?_
  refine e_iload_n (pc := 4) d_L_register_4 rfl ?_
  refine e_cV2 (pc := 5) s_L_register_5 (h) rfl rfl rfl (Nat.le_of_ble_eq_true rfl) (Nat.le_of_ble_eq_true rfl) (Nat.le_of_ble_eq_true rfl) (zGo.v ?_)
  refine e_i2l (pc := 8) d_L_register_8 ?_
  refine e_last (pc := 9) d_L_register_9 rfl (vp_dec (by decide)) wOut ?_
  refine e_goto (pc := 10) (tgt := 21) d_L_register_10 (by decide) ?_
  refine e_iconst (pc := 21) (v := 0) d_L_register_21 (by decide) ?_
  exact e_iret (pc := 22) d_L_register_22 rfl rfl (Nat.le_of_ble_eq_true rfl) (Nat.le_of_ble_eq_true rfl) rfl
set_option maxHeartbeats 4000000 in
set_option maxRecDepth 100000 in
theorem wX_register0 {l : Launch} {G : zGP} {K : Nat} {S S' T : St} {th : Int32} {fo : Nat → Int64} {x0 x1 : Int32} (h : Rn l G m_B_register [.ref 0, .int x0, .int x1] (hpA K S T th fo) (.inr "java/lang/IndexOutOfBoundsException", (hpA K S T th fo))) : Rn l G m_L_register [.ref 0, .int x0, .int x1, .ref 65] (hpA K S T th fo) (.inl (some (.int 1)), (hpA K S T th fo)) := by
  refine Rn.ofH (by decide) rfl (Nat.le_of_ble_eq_true rfl) rfl ?_
  show Ev l G m_L_register 0 [.ref 0, .int x0, .int x1, .ref 65, .double 0] [] (hpA K S T th fo) 0 0 _
  refine e_aload_n (pc := 0) d_L_register_0 rfl ?_
  refine e_iconst (pc := 1) (v := 0) d_L_register_1 (by decide) ?_
  refine e_aload_n (pc := 2) d_L_register_2 rfl ?_
  refine e_iload_n (pc := 3) d_L_register_3 rfl ?_
  refine e_iload_n (pc := 4) d_L_register_4 rfl ?_
  refine e_cV2 (pc := 5) s_L_register_5 (h) rfl rfl rfl (Nat.le_of_ble_eq_true rfl) (Nat.le_of_ble_eq_true rfl) (Nat.le_of_ble_eq_true rfl) ?_
  refine Or.inr (Or.inr ⟨"java/lang/IndexOutOfBoundsException", rfl, Or.inr ⟨[], [⟨0, 10, 17, 15⟩], ⟨0, 10, 13, 13⟩, "java/lang/IndexOutOfBoundsException", 4, 2, rfl, (fun z hz => absurd hz List.not_mem_nil), by decide, by decide, List.mem_cons_of_mem _ w_191, by decide, Or.inr ⟨rfl, d_L_register_13⟩, by decide, ?_⟩⟩)
  dsimp only [List.set]
  refine e_iconst (pc := 15) (v := 1) d_L_register_15 (by decide) ?_
  exact e_iret (pc := 16) d_L_register_16 rfl rfl (Nat.le_of_ble_eq_true rfl) (Nat.le_of_ble_eq_true rfl) rfl
set_option maxHeartbeats 4000000 in
set_option maxRecDepth 100000 in
theorem wX_register1 {l : Launch} {G : zGP} {K : Nat} {S S' T : St} {th : Int32} {fo : Nat → Int64} {x0 x1 : Int32} (h : Rn l G m_B_register [.ref 0, .int x0, .int x1] (hpA K S T th fo) (.inr "java/lang/IllegalArgumentException", (hpA K S T th fo))) : Rn l G m_L_register [.ref 0, .int x0, .int x1, .ref 65] (hpA K S T th fo) (.inl (some (.int 2)), (hpA K S T th fo)) := by
  refine Rn.ofH (by decide) rfl (Nat.le_of_ble_eq_true rfl) rfl ?_
  show Ev l G m_L_register 0 [.ref 0, .int x0, .int x1, .ref 65, .double 0] [] (hpA K S T th fo) 0 0 _
  refine e_aload_n (pc := 0) d_L_register_0 rfl ?_
  refine e_iconst (pc := 1) (v := 0) d_L_register_1 (by decide) ?_
  refine e_aload_n (pc := 2) d_L_register_2 rfl ?_
  refine e_iload_n (pc := 3) d_L_register_3 rfl ?_
  refine e_iload_n (pc := 4) d_L_register_4 rfl ?_
  refine e_cV2 (pc := 5) s_L_register_5 (h) rfl rfl rfl (Nat.le_of_ble_eq_true rfl) (Nat.le_of_ble_eq_true rfl) (Nat.le_of_ble_eq_true rfl) ?_
  refine Or.inr (Or.inr ⟨"java/lang/IllegalArgumentException", rfl, Or.inr ⟨[⟨0, 10, 13, 13⟩], [], ⟨0, 10, 17, 15⟩, "java/lang/IllegalArgumentException", 4, 2, rfl, (fun z hz => by rw [List.mem_singleton.mp hz]; exact Or.inr ⟨by decide, "java/lang/IndexOutOfBoundsException", List.mem_cons_of_mem _ w_191, by decide⟩), by decide, by decide, List.mem_cons_of_mem _ w_192, by decide, Or.inr ⟨rfl, d_L_register_17⟩, by decide, ?_⟩⟩)
  dsimp only [List.set]
  refine e_iconst (pc := 19) (v := 2) d_L_register_19 (by decide) ?_
  exact e_iret (pc := 20) d_L_register_20 rfl rfl (Nat.le_of_ble_eq_true rfl) (Nat.le_of_ble_eq_true rfl) rfl
set_option maxHeartbeats 4000000 in
set_option maxRecDepth 100000 in
theorem wV_place {l : Launch} {G : zGP} {K : Nat} {S S' T : St} {th : Int32} {fo : Nat → Int64} {x0 : Int32} {v : Int32} (h : Rn l G m_B_place [.ref 0, .int x0] (hpA K S T th fo) (.inl (some (.int v)), (hpA K S' T th fo))) : Rn l G m_L_place [.ref 0, .int x0, .ref 65] (hpA K S T th fo) (.inl (some (.int 0)), (hpA K S' T th (vp_updL fo 0 v.toInt64))) := by
  refine Rn.ofH (by decide) rfl (Nat.le_of_ble_eq_true rfl) rfl ?_
  show Ev l G m_L_place 0 [.ref 0, .int x0, .ref 65, .double 0] [] (hpA K S T th fo) 0 0 _
  refine e_aload_n (pc := 0) d_L_place_0 rfl ?_
  refine e_iconst (pc := 1) (v := 0) d_L_place_1 (by decide) ?_
  refine e_aload_n (pc := 2) d_L_place_2 rfl ?_
  refine e_iload_n (pc := 3) d_L_place_3 rfl ?_
  refine e_cV1 (pc := 4) s_L_place_4 (h) rfl rfl rfl (Nat.le_of_ble_eq_true rfl) (Nat.le_of_ble_eq_true rfl) (Nat.le_of_ble_eq_true rfl) (zGo.v ?_)
  refine e_i2l (pc := 7) d_L_place_7 ?_
  refine e_last (pc := 8) d_L_place_8 rfl (vp_dec (by decide)) wOut ?_
  refine e_goto (pc := 9) (tgt := 15) d_L_place_9 (by decide) ?_
  refine e_iconst (pc := 15) (v := 0) d_L_place_15 (by decide) ?_
  exact e_iret (pc := 16) d_L_place_16 rfl rfl (Nat.le_of_ble_eq_true rfl) (Nat.le_of_ble_eq_true rfl) rfl
set_option maxHeartbeats 4000000 in
set_option maxRecDepth 100000 in
theorem wX_place0 {l : Launch} {G : zGP} {K : Nat} {S S' T : St} {th : Int32} {fo : Nat → Int64} {x0 : Int32} (h : Rn l G m_B_place [.ref 0, .int x0] (hpA K S T th fo) (.inr "java/lang/IndexOutOfBoundsException", (hpA K S T th fo))) : Rn l G m_L_place [.ref 0, .int x0, .ref 65] (hpA K S T th fo) (.inl (some (.int 1)), (hpA K S T th fo)) := by
  refine Rn.ofH (by decide) rfl (Nat.le_of_ble_eq_true rfl) rfl ?_
  show Ev l G m_L_place 0 [.ref 0, .int x0, .ref 65, .double 0] [] (hpA K S T th fo) 0 0 _
  refine e_aload_n (pc := 0) d_L_place_0 rfl ?_
  refine e_iconst (pc := 1) (v := 0) d_L_place_1 (by decide) ?_
  refine e_aload_n (pc := 2) d_L_place_2 rfl ?_
  refine e_iload_n (pc := 3) d_L_place_3 rfl ?_
  refine e_cV1 (pc := 4) s_L_place_4 (h) rfl rfl rfl (Nat.le_of_ble_eq_true rfl) (Nat.le_of_ble_eq_true rfl) (Nat.le_of_ble_eq_true rfl) ?_
  refine Or.inr (Or.inr ⟨"java/lang/IndexOutOfBoundsException", rfl, Or.inr ⟨[], [], ⟨0, 9, 12, 13⟩, "java/lang/IndexOutOfBoundsException", 3, 1, rfl, (fun z hz => absurd hz List.not_mem_nil), by decide, by decide, List.mem_cons_of_mem _ w_191, by decide, Or.inl ⟨3, rfl, rfl, d_L_place_12⟩, by decide, ?_⟩⟩)
  dsimp only [List.set]
  refine e_iconst (pc := 13) (v := 1) d_L_place_13 (by decide) ?_
  exact e_iret (pc := 14) d_L_place_14 rfl rfl (Nat.le_of_ble_eq_true rfl) (Nat.le_of_ble_eq_true rfl) rfl
set_option maxHeartbeats 4000000 in
set_option maxRecDepth 100000 in
theorem wV_buffered {l : Launch} {G : zGP} {K : Nat} {S S' T : St} {th : Int32} {fo : Nat → Int64} {x0 : Int32} {v : Int32} (h : Rn l G m_B_buffered [.ref 0, .int x0] (hpA K S T th fo) (.inl (some (.int v)), (hpA K S' T th fo))) : Rn l G m_L_buffered [.ref 0, .int x0, .ref 65] (hpA K S T th fo) (.inl (some (.int 0)), (hpA K S' T th (vp_updL fo 0 v.toInt64))) := by
  refine Rn.ofH (by decide) rfl (Nat.le_of_ble_eq_true rfl) rfl ?_
  show Ev l G m_L_buffered 0 [.ref 0, .int x0, .ref 65, .double 0] [] (hpA K S T th fo) 0 0 _
  refine e_aload_n (pc := 0) d_L_buffered_0 rfl ?_
  refine e_iconst (pc := 1) (v := 0) d_L_buffered_1 (by decide) ?_
  refine e_aload_n (pc := 2) d_L_buffered_2 rfl ?_
  refine e_iload_n (pc := 3) d_L_buffered_3 rfl ?_
  refine e_cV1 (pc := 4) s_L_buffered_4 (h) rfl rfl rfl (Nat.le_of_ble_eq_true rfl) (Nat.le_of_ble_eq_true rfl) (Nat.le_of_ble_eq_true rfl) (zGo.v ?_)
  refine e_i2l (pc := 7) d_L_buffered_7 ?_
  refine e_last (pc := 8) d_L_buffered_8 rfl (vp_dec (by decide)) wOut ?_
  refine e_goto (pc := 9) (tgt := 15) d_L_buffered_9 (by decide) ?_
  refine e_iconst (pc := 15) (v := 0) d_L_buffered_15 (by decide) ?_
  exact e_iret (pc := 16) d_L_buffered_16 rfl rfl (Nat.le_of_ble_eq_true rfl) (Nat.le_of_ble_eq_true rfl) rfl
set_option maxHeartbeats 4000000 in
set_option maxRecDepth 100000 in
theorem wX_buffered0 {l : Launch} {G : zGP} {K : Nat} {S S' T : St} {th : Int32} {fo : Nat → Int64} {x0 : Int32} (h : Rn l G m_B_buffered [.ref 0, .int x0] (hpA K S T th fo) (.inr "java/lang/IndexOutOfBoundsException", (hpA K S T th fo))) : Rn l G m_L_buffered [.ref 0, .int x0, .ref 65] (hpA K S T th fo) (.inl (some (.int 1)), (hpA K S T th fo)) := by
  refine Rn.ofH (by decide) rfl (Nat.le_of_ble_eq_true rfl) rfl ?_
  show Ev l G m_L_buffered 0 [.ref 0, .int x0, .ref 65, .double 0] [] (hpA K S T th fo) 0 0 _
  refine e_aload_n (pc := 0) d_L_buffered_0 rfl ?_
  refine e_iconst (pc := 1) (v := 0) d_L_buffered_1 (by decide) ?_
  refine e_aload_n (pc := 2) d_L_buffered_2 rfl ?_
  refine e_iload_n (pc := 3) d_L_buffered_3 rfl ?_
  refine e_cV1 (pc := 4) s_L_buffered_4 (h) rfl rfl rfl (Nat.le_of_ble_eq_true rfl) (Nat.le_of_ble_eq_true rfl) (Nat.le_of_ble_eq_true rfl) ?_
  refine Or.inr (Or.inr ⟨"java/lang/IndexOutOfBoundsException", rfl, Or.inr ⟨[], [], ⟨0, 9, 12, 13⟩, "java/lang/IndexOutOfBoundsException", 3, 1, rfl, (fun z hz => absurd hz List.not_mem_nil), by decide, by decide, List.mem_cons_of_mem _ w_191, by decide, Or.inl ⟨3, rfl, rfl, d_L_buffered_12⟩, by decide, ?_⟩⟩)
  dsimp only [List.set]
  refine e_iconst (pc := 13) (v := 1) d_L_buffered_13 (by decide) ?_
  exact e_iret (pc := 14) d_L_buffered_14 rfl rfl (Nat.le_of_ble_eq_true rfl) (Nat.le_of_ble_eq_true rfl) rfl
set_option maxHeartbeats 4000000 in
set_option maxRecDepth 100000 in
theorem wV_storeAddress {l : Launch} {G : zGP} {K : Nat} {S S' T : St} {th : Int32} {fo : Nat → Int64} {x0 x1 : Int32} {v : Int32} (h : Rn l G m_B_storeAddress [.ref 0, .int x0, .int x1] (hpA K S T th fo) (.inl (some (.int v)), (hpA K S' T th fo))) : Rn l G m_L_storeAddress [.ref 0, .int x0, .int x1, .ref 65] (hpA K S T th fo) (.inl (some (.int 0)), (hpA K S' T th (vp_updL fo 0 v.toInt64))) := by
  refine Rn.ofH (by decide) rfl (Nat.le_of_ble_eq_true rfl) rfl ?_
  show Ev l G m_L_storeAddress 0 [.ref 0, .int x0, .int x1, .ref 65, .double 0] [] (hpA K S T th fo) 0 0 _
  refine e_aload_n (pc := 0) d_L_storeAddress_0 rfl ?_
  refine e_iconst (pc := 1) (v := 0) d_L_storeAddress_1 (by decide) ?_
  refine e_aload_n (pc := 2) d_L_storeAddress_2 rfl ?_
  refine e_iload_n (pc := 3) d_L_storeAddress_3 rfl ?_
  refine e_iload_n (pc := 4) d_L_storeAddress_4 rfl ?_
  refine e_cV2 (pc := 5) s_L_storeAddress_5 (h) rfl rfl rfl (Nat.le_of_ble_eq_true rfl) (Nat.le_of_ble_eq_true rfl) (Nat.le_of_ble_eq_true rfl) (zGo.v ?_)
  refine e_i2l (pc := 8) d_L_storeAddress_8 ?_
  refine e_last (pc := 9) d_L_storeAddress_9 rfl (vp_dec (by decide)) wOut ?_
  refine e_goto (pc := 10) (tgt := 21) d_L_storeAddress_10 (by decide) ?_
  refine e_iconst (pc := 21) (v := 0) d_L_storeAddress_21 (by decide) ?_
  exact e_iret (pc := 22) d_L_storeAddress_22 rfl rfl (Nat.le_of_ble_eq_true rfl) (Nat.le_of_ble_eq_true rfl) rfl
set_option maxHeartbeats 4000000 in
set_option maxRecDepth 100000 in
theorem wX_storeAddress0 {l : Launch} {G : zGP} {K : Nat} {S S' T : St} {th : Int32} {fo : Nat → Int64} {x0 x1 : Int32} (h : Rn l G m_B_storeAddress [.ref 0, .int x0, .int x1] (hpA K S T th fo) (.inr "java/lang/IndexOutOfBoundsException", (hpA K S T th fo))) : Rn l G m_L_storeAddress [.ref 0, .int x0, .int x1, .ref 65] (hpA K S T th fo) (.inl (some (.int 1)), (hpA K S T th fo)) := by
  refine Rn.ofH (by decide) rfl (Nat.le_of_ble_eq_true rfl) rfl ?_
  show Ev l G m_L_storeAddress 0 [.ref 0, .int x0, .int x1, .ref 65, .double 0] [] (hpA K S T th fo) 0 0 _
  refine e_aload_n (pc := 0) d_L_storeAddress_0 rfl ?_
  refine e_iconst (pc := 1) (v := 0) d_L_storeAddress_1 (by decide) ?_
  refine e_aload_n (pc := 2) d_L_storeAddress_2 rfl ?_
  refine e_iload_n (pc := 3) d_L_storeAddress_3 rfl ?_
  refine e_iload_n (pc := 4) d_L_storeAddress_4 rfl ?_
  refine e_cV2 (pc := 5) s_L_storeAddress_5 (h) rfl rfl rfl (Nat.le_of_ble_eq_true rfl) (Nat.le_of_ble_eq_true rfl) (Nat.le_of_ble_eq_true rfl) ?_
  refine Or.inr (Or.inr ⟨"java/lang/IndexOutOfBoundsException", rfl, Or.inr ⟨[], [⟨0, 10, 17, 49⟩], ⟨0, 10, 13, 13⟩, "java/lang/IndexOutOfBoundsException", 4, 2, rfl, (fun z hz => absurd hz List.not_mem_nil), by decide, by decide, List.mem_cons_of_mem _ w_191, by decide, Or.inr ⟨rfl, d_L_storeAddress_13⟩, by decide, ?_⟩⟩)
  dsimp only [List.set]
  refine e_iconst (pc := 15) (v := 1) d_L_storeAddress_15 (by decide) ?_
  exact e_iret (pc := 16) d_L_storeAddress_16 rfl rfl (Nat.le_of_ble_eq_true rfl) (Nat.le_of_ble_eq_true rfl) rfl
set_option maxHeartbeats 4000000 in
set_option maxRecDepth 100000 in
theorem wX_storeAddress1 {l : Launch} {G : zGP} {K : Nat} {S S' T : St} {th : Int32} {fo : Nat → Int64} {x0 x1 : Int32} (h : Rn l G m_B_storeAddress [.ref 0, .int x0, .int x1] (hpA K S T th fo) (.inr "java/util/NoSuchElementException", (hpA K S T th fo))) : Rn l G m_L_storeAddress [.ref 0, .int x0, .int x1, .ref 65] (hpA K S T th fo) (.inl (some (.int 2)), (hpA K S T th fo)) := by
  refine Rn.ofH (by decide) rfl (Nat.le_of_ble_eq_true rfl) rfl ?_
  show Ev l G m_L_storeAddress 0 [.ref 0, .int x0, .int x1, .ref 65, .double 0] [] (hpA K S T th fo) 0 0 _
  refine e_aload_n (pc := 0) d_L_storeAddress_0 rfl ?_
  refine e_iconst (pc := 1) (v := 0) d_L_storeAddress_1 (by decide) ?_
  refine e_aload_n (pc := 2) d_L_storeAddress_2 rfl ?_
  refine e_iload_n (pc := 3) d_L_storeAddress_3 rfl ?_
  refine e_iload_n (pc := 4) d_L_storeAddress_4 rfl ?_
  refine e_cV2 (pc := 5) s_L_storeAddress_5 (h) rfl rfl rfl (Nat.le_of_ble_eq_true rfl) (Nat.le_of_ble_eq_true rfl) (Nat.le_of_ble_eq_true rfl) ?_
  refine Or.inr (Or.inr ⟨"java/util/NoSuchElementException", rfl, Or.inr ⟨[⟨0, 10, 13, 13⟩], [], ⟨0, 10, 17, 49⟩, "java/util/NoSuchElementException", 4, 2, rfl, (fun z hz => by rw [List.mem_singleton.mp hz]; exact Or.inr ⟨by decide, "java/lang/IndexOutOfBoundsException", List.mem_cons_of_mem _ w_191, by decide⟩), by decide, by decide, List.mem_cons_of_mem _ w_487, by decide, Or.inr ⟨rfl, d_L_storeAddress_17⟩, by decide, ?_⟩⟩)
  dsimp only [List.set]
  refine e_iconst (pc := 19) (v := 2) d_L_storeAddress_19 (by decide) ?_
  exact e_iret (pc := 20) d_L_storeAddress_20 rfl rfl (Nat.le_of_ble_eq_true rfl) (Nat.le_of_ble_eq_true rfl) rfl
set_option maxHeartbeats 4000000 in
set_option maxRecDepth 100000 in
theorem wV_storeValue {l : Launch} {G : zGP} {K : Nat} {S S' T : St} {th : Int32} {fo : Nat → Int64} {x0 x1 : Int32} {v : Int32} (h : Rn l G m_B_storeValue [.ref 0, .int x0, .int x1] (hpA K S T th fo) (.inl (some (.int v)), (hpA K S' T th fo))) : Rn l G m_L_storeValue [.ref 0, .int x0, .int x1, .ref 65] (hpA K S T th fo) (.inl (some (.int 0)), (hpA K S' T th (vp_updL fo 0 v.toInt64))) := by
  refine Rn.ofH (by decide) rfl (Nat.le_of_ble_eq_true rfl) rfl ?_
  show Ev l G m_L_storeValue 0 [.ref 0, .int x0, .int x1, .ref 65, .double 0] [] (hpA K S T th fo) 0 0 _
  refine e_aload_n (pc := 0) d_L_storeValue_0 rfl ?_
  refine e_iconst (pc := 1) (v := 0) d_L_storeValue_1 (by decide) ?_
  refine e_aload_n (pc := 2) d_L_storeValue_2 rfl ?_
  refine e_iload_n (pc := 3) d_L_storeValue_3 rfl ?_
  refine e_iload_n (pc := 4) d_L_storeValue_4 rfl ?_
  refine e_cV2 (pc := 5) s_L_storeValue_5 (h) rfl rfl rfl (Nat.le_of_ble_eq_true rfl) (Nat.le_of_ble_eq_true rfl) (Nat.le_of_ble_eq_true rfl) (zGo.v ?_)
  refine e_i2l (pc := 8) d_L_storeValue_8 ?_
  refine e_last (pc := 9) d_L_storeValue_9 rfl (vp_dec (by decide)) wOut ?_
  refine e_goto (pc := 10) (tgt := 21) d_L_storeValue_10 (by decide) ?_
  refine e_iconst (pc := 21) (v := 0) d_L_storeValue_21 (by decide) ?_
  exact e_iret (pc := 22) d_L_storeValue_22 rfl rfl (Nat.le_of_ble_eq_true rfl) (Nat.le_of_ble_eq_true rfl) rfl
set_option maxHeartbeats 4000000 in
set_option maxRecDepth 100000 in
theorem wX_storeValue0 {l : Launch} {G : zGP} {K : Nat} {S S' T : St} {th : Int32} {fo : Nat → Int64} {x0 x1 : Int32} (h : Rn l G m_B_storeValue [.ref 0, .int x0, .int x1] (hpA K S T th fo) (.inr "java/lang/IndexOutOfBoundsException", (hpA K S T th fo))) : Rn l G m_L_storeValue [.ref 0, .int x0, .int x1, .ref 65] (hpA K S T th fo) (.inl (some (.int 1)), (hpA K S T th fo)) := by
  refine Rn.ofH (by decide) rfl (Nat.le_of_ble_eq_true rfl) rfl ?_
  show Ev l G m_L_storeValue 0 [.ref 0, .int x0, .int x1, .ref 65, .double 0] [] (hpA K S T th fo) 0 0 _
  refine e_aload_n (pc := 0) d_L_storeValue_0 rfl ?_
  refine e_iconst (pc := 1) (v := 0) d_L_storeValue_1 (by decide) ?_
  refine e_aload_n (pc := 2) d_L_storeValue_2 rfl ?_
  refine e_iload_n (pc := 3) d_L_storeValue_3 rfl ?_
  refine e_iload_n (pc := 4) d_L_storeValue_4 rfl ?_
  refine e_cV2 (pc := 5) s_L_storeValue_5 (h) rfl rfl rfl (Nat.le_of_ble_eq_true rfl) (Nat.le_of_ble_eq_true rfl) (Nat.le_of_ble_eq_true rfl) ?_
  refine Or.inr (Or.inr ⟨"java/lang/IndexOutOfBoundsException", rfl, Or.inr ⟨[], [⟨0, 10, 17, 49⟩], ⟨0, 10, 13, 13⟩, "java/lang/IndexOutOfBoundsException", 4, 2, rfl, (fun z hz => absurd hz List.not_mem_nil), by decide, by decide, List.mem_cons_of_mem _ w_191, by decide, Or.inr ⟨rfl, d_L_storeValue_13⟩, by decide, ?_⟩⟩)
  dsimp only [List.set]
  refine e_iconst (pc := 15) (v := 1) d_L_storeValue_15 (by decide) ?_
  exact e_iret (pc := 16) d_L_storeValue_16 rfl rfl (Nat.le_of_ble_eq_true rfl) (Nat.le_of_ble_eq_true rfl) rfl
set_option maxHeartbeats 4000000 in
set_option maxRecDepth 100000 in
theorem wX_storeValue1 {l : Launch} {G : zGP} {K : Nat} {S S' T : St} {th : Int32} {fo : Nat → Int64} {x0 x1 : Int32} (h : Rn l G m_B_storeValue [.ref 0, .int x0, .int x1] (hpA K S T th fo) (.inr "java/util/NoSuchElementException", (hpA K S T th fo))) : Rn l G m_L_storeValue [.ref 0, .int x0, .int x1, .ref 65] (hpA K S T th fo) (.inl (some (.int 2)), (hpA K S T th fo)) := by
  refine Rn.ofH (by decide) rfl (Nat.le_of_ble_eq_true rfl) rfl ?_
  show Ev l G m_L_storeValue 0 [.ref 0, .int x0, .int x1, .ref 65, .double 0] [] (hpA K S T th fo) 0 0 _
  refine e_aload_n (pc := 0) d_L_storeValue_0 rfl ?_
  refine e_iconst (pc := 1) (v := 0) d_L_storeValue_1 (by decide) ?_
  refine e_aload_n (pc := 2) d_L_storeValue_2 rfl ?_
  refine e_iload_n (pc := 3) d_L_storeValue_3 rfl ?_
  refine e_iload_n (pc := 4) d_L_storeValue_4 rfl ?_
  refine e_cV2 (pc := 5) s_L_storeValue_5 (h) rfl rfl rfl (Nat.le_of_ble_eq_true rfl) (Nat.le_of_ble_eq_true rfl) (Nat.le_of_ble_eq_true rfl) ?_
  refine Or.inr (Or.inr ⟨"java/util/NoSuchElementException", rfl, Or.inr ⟨[⟨0, 10, 13, 13⟩], [], ⟨0, 10, 17, 49⟩, "java/util/NoSuchElementException", 4, 2, rfl, (fun z hz => by rw [List.mem_singleton.mp hz]; exact Or.inr ⟨by decide, "java/lang/IndexOutOfBoundsException", List.mem_cons_of_mem _ w_191, by decide⟩), by decide, by decide, List.mem_cons_of_mem _ w_487, by decide, Or.inr ⟨rfl, d_L_storeValue_17⟩, by decide, ?_⟩⟩)
  dsimp only [List.set]
  refine e_iconst (pc := 19) (v := 2) d_L_storeValue_19 (by decide) ?_
  exact e_iret (pc := 20) d_L_storeValue_20 rfl rfl (Nat.le_of_ble_eq_true rfl) (Nat.le_of_ble_eq_true rfl) rfl
set_option maxHeartbeats 4000000 in
set_option maxRecDepth 100000 in
theorem wV_line {l : Launch} {G : zGP} {K : Nat} {S S' T : St} {th : Int32} {fo : Nat → Int64} {x0 x1 : Int32} {v : Int32} (h : Rn l G m_B_line [.ref 0, .int x0, .int x1] (hpA K S T th fo) (.inl (some (.int v)), (hpA K S' T th fo))) : Rn l G m_L_line [.ref 0, .int x0, .int x1, .ref 65] (hpA K S T th fo) (.inl (some (.int 0)), (hpA K S' T th (vp_updL fo 0 v.toInt64))) := by
  refine Rn.ofH (by decide) rfl (Nat.le_of_ble_eq_true rfl) rfl ?_
  show Ev l G m_L_line 0 [.ref 0, .int x0, .int x1, .ref 65, .double 0] [] (hpA K S T th fo) 0 0 _
  refine e_aload_n (pc := 0) d_L_line_0 rfl ?_
  refine e_iconst (pc := 1) (v := 0) d_L_line_1 (by decide) ?_
  refine e_aload_n (pc := 2) d_L_line_2 rfl ?_
  refine e_iload_n (pc := 3) d_L_line_3 rfl ?_
  refine e_iload_n (pc := 4) d_L_line_4 rfl ?_
  refine e_cV2 (pc := 5) s_L_line_5 (h) rfl rfl rfl (Nat.le_of_ble_eq_true rfl) (Nat.le_of_ble_eq_true rfl) (Nat.le_of_ble_eq_true rfl) (zGo.v ?_)
  refine e_i2l (pc := 8) d_L_line_8 ?_
  refine e_last (pc := 9) d_L_line_9 rfl (vp_dec (by decide)) wOut ?_
  refine e_goto (pc := 10) (tgt := 21) d_L_line_10 (by decide) ?_
  refine e_iconst (pc := 21) (v := 0) d_L_line_21 (by decide) ?_
  exact e_iret (pc := 22) d_L_line_22 rfl rfl (Nat.le_of_ble_eq_true rfl) (Nat.le_of_ble_eq_true rfl) rfl
set_option maxHeartbeats 4000000 in
set_option maxRecDepth 100000 in
theorem wX_line0 {l : Launch} {G : zGP} {K : Nat} {S S' T : St} {th : Int32} {fo : Nat → Int64} {x0 x1 : Int32} (h : Rn l G m_B_line [.ref 0, .int x0, .int x1] (hpA K S T th fo) (.inr "java/lang/IndexOutOfBoundsException", (hpA K S T th fo))) : Rn l G m_L_line [.ref 0, .int x0, .int x1, .ref 65] (hpA K S T th fo) (.inl (some (.int 1)), (hpA K S T th fo)) := by
  refine Rn.ofH (by decide) rfl (Nat.le_of_ble_eq_true rfl) rfl ?_
  show Ev l G m_L_line 0 [.ref 0, .int x0, .int x1, .ref 65, .double 0] [] (hpA K S T th fo) 0 0 _
  refine e_aload_n (pc := 0) d_L_line_0 rfl ?_
  refine e_iconst (pc := 1) (v := 0) d_L_line_1 (by decide) ?_
  refine e_aload_n (pc := 2) d_L_line_2 rfl ?_
  refine e_iload_n (pc := 3) d_L_line_3 rfl ?_
  refine e_iload_n (pc := 4) d_L_line_4 rfl ?_
  refine e_cV2 (pc := 5) s_L_line_5 (h) rfl rfl rfl (Nat.le_of_ble_eq_true rfl) (Nat.le_of_ble_eq_true rfl) (Nat.le_of_ble_eq_true rfl) ?_
  refine Or.inr (Or.inr ⟨"java/lang/IndexOutOfBoundsException", rfl, Or.inr ⟨[], [⟨0, 10, 17, 15⟩], ⟨0, 10, 13, 13⟩, "java/lang/IndexOutOfBoundsException", 4, 2, rfl, (fun z hz => absurd hz List.not_mem_nil), by decide, by decide, List.mem_cons_of_mem _ w_191, by decide, Or.inr ⟨rfl, d_L_line_13⟩, by decide, ?_⟩⟩)
  dsimp only [List.set]
  refine e_iconst (pc := 15) (v := 1) d_L_line_15 (by decide) ?_
  exact e_iret (pc := 16) d_L_line_16 rfl rfl (Nat.le_of_ble_eq_true rfl) (Nat.le_of_ble_eq_true rfl) rfl
set_option maxHeartbeats 4000000 in
set_option maxRecDepth 100000 in
theorem wX_line1 {l : Launch} {G : zGP} {K : Nat} {S S' T : St} {th : Int32} {fo : Nat → Int64} {x0 x1 : Int32} (h : Rn l G m_B_line [.ref 0, .int x0, .int x1] (hpA K S T th fo) (.inr "java/lang/IllegalArgumentException", (hpA K S T th fo))) : Rn l G m_L_line [.ref 0, .int x0, .int x1, .ref 65] (hpA K S T th fo) (.inl (some (.int 2)), (hpA K S T th fo)) := by
  refine Rn.ofH (by decide) rfl (Nat.le_of_ble_eq_true rfl) rfl ?_
  show Ev l G m_L_line 0 [.ref 0, .int x0, .int x1, .ref 65, .double 0] [] (hpA K S T th fo) 0 0 _
  refine e_aload_n (pc := 0) d_L_line_0 rfl ?_
  refine e_iconst (pc := 1) (v := 0) d_L_line_1 (by decide) ?_
  refine e_aload_n (pc := 2) d_L_line_2 rfl ?_
  refine e_iload_n (pc := 3) d_L_line_3 rfl ?_
  refine e_iload_n (pc := 4) d_L_line_4 rfl ?_
  refine e_cV2 (pc := 5) s_L_line_5 (h) rfl rfl rfl (Nat.le_of_ble_eq_true rfl) (Nat.le_of_ble_eq_true rfl) (Nat.le_of_ble_eq_true rfl) ?_
  refine Or.inr (Or.inr ⟨"java/lang/IllegalArgumentException", rfl, Or.inr ⟨[⟨0, 10, 13, 13⟩], [], ⟨0, 10, 17, 15⟩, "java/lang/IllegalArgumentException", 4, 2, rfl, (fun z hz => by rw [List.mem_singleton.mp hz]; exact Or.inr ⟨by decide, "java/lang/IndexOutOfBoundsException", List.mem_cons_of_mem _ w_191, by decide⟩), by decide, by decide, List.mem_cons_of_mem _ w_192, by decide, Or.inr ⟨rfl, d_L_line_17⟩, by decide, ?_⟩⟩)
  dsimp only [List.set]
  refine e_iconst (pc := 19) (v := 2) d_L_line_19 (by decide) ?_
  exact e_iret (pc := 20) d_L_line_20 rfl rfl (Nat.le_of_ble_eq_true rfl) (Nat.le_of_ble_eq_true rfl) rfl
set_option maxHeartbeats 4000000 in
set_option maxRecDepth 100000 in
theorem wV_cached {l : Launch} {G : zGP} {K : Nat} {S S' T : St} {th : Int32} {fo : Nat → Int64} {x0 x1 : Int32} {v : Int32} (h : Rn l G m_B_cached [.ref 0, .int x0, .int x1] (hpA K S T th fo) (.inl (some (.int v)), (hpA K S' T th fo))) : Rn l G m_L_cached [.ref 0, .int x0, .int x1, .ref 65] (hpA K S T th fo) (.inl (some (.int 0)), (hpA K S' T th (vp_updL fo 0 v.toInt64))) := by
  refine Rn.ofH (by decide) rfl (Nat.le_of_ble_eq_true rfl) rfl ?_
  show Ev l G m_L_cached 0 [.ref 0, .int x0, .int x1, .ref 65, .double 0] [] (hpA K S T th fo) 0 0 _
  refine e_aload_n (pc := 0) d_L_cached_0 rfl ?_
  refine e_iconst (pc := 1) (v := 0) d_L_cached_1 (by decide) ?_
  refine e_aload_n (pc := 2) d_L_cached_2 rfl ?_
  refine e_iload_n (pc := 3) d_L_cached_3 rfl ?_
  refine e_iload_n (pc := 4) d_L_cached_4 rfl ?_
  refine e_cV2 (pc := 5) s_L_cached_5 (h) rfl rfl rfl (Nat.le_of_ble_eq_true rfl) (Nat.le_of_ble_eq_true rfl) (Nat.le_of_ble_eq_true rfl) (zGo.v ?_)
  refine e_i2l (pc := 8) d_L_cached_8 ?_
  refine e_last (pc := 9) d_L_cached_9 rfl (vp_dec (by decide)) wOut ?_
  refine e_goto (pc := 10) (tgt := 25) d_L_cached_10 (by decide) ?_
  refine e_iconst (pc := 25) (v := 0) d_L_cached_25 (by decide) ?_
  exact e_iret (pc := 26) d_L_cached_26 rfl rfl (Nat.le_of_ble_eq_true rfl) (Nat.le_of_ble_eq_true rfl) rfl
set_option maxHeartbeats 4000000 in
set_option maxRecDepth 100000 in
theorem wX_cached0 {l : Launch} {G : zGP} {K : Nat} {S S' T : St} {th : Int32} {fo : Nat → Int64} {x0 x1 : Int32} (h : Rn l G m_B_cached [.ref 0, .int x0, .int x1] (hpA K S T th fo) (.inr "java/lang/IndexOutOfBoundsException", (hpA K S T th fo))) : Rn l G m_L_cached [.ref 0, .int x0, .int x1, .ref 65] (hpA K S T th fo) (.inl (some (.int 1)), (hpA K S T th fo)) := by
  refine Rn.ofH (by decide) rfl (Nat.le_of_ble_eq_true rfl) rfl ?_
  show Ev l G m_L_cached 0 [.ref 0, .int x0, .int x1, .ref 65, .double 0] [] (hpA K S T th fo) 0 0 _
  refine e_aload_n (pc := 0) d_L_cached_0 rfl ?_
  refine e_iconst (pc := 1) (v := 0) d_L_cached_1 (by decide) ?_
  refine e_aload_n (pc := 2) d_L_cached_2 rfl ?_
  refine e_iload_n (pc := 3) d_L_cached_3 rfl ?_
  refine e_iload_n (pc := 4) d_L_cached_4 rfl ?_
  refine e_cV2 (pc := 5) s_L_cached_5 (h) rfl rfl rfl (Nat.le_of_ble_eq_true rfl) (Nat.le_of_ble_eq_true rfl) (Nat.le_of_ble_eq_true rfl) ?_
  refine Or.inr (Or.inr ⟨"java/lang/IndexOutOfBoundsException", rfl, Or.inr ⟨[], [⟨0, 10, 17, 15⟩, ⟨0, 10, 21, 49⟩], ⟨0, 10, 13, 13⟩, "java/lang/IndexOutOfBoundsException", 4, 2, rfl, (fun z hz => absurd hz List.not_mem_nil), by decide, by decide, List.mem_cons_of_mem _ w_191, by decide, Or.inr ⟨rfl, d_L_cached_13⟩, by decide, ?_⟩⟩)
  dsimp only [List.set]
  refine e_iconst (pc := 15) (v := 1) d_L_cached_15 (by decide) ?_
  exact e_iret (pc := 16) d_L_cached_16 rfl rfl (Nat.le_of_ble_eq_true rfl) (Nat.le_of_ble_eq_true rfl) rfl
set_option maxHeartbeats 4000000 in
set_option maxRecDepth 100000 in
theorem wX_cached1 {l : Launch} {G : zGP} {K : Nat} {S S' T : St} {th : Int32} {fo : Nat → Int64} {x0 x1 : Int32} (h : Rn l G m_B_cached [.ref 0, .int x0, .int x1] (hpA K S T th fo) (.inr "java/lang/IllegalArgumentException", (hpA K S T th fo))) : Rn l G m_L_cached [.ref 0, .int x0, .int x1, .ref 65] (hpA K S T th fo) (.inl (some (.int 2)), (hpA K S T th fo)) := by
  refine Rn.ofH (by decide) rfl (Nat.le_of_ble_eq_true rfl) rfl ?_
  show Ev l G m_L_cached 0 [.ref 0, .int x0, .int x1, .ref 65, .double 0] [] (hpA K S T th fo) 0 0 _
  refine e_aload_n (pc := 0) d_L_cached_0 rfl ?_
  refine e_iconst (pc := 1) (v := 0) d_L_cached_1 (by decide) ?_
  refine e_aload_n (pc := 2) d_L_cached_2 rfl ?_
  refine e_iload_n (pc := 3) d_L_cached_3 rfl ?_
  refine e_iload_n (pc := 4) d_L_cached_4 rfl ?_
  refine e_cV2 (pc := 5) s_L_cached_5 (h) rfl rfl rfl (Nat.le_of_ble_eq_true rfl) (Nat.le_of_ble_eq_true rfl) (Nat.le_of_ble_eq_true rfl) ?_
  refine Or.inr (Or.inr ⟨"java/lang/IllegalArgumentException", rfl, Or.inr ⟨[⟨0, 10, 13, 13⟩], [⟨0, 10, 21, 49⟩], ⟨0, 10, 17, 15⟩, "java/lang/IllegalArgumentException", 4, 2, rfl, (fun z hz => by rw [List.mem_singleton.mp hz]; exact Or.inr ⟨by decide, "java/lang/IndexOutOfBoundsException", List.mem_cons_of_mem _ w_191, by decide⟩), by decide, by decide, List.mem_cons_of_mem _ w_192, by decide, Or.inr ⟨rfl, d_L_cached_17⟩, by decide, ?_⟩⟩)
  dsimp only [List.set]
  refine e_iconst (pc := 19) (v := 2) d_L_cached_19 (by decide) ?_
  exact e_iret (pc := 20) d_L_cached_20 rfl rfl (Nat.le_of_ble_eq_true rfl) (Nat.le_of_ble_eq_true rfl) rfl
set_option maxHeartbeats 4000000 in
set_option maxRecDepth 100000 in
theorem wX_cached2 {l : Launch} {G : zGP} {K : Nat} {S S' T : St} {th : Int32} {fo : Nat → Int64} {x0 x1 : Int32} (h : Rn l G m_B_cached [.ref 0, .int x0, .int x1] (hpA K S T th fo) (.inr "java/util/NoSuchElementException", (hpA K S T th fo))) : Rn l G m_L_cached [.ref 0, .int x0, .int x1, .ref 65] (hpA K S T th fo) (.inl (some (.int 3)), (hpA K S T th fo)) := by
  refine Rn.ofH (by decide) rfl (Nat.le_of_ble_eq_true rfl) rfl ?_
  show Ev l G m_L_cached 0 [.ref 0, .int x0, .int x1, .ref 65, .double 0] [] (hpA K S T th fo) 0 0 _
  refine e_aload_n (pc := 0) d_L_cached_0 rfl ?_
  refine e_iconst (pc := 1) (v := 0) d_L_cached_1 (by decide) ?_
  refine e_aload_n (pc := 2) d_L_cached_2 rfl ?_
  refine e_iload_n (pc := 3) d_L_cached_3 rfl ?_
  refine e_iload_n (pc := 4) d_L_cached_4 rfl ?_
  refine e_cV2 (pc := 5) s_L_cached_5 (h) rfl rfl rfl (Nat.le_of_ble_eq_true rfl) (Nat.le_of_ble_eq_true rfl) (Nat.le_of_ble_eq_true rfl) ?_
  refine Or.inr (Or.inr ⟨"java/util/NoSuchElementException", rfl, Or.inr ⟨[⟨0, 10, 13, 13⟩, ⟨0, 10, 17, 15⟩], [], ⟨0, 10, 21, 49⟩, "java/util/NoSuchElementException", 4, 2, rfl, (fun z hz => by
        rcases List.mem_cons.mp hz with q | q
        · rw [q]; exact Or.inr ⟨by decide, "java/lang/IndexOutOfBoundsException", List.mem_cons_of_mem _ w_191, by decide⟩
        · rw [List.mem_singleton.mp q]; exact Or.inr ⟨by decide, "java/lang/IllegalArgumentException", List.mem_cons_of_mem _ w_192, by decide⟩), by decide, by decide, List.mem_cons_of_mem _ w_487, by decide, Or.inr ⟨rfl, d_L_cached_21⟩, by decide, ?_⟩⟩)
  dsimp only [List.set]
  refine e_iconst (pc := 23) (v := 3) d_L_cached_23 (by decide) ?_
  exact e_iret (pc := 24) d_L_cached_24 rfl rfl (Nat.le_of_ble_eq_true rfl) (Nat.le_of_ble_eq_true rfl) rfl
set_option maxHeartbeats 4000000 in
set_option maxRecDepth 100000 in
theorem wV_request {l : Launch} {G : zGP} {K : Nat} {S S' T : St} {th : Int32} {fo : Nat → Int64} {x0 : Int32} {v : Int32} (h : Rn l G m_B_request [.ref 0, .int x0] (hpA K S T th fo) (.inl (some (.int v)), (hpA K S' T th fo))) : Rn l G m_L_request [.ref 0, .int x0, .ref 65] (hpA K S T th fo) (.inl (some (.int 0)), (hpA K S' T th (vp_updL fo 0 v.toInt64))) := by
  refine Rn.ofH (by decide) rfl (Nat.le_of_ble_eq_true rfl) rfl ?_
  show Ev l G m_L_request 0 [.ref 0, .int x0, .ref 65, .double 0] [] (hpA K S T th fo) 0 0 _
  refine e_aload_n (pc := 0) d_L_request_0 rfl ?_
  refine e_iconst (pc := 1) (v := 0) d_L_request_1 (by decide) ?_
  refine e_aload_n (pc := 2) d_L_request_2 rfl ?_
  refine e_iload_n (pc := 3) d_L_request_3 rfl ?_
  refine e_cV1 (pc := 4) s_L_request_4 (h) rfl rfl rfl (Nat.le_of_ble_eq_true rfl) (Nat.le_of_ble_eq_true rfl) (Nat.le_of_ble_eq_true rfl) (zGo.v ?_)
  refine e_i2l (pc := 7) d_L_request_7 ?_
  refine e_last (pc := 8) d_L_request_8 rfl (vp_dec (by decide)) wOut ?_
  refine e_goto (pc := 9) (tgt := 15) d_L_request_9 (by decide) ?_
  refine e_iconst (pc := 15) (v := 0) d_L_request_15 (by decide) ?_
  exact e_iret (pc := 16) d_L_request_16 rfl rfl (Nat.le_of_ble_eq_true rfl) (Nat.le_of_ble_eq_true rfl) rfl
set_option maxHeartbeats 4000000 in
set_option maxRecDepth 100000 in
theorem wX_request0 {l : Launch} {G : zGP} {K : Nat} {S S' T : St} {th : Int32} {fo : Nat → Int64} {x0 : Int32} (h : Rn l G m_B_request [.ref 0, .int x0] (hpA K S T th fo) (.inr "java/lang/IndexOutOfBoundsException", (hpA K S T th fo))) : Rn l G m_L_request [.ref 0, .int x0, .ref 65] (hpA K S T th fo) (.inl (some (.int 1)), (hpA K S T th fo)) := by
  refine Rn.ofH (by decide) rfl (Nat.le_of_ble_eq_true rfl) rfl ?_
  show Ev l G m_L_request 0 [.ref 0, .int x0, .ref 65, .double 0] [] (hpA K S T th fo) 0 0 _
  refine e_aload_n (pc := 0) d_L_request_0 rfl ?_
  refine e_iconst (pc := 1) (v := 0) d_L_request_1 (by decide) ?_
  refine e_aload_n (pc := 2) d_L_request_2 rfl ?_
  refine e_iload_n (pc := 3) d_L_request_3 rfl ?_
  refine e_cV1 (pc := 4) s_L_request_4 (h) rfl rfl rfl (Nat.le_of_ble_eq_true rfl) (Nat.le_of_ble_eq_true rfl) (Nat.le_of_ble_eq_true rfl) ?_
  refine Or.inr (Or.inr ⟨"java/lang/IndexOutOfBoundsException", rfl, Or.inr ⟨[], [], ⟨0, 9, 12, 13⟩, "java/lang/IndexOutOfBoundsException", 3, 1, rfl, (fun z hz => absurd hz List.not_mem_nil), by decide, by decide, List.mem_cons_of_mem _ w_191, by decide, Or.inl ⟨3, rfl, rfl, d_L_request_12⟩, by decide, ?_⟩⟩)
  dsimp only [List.set]
  refine e_iconst (pc := 13) (v := 1) d_L_request_13 (by decide) ?_
  exact e_iret (pc := 14) d_L_request_14 rfl rfl (Nat.le_of_ble_eq_true rfl) (Nat.le_of_ble_eq_true rfl) rfl
set_option maxHeartbeats 4000000 in
set_option maxRecDepth 100000 in
theorem wV_memory {l : Launch} {G : zGP} {K : Nat} {S S' T : St} {th : Int32} {fo : Nat → Int64} {x0 : Int32} {v : Int32} (h : Rn l G m_B_memory [.ref 0, .int x0] (hpA K S T th fo) (.inl (some (.int v)), (hpA K S' T th fo))) : Rn l G m_L_memory [.ref 0, .int x0, .ref 65] (hpA K S T th fo) (.inl (some (.int 0)), (hpA K S' T th (vp_updL fo 0 v.toInt64))) := by
  refine Rn.ofH (by decide) rfl (Nat.le_of_ble_eq_true rfl) rfl ?_
  show Ev l G m_L_memory 0 [.ref 0, .int x0, .ref 65, .double 0] [] (hpA K S T th fo) 0 0 _
  refine e_aload_n (pc := 0) d_L_memory_0 rfl ?_
  refine e_iconst (pc := 1) (v := 0) d_L_memory_1 (by decide) ?_
  refine e_aload_n (pc := 2) d_L_memory_2 rfl ?_
  refine e_iload_n (pc := 3) d_L_memory_3 rfl ?_
  refine e_cV1 (pc := 4) s_L_memory_4 (h) rfl rfl rfl (Nat.le_of_ble_eq_true rfl) (Nat.le_of_ble_eq_true rfl) (Nat.le_of_ble_eq_true rfl) (zGo.v ?_)
  refine e_i2l (pc := 7) d_L_memory_7 ?_
  refine e_last (pc := 8) d_L_memory_8 rfl (vp_dec (by decide)) wOut ?_
  refine e_goto (pc := 9) (tgt := 15) d_L_memory_9 (by decide) ?_
  refine e_iconst (pc := 15) (v := 0) d_L_memory_15 (by decide) ?_
  exact e_iret (pc := 16) d_L_memory_16 rfl rfl (Nat.le_of_ble_eq_true rfl) (Nat.le_of_ble_eq_true rfl) rfl
set_option maxHeartbeats 4000000 in
set_option maxRecDepth 100000 in
theorem wX_memory0 {l : Launch} {G : zGP} {K : Nat} {S S' T : St} {th : Int32} {fo : Nat → Int64} {x0 : Int32} (h : Rn l G m_B_memory [.ref 0, .int x0] (hpA K S T th fo) (.inr "java/lang/IllegalArgumentException", (hpA K S T th fo))) : Rn l G m_L_memory [.ref 0, .int x0, .ref 65] (hpA K S T th fo) (.inl (some (.int 1)), (hpA K S T th fo)) := by
  refine Rn.ofH (by decide) rfl (Nat.le_of_ble_eq_true rfl) rfl ?_
  show Ev l G m_L_memory 0 [.ref 0, .int x0, .ref 65, .double 0] [] (hpA K S T th fo) 0 0 _
  refine e_aload_n (pc := 0) d_L_memory_0 rfl ?_
  refine e_iconst (pc := 1) (v := 0) d_L_memory_1 (by decide) ?_
  refine e_aload_n (pc := 2) d_L_memory_2 rfl ?_
  refine e_iload_n (pc := 3) d_L_memory_3 rfl ?_
  refine e_cV1 (pc := 4) s_L_memory_4 (h) rfl rfl rfl (Nat.le_of_ble_eq_true rfl) (Nat.le_of_ble_eq_true rfl) (Nat.le_of_ble_eq_true rfl) ?_
  refine Or.inr (Or.inr ⟨"java/lang/IllegalArgumentException", rfl, Or.inr ⟨[], [], ⟨0, 9, 12, 15⟩, "java/lang/IllegalArgumentException", 3, 1, rfl, (fun z hz => absurd hz List.not_mem_nil), by decide, by decide, List.mem_cons_of_mem _ w_192, by decide, Or.inl ⟨3, rfl, rfl, d_L_memory_12⟩, by decide, ?_⟩⟩)
  dsimp only [List.set]
  refine e_iconst (pc := 13) (v := 1) d_L_memory_13 (by decide) ?_
  exact e_iret (pc := 14) d_L_memory_14 rfl rfl (Nat.le_of_ble_eq_true rfl) (Nat.le_of_ble_eq_true rfl) rfl
set_option maxHeartbeats 4000000 in
set_option maxRecDepth 100000 in
theorem wV_word {l : Launch} {G : zGP} {K : Nat} {S S' T : St} {th : Int32} {fo : Nat → Int64} {x0 : Int32} {v : Int32} (h : Rn l G m_B_word [.ref 0, .int x0] (hpA K S T th fo) (.inl (some (.int v)), (hpA K S' T th fo))) : Rn l G m_L_word [.ref 0, .int x0, .ref 65] (hpA K S T th fo) (.inl (some (.int 0)), (hpA K S' T th (vp_updL fo 0 v.toInt64))) := by
  refine Rn.ofH (by decide) rfl (Nat.le_of_ble_eq_true rfl) rfl ?_
  show Ev l G m_L_word 0 [.ref 0, .int x0, .ref 65, .double 0] [] (hpA K S T th fo) 0 0 _
  refine e_aload_n (pc := 0) d_L_word_0 rfl ?_
  refine e_iconst (pc := 1) (v := 0) d_L_word_1 (by decide) ?_
  refine e_aload_n (pc := 2) d_L_word_2 rfl ?_
  refine e_iload_n (pc := 3) d_L_word_3 rfl ?_
  refine e_cV1 (pc := 4) s_L_word_4 (h) rfl rfl rfl (Nat.le_of_ble_eq_true rfl) (Nat.le_of_ble_eq_true rfl) (Nat.le_of_ble_eq_true rfl) (zGo.v ?_)
  refine e_i2l (pc := 7) d_L_word_7 ?_
  refine e_last (pc := 8) d_L_word_8 rfl (vp_dec (by decide)) wOut ?_
  refine e_goto (pc := 9) (tgt := 15) d_L_word_9 (by decide) ?_
  refine e_iconst (pc := 15) (v := 0) d_L_word_15 (by decide) ?_
  exact e_iret (pc := 16) d_L_word_16 rfl rfl (Nat.le_of_ble_eq_true rfl) (Nat.le_of_ble_eq_true rfl) rfl
set_option maxHeartbeats 4000000 in
set_option maxRecDepth 100000 in
theorem wX_word0 {l : Launch} {G : zGP} {K : Nat} {S S' T : St} {th : Int32} {fo : Nat → Int64} {x0 : Int32} (h : Rn l G m_B_word [.ref 0, .int x0] (hpA K S T th fo) (.inr "java/lang/IllegalArgumentException", (hpA K S T th fo))) : Rn l G m_L_word [.ref 0, .int x0, .ref 65] (hpA K S T th fo) (.inl (some (.int 1)), (hpA K S T th fo)) := by
  refine Rn.ofH (by decide) rfl (Nat.le_of_ble_eq_true rfl) rfl ?_
  show Ev l G m_L_word 0 [.ref 0, .int x0, .ref 65, .double 0] [] (hpA K S T th fo) 0 0 _
  refine e_aload_n (pc := 0) d_L_word_0 rfl ?_
  refine e_iconst (pc := 1) (v := 0) d_L_word_1 (by decide) ?_
  refine e_aload_n (pc := 2) d_L_word_2 rfl ?_
  refine e_iload_n (pc := 3) d_L_word_3 rfl ?_
  refine e_cV1 (pc := 4) s_L_word_4 (h) rfl rfl rfl (Nat.le_of_ble_eq_true rfl) (Nat.le_of_ble_eq_true rfl) (Nat.le_of_ble_eq_true rfl) ?_
  refine Or.inr (Or.inr ⟨"java/lang/IllegalArgumentException", rfl, Or.inr ⟨[], [], ⟨0, 9, 12, 15⟩, "java/lang/IllegalArgumentException", 3, 1, rfl, (fun z hz => absurd hz List.not_mem_nil), by decide, by decide, List.mem_cons_of_mem _ w_192, by decide, Or.inl ⟨3, rfl, rfl, d_L_word_12⟩, by decide, ?_⟩⟩)
  dsimp only [List.set]
  refine e_iconst (pc := 13) (v := 1) d_L_word_13 (by decide) ?_
  exact e_iret (pc := 14) d_L_word_14 rfl rfl (Nat.le_of_ble_eq_true rfl) (Nat.le_of_ble_eq_true rfl) rfl
set_option maxHeartbeats 4000000 in
set_option maxRecDepth 100000 in
theorem wV_event {l : Launch} {G : zGP} {K : Nat} {S S' T : St} {th : Int32} {fo : Nat → Int64} {x0 : Int32} {v : Int32} (h : Rn l G m_B_event [.ref 0, .int x0] (hpA K S T th fo) (.inl (some (.int v)), (hpA K S' T th fo))) : Rn l G m_L_event [.ref 0, .int x0, .ref 65] (hpA K S T th fo) (.inl (some (.int 0)), (hpA K S' T th (vp_updL fo 0 v.toInt64))) := by
  refine Rn.ofH (by decide) rfl (Nat.le_of_ble_eq_true rfl) rfl ?_
  show Ev l G m_L_event 0 [.ref 0, .int x0, .ref 65, .double 0] [] (hpA K S T th fo) 0 0 _
  refine e_aload_n (pc := 0) d_L_event_0 rfl ?_
  refine e_iconst (pc := 1) (v := 0) d_L_event_1 (by decide) ?_
  refine e_aload_n (pc := 2) d_L_event_2 rfl ?_
  refine e_iload_n (pc := 3) d_L_event_3 rfl ?_
  refine e_cV1 (pc := 4) s_L_event_4 (h) rfl rfl rfl (Nat.le_of_ble_eq_true rfl) (Nat.le_of_ble_eq_true rfl) (Nat.le_of_ble_eq_true rfl) (zGo.v ?_)
  refine e_i2l (pc := 7) d_L_event_7 ?_
  refine e_last (pc := 8) d_L_event_8 rfl (vp_dec (by decide)) wOut ?_
  refine e_goto (pc := 9) (tgt := 15) d_L_event_9 (by decide) ?_
  refine e_iconst (pc := 15) (v := 0) d_L_event_15 (by decide) ?_
  exact e_iret (pc := 16) d_L_event_16 rfl rfl (Nat.le_of_ble_eq_true rfl) (Nat.le_of_ble_eq_true rfl) rfl
set_option maxHeartbeats 4000000 in
set_option maxRecDepth 100000 in
theorem wX_event0 {l : Launch} {G : zGP} {K : Nat} {S S' T : St} {th : Int32} {fo : Nat → Int64} {x0 : Int32} (h : Rn l G m_B_event [.ref 0, .int x0] (hpA K S T th fo) (.inr "java/util/NoSuchElementException", (hpA K S T th fo))) : Rn l G m_L_event [.ref 0, .int x0, .ref 65] (hpA K S T th fo) (.inl (some (.int 1)), (hpA K S T th fo)) := by
  refine Rn.ofH (by decide) rfl (Nat.le_of_ble_eq_true rfl) rfl ?_
  show Ev l G m_L_event 0 [.ref 0, .int x0, .ref 65, .double 0] [] (hpA K S T th fo) 0 0 _
  refine e_aload_n (pc := 0) d_L_event_0 rfl ?_
  refine e_iconst (pc := 1) (v := 0) d_L_event_1 (by decide) ?_
  refine e_aload_n (pc := 2) d_L_event_2 rfl ?_
  refine e_iload_n (pc := 3) d_L_event_3 rfl ?_
  refine e_cV1 (pc := 4) s_L_event_4 (h) rfl rfl rfl (Nat.le_of_ble_eq_true rfl) (Nat.le_of_ble_eq_true rfl) (Nat.le_of_ble_eq_true rfl) ?_
  refine Or.inr (Or.inr ⟨"java/util/NoSuchElementException", rfl, Or.inr ⟨[], [], ⟨0, 9, 12, 49⟩, "java/util/NoSuchElementException", 3, 1, rfl, (fun z hz => absurd hz List.not_mem_nil), by decide, by decide, List.mem_cons_of_mem _ w_487, by decide, Or.inl ⟨3, rfl, rfl, d_L_event_12⟩, by decide, ?_⟩⟩)
  dsimp only [List.set]
  refine e_iconst (pc := 13) (v := 1) d_L_event_13 (by decide) ?_
  exact e_iret (pc := 14) d_L_event_14 rfl rfl (Nat.le_of_ble_eq_true rfl) (Nat.le_of_ble_eq_true rfl) rfl
set_option maxHeartbeats 4000000 in
set_option maxRecDepth 100000 in
theorem wV_eventValue {l : Launch} {G : zGP} {K : Nat} {S S' T : St} {th : Int32} {fo : Nat → Int64} {x0 : Int32} {v : Int32} (h : Rn l G m_B_eventValue [.ref 0, .int x0] (hpA K S T th fo) (.inl (some (.int v)), (hpA K S' T th fo))) : Rn l G m_L_eventValue [.ref 0, .int x0, .ref 65] (hpA K S T th fo) (.inl (some (.int 0)), (hpA K S' T th (vp_updL fo 0 v.toInt64))) := by
  refine Rn.ofH (by decide) rfl (Nat.le_of_ble_eq_true rfl) rfl ?_
  show Ev l G m_L_eventValue 0 [.ref 0, .int x0, .ref 65, .double 0] [] (hpA K S T th fo) 0 0 _
  refine e_aload_n (pc := 0) d_L_eventValue_0 rfl ?_
  refine e_iconst (pc := 1) (v := 0) d_L_eventValue_1 (by decide) ?_
  refine e_aload_n (pc := 2) d_L_eventValue_2 rfl ?_
  refine e_iload_n (pc := 3) d_L_eventValue_3 rfl ?_
  refine e_cV1 (pc := 4) s_L_eventValue_4 (h) rfl rfl rfl (Nat.le_of_ble_eq_true rfl) (Nat.le_of_ble_eq_true rfl) (Nat.le_of_ble_eq_true rfl) (zGo.v ?_)
  refine e_i2l (pc := 7) d_L_eventValue_7 ?_
  refine e_last (pc := 8) d_L_eventValue_8 rfl (vp_dec (by decide)) wOut ?_
  refine e_goto (pc := 9) (tgt := 15) d_L_eventValue_9 (by decide) ?_
  refine e_iconst (pc := 15) (v := 0) d_L_eventValue_15 (by decide) ?_
  exact e_iret (pc := 16) d_L_eventValue_16 rfl rfl (Nat.le_of_ble_eq_true rfl) (Nat.le_of_ble_eq_true rfl) rfl
set_option maxHeartbeats 4000000 in
set_option maxRecDepth 100000 in
theorem wX_eventValue0 {l : Launch} {G : zGP} {K : Nat} {S S' T : St} {th : Int32} {fo : Nat → Int64} {x0 : Int32} (h : Rn l G m_B_eventValue [.ref 0, .int x0] (hpA K S T th fo) (.inr "java/util/NoSuchElementException", (hpA K S T th fo))) : Rn l G m_L_eventValue [.ref 0, .int x0, .ref 65] (hpA K S T th fo) (.inl (some (.int 1)), (hpA K S T th fo)) := by
  refine Rn.ofH (by decide) rfl (Nat.le_of_ble_eq_true rfl) rfl ?_
  show Ev l G m_L_eventValue 0 [.ref 0, .int x0, .ref 65, .double 0] [] (hpA K S T th fo) 0 0 _
  refine e_aload_n (pc := 0) d_L_eventValue_0 rfl ?_
  refine e_iconst (pc := 1) (v := 0) d_L_eventValue_1 (by decide) ?_
  refine e_aload_n (pc := 2) d_L_eventValue_2 rfl ?_
  refine e_iload_n (pc := 3) d_L_eventValue_3 rfl ?_
  refine e_cV1 (pc := 4) s_L_eventValue_4 (h) rfl rfl rfl (Nat.le_of_ble_eq_true rfl) (Nat.le_of_ble_eq_true rfl) (Nat.le_of_ble_eq_true rfl) ?_
  refine Or.inr (Or.inr ⟨"java/util/NoSuchElementException", rfl, Or.inr ⟨[], [], ⟨0, 9, 12, 49⟩, "java/util/NoSuchElementException", 3, 1, rfl, (fun z hz => absurd hz List.not_mem_nil), by decide, by decide, List.mem_cons_of_mem _ w_487, by decide, Or.inl ⟨3, rfl, rfl, d_L_eventValue_12⟩, by decide, ?_⟩⟩)
  dsimp only [List.set]
  refine e_iconst (pc := 13) (v := 1) d_L_eventValue_13 (by decide) ?_
  exact e_iret (pc := 14) d_L_eventValue_14 rfl rfl (Nat.le_of_ble_eq_true rfl) (Nat.le_of_ble_eq_true rfl) rfl
