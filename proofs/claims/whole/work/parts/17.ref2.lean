/-! ===== the reference: code, load, store, swap, act, step ===== -/
theorem gt15 {b : Int32} : 15 < b ↔ 16 ≤ b := by
  rw [Int32.lt_iff_toInt_lt, Int32.le_iff_toInt_le, show (15 : Int32).toInt = 15 by decide, show (16 : Int32).toInt = 16 by decide]; omega
theorem su_r {S : St} {f c j : Nat} {v w : Int32} (h : v = w) : su S f c j v f c j = w := by rw [su_at, h]
set_option maxHeartbeats 4000000 in
set_option maxRecDepth 100000 in
theorem sY_code {l : Launch} {G : zGP} {K : Nat} {S T : St} {th : Int32} {fo : Nat → Int64} {x : Int32} (hx : ¬ (0 ≤ x ∧ x < 3)) {y0 y1 y2 : Int32} : Rn l G m_M_code [.ref 45, .int x, .int y0, .int y1, .int y2] (hpA K S T th fo) (.inl (some (.int 0)), (hpA K S T 1 fo)) := by
  refine Rn.of (by decide) rfl rfl (Nat.le_of_ble_eq_true rfl) rfl ?_
  show Ev l G m_M_code 0 [.ref 45, .int x, .int y0, .int y1, .int y2, .double 0, .double 0, .double 0] [] (hpA K S T th fo) 0 0 _
  refine e_aload_n (pc := 0) d_M_code_0 rfl ?_
  refine e_iload_n (pc := 1) d_M_code_1 rfl ?_
  refine e_cV1 (pc := 2) s_M_code_2 (sY_core hx) rfl rfl rfl (Nat.le_of_ble_eq_true rfl) (Nat.le_of_ble_eq_true rfl) (Nat.le_of_ble_eq_true rfl) (zGo.v ?_)
  refine e_if_ne (pc := 5) (tgt := 10) d_M_code_5 (by decide) (fun h9 => absurd (by decide) h9) (fun _ => ?_)
  refine e_iconst (pc := 8) (v := 0) d_M_code_8 (by decide) ?_
  exact e_iret (pc := 9) d_M_code_9 rfl rfl (Nat.le_of_ble_eq_true rfl) (Nat.le_of_ble_eq_true rfl) rfl
set_option maxHeartbeats 4000000 in
set_option maxRecDepth 100000 in
theorem sY_step {l : Launch} {G : zGP} {K : Nat} {S T : St} {th : Int32} {fo : Nat → Int64} {x : Int32} (hx : ¬ (0 ≤ x ∧ x < 3)) : Rn l G m_M_step [.ref 45, .int x] (hpA K S T th fo) (.inl (some (.int 0)), (hpA K S T 1 fo)) := by
  refine Rn.of (by decide) rfl rfl (Nat.le_of_ble_eq_true rfl) rfl ?_
  show Ev l G m_M_step 0 [.ref 45, .int x, .double 0, .double 0, .double 0] [] (hpA K S T th fo) 0 0 _
  refine e_aload_n (pc := 0) d_M_step_0 rfl ?_
  refine e_iload_n (pc := 1) d_M_step_1 rfl ?_
  refine e_cV1 (pc := 2) s_M_step_2 (sY_core hx) rfl rfl rfl (Nat.le_of_ble_eq_true rfl) (Nat.le_of_ble_eq_true rfl) (Nat.le_of_ble_eq_true rfl) (zGo.v ?_)
  refine e_if_ne (pc := 5) (tgt := 10) d_M_step_5 (by decide) (fun h9 => absurd (by decide) h9) (fun _ => ?_)
  refine e_iconst (pc := 8) (v := 0) d_M_step_8 (by decide) ?_
  exact e_iret (pc := 9) d_M_step_9 rfl rfl (Nat.le_of_ble_eq_true rfl) (Nat.le_of_ble_eq_true rfl) rfl
set_option maxHeartbeats 4000000 in
set_option maxRecDepth 100000 in
theorem sY_drain {l : Launch} {G : zGP} {K : Nat} {S T : St} {th : Int32} {fo : Nat → Int64} {x : Int32} (hx : ¬ (0 ≤ x ∧ x < 3)) : Rn l G m_M_drain [.ref 45, .int x] (hpA K S T th fo) (.inl (some (.int 0)), (hpA K S T 1 fo)) := by
  refine Rn.of (by decide) rfl rfl (Nat.le_of_ble_eq_true rfl) rfl ?_
  show Ev l G m_M_drain 0 [.ref 45, .int x, .double 0, .double 0, .double 0, .double 0] [] (hpA K S T th fo) 0 0 _
  refine e_aload_n (pc := 0) d_M_drain_0 rfl ?_
  refine e_iload_n (pc := 1) d_M_drain_1 rfl ?_
  refine e_cV1 (pc := 2) s_M_drain_2 (sY_core hx) rfl rfl rfl (Nat.le_of_ble_eq_true rfl) (Nat.le_of_ble_eq_true rfl) (Nat.le_of_ble_eq_true rfl) (zGo.v ?_)
  refine e_if_ne (pc := 5) (tgt := 10) d_M_drain_5 (by decide) (fun h9 => absurd (by decide) h9) (fun _ => ?_)
  refine e_iconst (pc := 8) (v := 0) d_M_drain_8 (by decide) ?_
  exact e_iret (pc := 9) d_M_drain_9 rfl rfl (Nat.le_of_ble_eq_true rfl) (Nat.le_of_ble_eq_true rfl) rfl
set_option maxHeartbeats 4000000 in
set_option maxRecDepth 100000 in
theorem sY_grant {l : Launch} {G : zGP} {K : Nat} {S T : St} {th : Int32} {fo : Nat → Int64} {x : Int32} (hx : ¬ (0 ≤ x ∧ x < 3)) : Rn l G m_M_grant [.ref 45, .int x] (hpA K S T th fo) (.inl (some (.int 0)), (hpA K S T 1 fo)) := by
  refine Rn.of (by decide) rfl rfl (Nat.le_of_ble_eq_true rfl) rfl ?_
  show Ev l G m_M_grant 0 [.ref 45, .int x, .double 0, .double 0, .double 0] [] (hpA K S T th fo) 0 0 _
  refine e_aload_n (pc := 0) d_M_grant_0 rfl ?_
  refine e_iload_n (pc := 1) d_M_grant_1 rfl ?_
  refine e_cV1 (pc := 2) s_M_grant_2 (sY_core hx) rfl rfl rfl (Nat.le_of_ble_eq_true rfl) (Nat.le_of_ble_eq_true rfl) (Nat.le_of_ble_eq_true rfl) (zGo.v ?_)
  refine e_if_ne (pc := 5) (tgt := 10) d_M_grant_5 (by decide) (fun h9 => absurd (by decide) h9) (fun _ => ?_)
  refine e_iconst (pc := 8) (v := 0) d_M_grant_8 (by decide) ?_
  exact e_iret (pc := 9) d_M_grant_9 rfl rfl (Nat.le_of_ble_eq_true rfl) (Nat.le_of_ble_eq_true rfl) rfl
set_option maxHeartbeats 4000000 in
set_option maxRecDepth 100000 in
theorem sY_fill {l : Launch} {G : zGP} {K : Nat} {S T : St} {th : Int32} {fo : Nat → Int64} {x : Int32} (hx : ¬ (0 ≤ x ∧ x < 3)) : Rn l G m_M_fill [.ref 45, .int x] (hpA K S T th fo) (.inl (some (.int 0)), (hpA K S T 1 fo)) := by
  refine Rn.of (by decide) rfl rfl (Nat.le_of_ble_eq_true rfl) rfl ?_
  show Ev l G m_M_fill 0 [.ref 45, .int x, .double 0, .double 0, .double 0] [] (hpA K S T th fo) 0 0 _
  refine e_aload_n (pc := 0) d_M_fill_0 rfl ?_
  refine e_iload_n (pc := 1) d_M_fill_1 rfl ?_
  refine e_cV1 (pc := 2) s_M_fill_2 (sY_core hx) rfl rfl rfl (Nat.le_of_ble_eq_true rfl) (Nat.le_of_ble_eq_true rfl) (Nat.le_of_ble_eq_true rfl) (zGo.v ?_)
  refine e_if_ne (pc := 5) (tgt := 10) d_M_fill_5 (by decide) (fun h9 => absurd (by decide) h9) (fun _ => ?_)
  refine e_iconst (pc := 8) (v := 0) d_M_fill_8 (by decide) ?_
  exact e_iret (pc := 9) d_M_fill_9 rfl rfl (Nat.le_of_ble_eq_true rfl) (Nat.le_of_ble_eq_true rfl) rfl
set_option maxHeartbeats 4000000 in
set_option maxRecDepth 100000 in
theorem sY_register {l : Launch} {G : zGP} {K : Nat} {S T : St} {th : Int32} {fo : Nat → Int64} {x : Int32} (hx : ¬ (0 ≤ x ∧ x < 3)) {y0 : Int32} : Rn l G m_M_register [.ref 45, .int x, .int y0] (hpA K S T th fo) (.inl (some (.int 0)), (hpA K S T 1 fo)) := by
  refine Rn.of (by decide) rfl rfl (Nat.le_of_ble_eq_true rfl) rfl ?_
  show Ev l G m_M_register 0 [.ref 45, .int x, .int y0] [] (hpA K S T th fo) 0 0 _
  refine e_aload_n (pc := 0) d_M_register_0 rfl ?_
  refine e_iload_n (pc := 1) d_M_register_1 rfl ?_
  refine e_cV1 (pc := 2) s_M_register_2 (sY_core hx) rfl rfl rfl (Nat.le_of_ble_eq_true rfl) (Nat.le_of_ble_eq_true rfl) (Nat.le_of_ble_eq_true rfl) (zGo.v ?_)
  refine e_if_ne (pc := 5) (tgt := 10) d_M_register_5 (by decide) (fun h9 => absurd (by decide) h9) (fun _ => ?_)
  refine e_iconst (pc := 8) (v := 0) d_M_register_8 (by decide) ?_
  exact e_iret (pc := 9) d_M_register_9 rfl rfl (Nat.le_of_ble_eq_true rfl) (Nat.le_of_ble_eq_true rfl) rfl
set_option maxHeartbeats 4000000 in
set_option maxRecDepth 100000 in
theorem sY_place {l : Launch} {G : zGP} {K : Nat} {S T : St} {th : Int32} {fo : Nat → Int64} {x : Int32} (hx : ¬ (0 ≤ x ∧ x < 3)) : Rn l G m_M_place [.ref 45, .int x] (hpA K S T th fo) (.inl (some (.int 0)), (hpA K S T 1 fo)) := by
  refine Rn.of (by decide) rfl rfl (Nat.le_of_ble_eq_true rfl) rfl ?_
  show Ev l G m_M_place 0 [.ref 45, .int x] [] (hpA K S T th fo) 0 0 _
  refine e_aload_n (pc := 0) d_M_place_0 rfl ?_
  refine e_iload_n (pc := 1) d_M_place_1 rfl ?_
  refine e_cV1 (pc := 2) s_M_place_2 (sY_core hx) rfl rfl rfl (Nat.le_of_ble_eq_true rfl) (Nat.le_of_ble_eq_true rfl) (Nat.le_of_ble_eq_true rfl) (zGo.v ?_)
  refine e_if_eq (pc := 5) (tgt := 17) d_M_place_5 (by decide) (fun _ => ?_) (fun h9 => absurd (by decide) h9)
  refine e_iconst (pc := 17) (v := 0) d_M_place_17 (by decide) ?_
  exact e_iret (pc := 18) d_M_place_18 rfl rfl (Nat.le_of_ble_eq_true rfl) (Nat.le_of_ble_eq_true rfl) rfl
set_option maxHeartbeats 4000000 in
set_option maxRecDepth 100000 in
theorem sY_buffered {l : Launch} {G : zGP} {K : Nat} {S T : St} {th : Int32} {fo : Nat → Int64} {x : Int32} (hx : ¬ (0 ≤ x ∧ x < 3)) : Rn l G m_M_buffered [.ref 45, .int x] (hpA K S T th fo) (.inl (some (.int 0)), (hpA K S T 1 fo)) := by
  refine Rn.of (by decide) rfl rfl (Nat.le_of_ble_eq_true rfl) rfl ?_
  show Ev l G m_M_buffered 0 [.ref 45, .int x] [] (hpA K S T th fo) 0 0 _
  refine e_aload_n (pc := 0) d_M_buffered_0 rfl ?_
  refine e_iload_n (pc := 1) d_M_buffered_1 rfl ?_
  refine e_cV1 (pc := 2) s_M_buffered_2 (sY_core hx) rfl rfl rfl (Nat.le_of_ble_eq_true rfl) (Nat.le_of_ble_eq_true rfl) (Nat.le_of_ble_eq_true rfl) (zGo.v ?_)
  refine e_if_eq (pc := 5) (tgt := 17) d_M_buffered_5 (by decide) (fun _ => ?_) (fun h9 => absurd (by decide) h9)
  refine e_iconst (pc := 17) (v := 0) d_M_buffered_17 (by decide) ?_
  exact e_iret (pc := 18) d_M_buffered_18 rfl rfl (Nat.le_of_ble_eq_true rfl) (Nat.le_of_ble_eq_true rfl) rfl
set_option maxHeartbeats 4000000 in
set_option maxRecDepth 100000 in
theorem sY_storeAddress {l : Launch} {G : zGP} {K : Nat} {S T : St} {th : Int32} {fo : Nat → Int64} {x : Int32} (hx : ¬ (0 ≤ x ∧ x < 3)) {y0 : Int32} : Rn l G m_M_storeAddress [.ref 45, .int x, .int y0] (hpA K S T th fo) (.inl (some (.int 0)), (hpA K S T 1 fo)) := by
  refine Rn.of (by decide) rfl rfl (Nat.le_of_ble_eq_true rfl) rfl ?_
  show Ev l G m_M_storeAddress 0 [.ref 45, .int x, .int y0] [] (hpA K S T th fo) 0 0 _
  refine e_aload_n (pc := 0) d_M_storeAddress_0 rfl ?_
  refine e_iload_n (pc := 1) d_M_storeAddress_1 rfl ?_
  refine e_cV1 (pc := 2) s_M_storeAddress_2 (sY_core hx) rfl rfl rfl (Nat.le_of_ble_eq_true rfl) (Nat.le_of_ble_eq_true rfl) (Nat.le_of_ble_eq_true rfl) (zGo.v ?_)
  refine e_if_ne (pc := 5) (tgt := 10) d_M_storeAddress_5 (by decide) (fun h9 => absurd (by decide) h9) (fun _ => ?_)
  refine e_iconst (pc := 8) (v := 0) d_M_storeAddress_8 (by decide) ?_
  exact e_iret (pc := 9) d_M_storeAddress_9 rfl rfl (Nat.le_of_ble_eq_true rfl) (Nat.le_of_ble_eq_true rfl) rfl
set_option maxHeartbeats 4000000 in
set_option maxRecDepth 100000 in
theorem sY_storeValue {l : Launch} {G : zGP} {K : Nat} {S T : St} {th : Int32} {fo : Nat → Int64} {x : Int32} (hx : ¬ (0 ≤ x ∧ x < 3)) {y0 : Int32} : Rn l G m_M_storeValue [.ref 45, .int x, .int y0] (hpA K S T th fo) (.inl (some (.int 0)), (hpA K S T 1 fo)) := by
  refine Rn.of (by decide) rfl rfl (Nat.le_of_ble_eq_true rfl) rfl ?_
  show Ev l G m_M_storeValue 0 [.ref 45, .int x, .int y0] [] (hpA K S T th fo) 0 0 _
  refine e_aload_n (pc := 0) d_M_storeValue_0 rfl ?_
  refine e_iload_n (pc := 1) d_M_storeValue_1 rfl ?_
  refine e_cV1 (pc := 2) s_M_storeValue_2 (sY_core hx) rfl rfl rfl (Nat.le_of_ble_eq_true rfl) (Nat.le_of_ble_eq_true rfl) (Nat.le_of_ble_eq_true rfl) (zGo.v ?_)
  refine e_if_ne (pc := 5) (tgt := 10) d_M_storeValue_5 (by decide) (fun h9 => absurd (by decide) h9) (fun _ => ?_)
  refine e_iconst (pc := 8) (v := 0) d_M_storeValue_8 (by decide) ?_
  exact e_iret (pc := 9) d_M_storeValue_9 rfl rfl (Nat.le_of_ble_eq_true rfl) (Nat.le_of_ble_eq_true rfl) rfl
set_option maxHeartbeats 4000000 in
set_option maxRecDepth 100000 in
theorem sY_line {l : Launch} {G : zGP} {K : Nat} {S T : St} {th : Int32} {fo : Nat → Int64} {x : Int32} (hx : ¬ (0 ≤ x ∧ x < 3)) {y0 : Int32} : Rn l G m_M_line [.ref 45, .int x, .int y0] (hpA K S T th fo) (.inl (some (.int 0)), (hpA K S T 1 fo)) := by
  refine Rn.of (by decide) rfl rfl (Nat.le_of_ble_eq_true rfl) rfl ?_
  show Ev l G m_M_line 0 [.ref 45, .int x, .int y0, .double 0] [] (hpA K S T th fo) 0 0 _
  refine e_aload_n (pc := 0) d_M_line_0 rfl ?_
  refine e_iload_n (pc := 1) d_M_line_1 rfl ?_
  refine e_cV1 (pc := 2) s_M_line_2 (sY_core hx) rfl rfl rfl (Nat.le_of_ble_eq_true rfl) (Nat.le_of_ble_eq_true rfl) (Nat.le_of_ble_eq_true rfl) (zGo.v ?_)
  refine e_if_ne (pc := 5) (tgt := 10) d_M_line_5 (by decide) (fun h9 => absurd (by decide) h9) (fun _ => ?_)
  refine e_iconst (pc := 8) (v := 0) d_M_line_8 (by decide) ?_
  exact e_iret (pc := 9) d_M_line_9 rfl rfl (Nat.le_of_ble_eq_true rfl) (Nat.le_of_ble_eq_true rfl) rfl
set_option maxHeartbeats 4000000 in
set_option maxRecDepth 100000 in
theorem sY_cached {l : Launch} {G : zGP} {K : Nat} {S T : St} {th : Int32} {fo : Nat → Int64} {x : Int32} (hx : ¬ (0 ≤ x ∧ x < 3)) {y0 : Int32} : Rn l G m_M_cached [.ref 45, .int x, .int y0] (hpA K S T th fo) (.inl (some (.int 0)), (hpA K S T 1 fo)) := by
  refine Rn.of (by decide) rfl rfl (Nat.le_of_ble_eq_true rfl) rfl ?_
  show Ev l G m_M_cached 0 [.ref 45, .int x, .int y0] [] (hpA K S T th fo) 0 0 _
  refine e_aload_n (pc := 0) d_M_cached_0 rfl ?_
  refine e_iload_n (pc := 1) d_M_cached_1 rfl ?_
  refine e_cV1 (pc := 2) s_M_cached_2 (sY_core hx) rfl rfl rfl (Nat.le_of_ble_eq_true rfl) (Nat.le_of_ble_eq_true rfl) (Nat.le_of_ble_eq_true rfl) (zGo.v ?_)
  refine e_if_ne (pc := 5) (tgt := 10) d_M_cached_5 (by decide) (fun h9 => absurd (by decide) h9) (fun _ => ?_)
  refine e_iconst (pc := 8) (v := 0) d_M_cached_8 (by decide) ?_
  exact e_iret (pc := 9) d_M_cached_9 rfl rfl (Nat.le_of_ble_eq_true rfl) (Nat.le_of_ble_eq_true rfl) rfl
set_option maxHeartbeats 4000000 in
set_option maxRecDepth 100000 in
theorem sY_request {l : Launch} {G : zGP} {K : Nat} {S T : St} {th : Int32} {fo : Nat → Int64} {x : Int32} (hx : ¬ (0 ≤ x ∧ x < 3)) : Rn l G m_M_request [.ref 45, .int x] (hpA K S T th fo) (.inl (some (.int 0)), (hpA K S T 1 fo)) := by
  refine Rn.of (by decide) rfl rfl (Nat.le_of_ble_eq_true rfl) rfl ?_
  show Ev l G m_M_request 0 [.ref 45, .int x] [] (hpA K S T th fo) 0 0 _
  refine e_aload_n (pc := 0) d_M_request_0 rfl ?_
  refine e_iload_n (pc := 1) d_M_request_1 rfl ?_
  refine e_cV1 (pc := 2) s_M_request_2 (sY_core hx) rfl rfl rfl (Nat.le_of_ble_eq_true rfl) (Nat.le_of_ble_eq_true rfl) (Nat.le_of_ble_eq_true rfl) (zGo.v ?_)
  refine e_if_ne (pc := 5) (tgt := 10) d_M_request_5 (by decide) (fun h9 => absurd (by decide) h9) (fun _ => ?_)
  refine e_iconst (pc := 8) (v := 0) d_M_request_8 (by decide) ?_
  exact e_iret (pc := 9) d_M_request_9 rfl rfl (Nat.le_of_ble_eq_true rfl) (Nat.le_of_ble_eq_true rfl) rfl
set_option maxHeartbeats 4000000 in
set_option maxRecDepth 100000 in
theorem sM_codeX0_2 {l : Launch} {G : zGP} {K : Nat} {S T : St} {th : Int32} {fo : Nat → Int64} {c : Nat} (hc : c < 3) {a b : Int32} (hv : vB 0 a b = false) : Rn l G m_M_code [.ref 45, .int (nI c), .int (nI 0), .int a, .int b] (hpA K S T th fo) (.inl (some (.int 0)), (hpA K S T 2 fo)) := by
  refine Rn.of (by decide) rfl rfl (Nat.le_of_ble_eq_true rfl) rfl ?_
  show Ev l G m_M_code 0 [.ref 45, .int (nI c), .int (nI 0), .int a, .int b, .double 0, .double 0, .double 0] [] (hpA K S T th fo) 0 0 _
  refine e_aload_n (pc := 0) d_M_code_0 rfl ?_
  refine e_iload_n (pc := 1) d_M_code_1 rfl ?_
  refine e_cV1 (pc := 2) s_M_code_2 (sM_core hc) rfl rfl rfl (Nat.le_of_ble_eq_true rfl) (Nat.le_of_ble_eq_true rfl) (Nat.le_of_ble_eq_true rfl) (zGo.v ?_)
  refine e_if_ne (pc := 5) (tgt := 10) d_M_code_5 (by decide) (fun _ => ?_) (fun h9 => absurd h9 (by decide))
  refine e_iload_n (pc := 10) d_M_code_10 rfl ?_
  refine e_iconst (pc := 11) (v := 2) d_M_code_11 (by decide) ?_
  refine e_icmp_eq (pc := 12) (tgt := 28) d_M_code_12 (by decide) (fun h9 => absurd h9 (by decide)) (fun _ => ?_)
  refine e_iload_n (pc := 15) d_M_code_15 rfl ?_
  refine e_bipush (pc := 16) (v := 7) d_M_code_16 (by decide) ?_
  refine e_icmp_eq (pc := 18) (tgt := 28) d_M_code_18 (by decide) (fun h9 => absurd h9 (by decide)) (fun _ => ?_)
  refine e_iload_n (pc := 21) d_M_code_21 rfl ?_
  refine e_cS1 (pc := 22) s_M_code_22 (sp_MisRegister) (Nat.le_of_ble_eq_true rfl) (Nat.le_of_ble_eq_true rfl) (Nat.le_of_ble_eq_true rfl) (zGo.v ?_)
  refine e_if_eq (pc := 25) (tgt := 32) d_M_code_25 (by decide) (fun h1 => ?_) (fun h1 => ?_)
  · replace h1 := b0.mp h1
    refine e_iconst (pc := 32) (v := 0) d_M_code_32 (by decide) ?_
    refine e_istore (pc := 33) d_M_code_33 (Nat.le_of_ble_eq_true rfl) ?_
    dsimp only [List.set]
    refine e_iload_n (pc := 35) d_M_code_35 rfl ?_
    refine e_if_eq (pc := 36) (tgt := 54) d_M_code_36 (by decide) (fun _ => ?_) (fun h9 => absurd (by decide) h9)
    refine e_iload (pc := 54) d_M_code_54 rfl ?_
    refine e_cS1 (pc := 56) s_M_code_56 (sp_MisRegister) (Nat.le_of_ble_eq_true rfl) (Nat.le_of_ble_eq_true rfl) (Nat.le_of_ble_eq_true rfl) (zGo.v ?_)
    refine e_goto (pc := 59) (tgt := 85) d_M_code_59 (by decide) ?_
    refine e_istore (pc := 85) d_M_code_85 (Nat.le_of_ble_eq_true rfl) ?_
    dsimp only [List.set]
    refine e_aload_n (pc := 87) d_M_code_87 rfl ?_
    refine e_iload_n (pc := 88) d_M_code_88 rfl ?_
    refine e_if_lt (pc := 89) (tgt := 108) d_M_code_89 (by decide) (fun h9 => absurd h9 (by decide)) (fun _ => ?_)
    refine e_iload_n (pc := 92) d_M_code_92 rfl ?_
    refine e_bipush (pc := 93) (v := 7) d_M_code_93 (by decide) ?_
    refine e_icmp_gt (pc := 95) (tgt := 108) d_M_code_95 (by decide) (fun h9 => absurd h9 (by decide)) (fun _ => ?_)
    refine e_iload (pc := 98) d_M_code_98 rfl ?_
    refine e_if_eq (pc := 100) (tgt := 108) d_M_code_100 (by decide) (fun _ => ?_) (fun h9 => absurd (by decide) h9)
    refine e_iconst (pc := 108) (v := 2) d_M_code_108 (by decide) ?_
    refine e_goto (pc := 109) (tgt := 128) d_M_code_109 (by decide) ?_
    refine e_put (pc := 128) s_M_code_128 rfl (Nat.le_of_ble_eq_true rfl) zFit.int wTh ?_
    refine e_aload_n (pc := 131) d_M_code_131 rfl ?_
    refine e_get (pc := 132) s_M_code_132 rfl rfl ?_
    refine e_if_le (pc := 135) (tgt := 140) d_M_code_135 (by decide) (fun h9 => absurd h9 (by decide)) (fun _ => ?_)
    refine e_iconst (pc := 138) (v := 0) d_M_code_138 (by decide) ?_
    exact e_iret (pc := 139) d_M_code_139 rfl rfl (Nat.le_of_ble_eq_true rfl) (Nat.le_of_ble_eq_true rfl) (by simp [h1])
  · replace h1 := b1.mp h1
    refine e_iconst (pc := 28) (v := 1) d_M_code_28 (by decide) ?_
    refine e_goto (pc := 29) (tgt := 33) d_M_code_29 (by decide) ?_
    refine e_istore (pc := 33) d_M_code_33 (Nat.le_of_ble_eq_true rfl) ?_
    dsimp only [List.set]
    refine e_iload_n (pc := 35) d_M_code_35 rfl ?_
    refine e_if_eq (pc := 36) (tgt := 54) d_M_code_36 (by decide) (fun _ => ?_) (fun h9 => absurd (by decide) h9)
    refine e_iload (pc := 54) d_M_code_54 rfl ?_
    refine e_cS1 (pc := 56) s_M_code_56 (sp_MisRegister) (Nat.le_of_ble_eq_true rfl) (Nat.le_of_ble_eq_true rfl) (Nat.le_of_ble_eq_true rfl) (zGo.v ?_)
    refine e_goto (pc := 59) (tgt := 85) d_M_code_59 (by decide) ?_
    refine e_istore (pc := 85) d_M_code_85 (Nat.le_of_ble_eq_true rfl) ?_
    dsimp only [List.set]
    refine e_aload_n (pc := 87) d_M_code_87 rfl ?_
    refine e_iload_n (pc := 88) d_M_code_88 rfl ?_
    refine e_if_lt (pc := 89) (tgt := 108) d_M_code_89 (by decide) (fun h9 => absurd h9 (by decide)) (fun _ => ?_)
    refine e_iload_n (pc := 92) d_M_code_92 rfl ?_
    refine e_bipush (pc := 93) (v := 7) d_M_code_93 (by decide) ?_
    refine e_icmp_gt (pc := 95) (tgt := 108) d_M_code_95 (by decide) (fun h9 => absurd h9 (by decide)) (fun _ => ?_)
    refine e_iload (pc := 98) d_M_code_98 rfl ?_
    refine e_if_eq (pc := 100) (tgt := 108) d_M_code_100 (by decide) (fun h9 => absurd h9 (by decide)) (fun _ => ?_)
    refine e_iload (pc := 103) d_M_code_103 rfl ?_
    refine e_if_ne (pc := 105) (tgt := 112) d_M_code_105 (by decide) (fun h2 => ?_) (fun h2 => ?_)
    · replace h2 := b1.mp h2
      exact absurd hv (by simp [vB, ← gt15, h1, h2])
    · replace h2 := b0.mp h2
      refine e_iconst (pc := 108) (v := 2) d_M_code_108 (by decide) ?_
      refine e_goto (pc := 109) (tgt := 128) d_M_code_109 (by decide) ?_
      refine e_put (pc := 128) s_M_code_128 rfl (Nat.le_of_ble_eq_true rfl) zFit.int wTh ?_
      refine e_aload_n (pc := 131) d_M_code_131 rfl ?_
      refine e_get (pc := 132) s_M_code_132 rfl rfl ?_
      refine e_if_le (pc := 135) (tgt := 140) d_M_code_135 (by decide) (fun h9 => absurd h9 (by decide)) (fun _ => ?_)
      refine e_iconst (pc := 138) (v := 0) d_M_code_138 (by decide) ?_
      exact e_iret (pc := 139) d_M_code_139 rfl rfl (Nat.le_of_ble_eq_true rfl) (Nat.le_of_ble_eq_true rfl) (by simp [h1, h2])
set_option maxHeartbeats 4000000 in
set_option maxRecDepth 100000 in
theorem sM_codeX0_3 {l : Launch} {G : zGP} {K : Nat} {S T : St} {th : Int32} {fo : Nat → Int64} {c : Nat} (hc : c < 3) {a b : Int32} (hv : vB 0 a b = true) (h1 : T 1 c 0 = 16) : Rn l G m_M_code [.ref 45, .int (nI c), .int (nI 0), .int a, .int b] (hpA K S T th fo) (.inl (some (.int 0)), (hpA K S T 3 fo)) := by
  refine Rn.of (by decide) rfl rfl (Nat.le_of_ble_eq_true rfl) rfl ?_
  show Ev l G m_M_code 0 [.ref 45, .int (nI c), .int (nI 0), .int a, .int b, .double 0, .double 0, .double 0] [] (hpA K S T th fo) 0 0 _
  refine e_aload_n (pc := 0) d_M_code_0 rfl ?_
  refine e_iload_n (pc := 1) d_M_code_1 rfl ?_
  refine e_cV1 (pc := 2) s_M_code_2 (sM_core hc) rfl rfl rfl (Nat.le_of_ble_eq_true rfl) (Nat.le_of_ble_eq_true rfl) (Nat.le_of_ble_eq_true rfl) (zGo.v ?_)
  refine e_if_ne (pc := 5) (tgt := 10) d_M_code_5 (by decide) (fun _ => ?_) (fun h9 => absurd h9 (by decide))
  refine e_iload_n (pc := 10) d_M_code_10 rfl ?_
  refine e_iconst (pc := 11) (v := 2) d_M_code_11 (by decide) ?_
  refine e_icmp_eq (pc := 12) (tgt := 28) d_M_code_12 (by decide) (fun h9 => absurd h9 (by decide)) (fun _ => ?_)
  refine e_iload_n (pc := 15) d_M_code_15 rfl ?_
  refine e_bipush (pc := 16) (v := 7) d_M_code_16 (by decide) ?_
  refine e_icmp_eq (pc := 18) (tgt := 28) d_M_code_18 (by decide) (fun h9 => absurd h9 (by decide)) (fun _ => ?_)
  refine e_iload_n (pc := 21) d_M_code_21 rfl ?_
  refine e_cS1 (pc := 22) s_M_code_22 (sp_MisRegister) (Nat.le_of_ble_eq_true rfl) (Nat.le_of_ble_eq_true rfl) (Nat.le_of_ble_eq_true rfl) (zGo.v ?_)
  refine e_if_eq (pc := 25) (tgt := 32) d_M_code_25 (by decide) (fun h3 => ?_) (fun h3 => ?_)
  · replace h3 := b0.mp h3
    refine e_iconst (pc := 32) (v := 0) d_M_code_32 (by decide) ?_
    refine e_istore (pc := 33) d_M_code_33 (Nat.le_of_ble_eq_true rfl) ?_
    dsimp only [List.set]
    refine e_iload_n (pc := 35) d_M_code_35 rfl ?_
    refine e_if_eq (pc := 36) (tgt := 54) d_M_code_36 (by decide) (fun _ => ?_) (fun h9 => absurd (by decide) h9)
    refine e_iload (pc := 54) d_M_code_54 rfl ?_
    refine e_cS1 (pc := 56) s_M_code_56 (sp_MisRegister) (Nat.le_of_ble_eq_true rfl) (Nat.le_of_ble_eq_true rfl) (Nat.le_of_ble_eq_true rfl) (zGo.v ?_)
    refine e_goto (pc := 59) (tgt := 85) d_M_code_59 (by decide) ?_
    refine e_istore (pc := 85) d_M_code_85 (Nat.le_of_ble_eq_true rfl) ?_
    dsimp only [List.set]
    refine e_aload_n (pc := 87) d_M_code_87 rfl ?_
    refine e_iload_n (pc := 88) d_M_code_88 rfl ?_
    refine e_if_lt (pc := 89) (tgt := 108) d_M_code_89 (by decide) (fun h9 => absurd h9 (by decide)) (fun _ => ?_)
    refine e_iload_n (pc := 92) d_M_code_92 rfl ?_
    refine e_bipush (pc := 93) (v := 7) d_M_code_93 (by decide) ?_
    refine e_icmp_gt (pc := 95) (tgt := 108) d_M_code_95 (by decide) (fun h9 => absurd h9 (by decide)) (fun _ => ?_)
    refine e_iload (pc := 98) d_M_code_98 rfl ?_
    refine e_if_eq (pc := 100) (tgt := 108) d_M_code_100 (by decide) (fun _ => ?_) (fun h9 => absurd (by decide) h9)
    exact absurd hv (by simp [vB, ← gt15, h3])
  · replace h3 := b1.mp h3
    refine e_iconst (pc := 28) (v := 1) d_M_code_28 (by decide) ?_
    refine e_goto (pc := 29) (tgt := 33) d_M_code_29 (by decide) ?_
    refine e_istore (pc := 33) d_M_code_33 (Nat.le_of_ble_eq_true rfl) ?_
    dsimp only [List.set]
    refine e_iload_n (pc := 35) d_M_code_35 rfl ?_
    refine e_if_eq (pc := 36) (tgt := 54) d_M_code_36 (by decide) (fun _ => ?_) (fun h9 => absurd (by decide) h9)
    refine e_iload (pc := 54) d_M_code_54 rfl ?_
    refine e_cS1 (pc := 56) s_M_code_56 (sp_MisRegister) (Nat.le_of_ble_eq_true rfl) (Nat.le_of_ble_eq_true rfl) (Nat.le_of_ble_eq_true rfl) (zGo.v ?_)
    refine e_goto (pc := 59) (tgt := 85) d_M_code_59 (by decide) ?_
    refine e_istore (pc := 85) d_M_code_85 (Nat.le_of_ble_eq_true rfl) ?_
    dsimp only [List.set]
    refine e_aload_n (pc := 87) d_M_code_87 rfl ?_
    refine e_iload_n (pc := 88) d_M_code_88 rfl ?_
    refine e_if_lt (pc := 89) (tgt := 108) d_M_code_89 (by decide) (fun h9 => absurd h9 (by decide)) (fun _ => ?_)
    refine e_iload_n (pc := 92) d_M_code_92 rfl ?_
    refine e_bipush (pc := 93) (v := 7) d_M_code_93 (by decide) ?_
    refine e_icmp_gt (pc := 95) (tgt := 108) d_M_code_95 (by decide) (fun h9 => absurd h9 (by decide)) (fun _ => ?_)
    refine e_iload (pc := 98) d_M_code_98 rfl ?_
    refine e_if_eq (pc := 100) (tgt := 108) d_M_code_100 (by decide) (fun h9 => absurd h9 (by decide)) (fun _ => ?_)
    refine e_iload (pc := 103) d_M_code_103 rfl ?_
    refine e_if_ne (pc := 105) (tgt := 112) d_M_code_105 (by decide) (fun h4 => ?_) (fun h4 => ?_)
    · replace h4 := b1.mp h4
      refine e_aload_n (pc := 112) d_M_code_112 rfl ?_
      refine e_get (pc := 113) s_M_code_113 rfl rfl ?_
      refine e_iload_n (pc := 116) d_M_code_116 rfl ?_
      refine e_iald (pc := 117) d_M_code_117 rfl (vp_in_nI (by omega) (by decide)) ((fx1 (nI_clamp (by omega))).trans h1) ?_
      refine e_bipush (pc := 118) (v := 16) d_M_code_118 (by decide) ?_
      refine e_icmp_ne (pc := 120) (tgt := 127) d_M_code_120 (by decide) (fun h9 => absurd (rfl) h9) (fun _ => ?_)
      refine e_iconst (pc := 123) (v := 3) d_M_code_123 (by decide) ?_
      refine e_goto (pc := 124) (tgt := 128) d_M_code_124 (by decide) ?_
      refine e_put (pc := 128) s_M_code_128 rfl (Nat.le_of_ble_eq_true rfl) zFit.int wTh ?_
      refine e_aload_n (pc := 131) d_M_code_131 rfl ?_
      refine e_get (pc := 132) s_M_code_132 rfl rfl ?_
      refine e_if_le (pc := 135) (tgt := 140) d_M_code_135 (by decide) (fun h9 => absurd h9 (by decide)) (fun _ => ?_)
      refine e_iconst (pc := 138) (v := 0) d_M_code_138 (by decide) ?_
      exact e_iret (pc := 139) d_M_code_139 rfl rfl (Nat.le_of_ble_eq_true rfl) (Nat.le_of_ble_eq_true rfl) (by simp [h3, h4])
    · replace h4 := b0.mp h4
      exact absurd hv (by simp [vB, ← gt15, h3, h4])
set_option maxHeartbeats 4000000 in
set_option maxRecDepth 100000 in
theorem sM_code0 {l : Launch} {G : zGP} {K : Nat} {S T : St} {th : Int32} {fo : Nat → Int64} {c : Nat} (hc : c < 3) {q : Nat} {a b : Int32} (hq : q < 16) (hv : vB 0 a b = true) (h1 : T 1 c 0 = nI q) : Rn l G m_M_code [.ref 45, .int (nI c), .int (nI 0), .int a, .int b] (hpA K S T th fo) (.inl (some (.int (nI q + 1))), (hpA K S (su (su (su (su T 2 c q (nI 0)) 3 c q a) 4 c q b) 1 c 0 (nI q + 1)) 0 fo)) := by
  refine Rn.of (by decide) rfl rfl (Nat.le_of_ble_eq_true rfl) rfl ?_
  show Ev l G m_M_code 0 [.ref 45, .int (nI c), .int (nI 0), .int a, .int b, .double 0, .double 0, .double 0] [] (hpA K S T th fo) 0 0 _
  refine e_aload_n (pc := 0) d_M_code_0 rfl ?_
  refine e_iload_n (pc := 1) d_M_code_1 rfl ?_
  refine e_cV1 (pc := 2) s_M_code_2 (sM_core hc) rfl rfl rfl (Nat.le_of_ble_eq_true rfl) (Nat.le_of_ble_eq_true rfl) (Nat.le_of_ble_eq_true rfl) (zGo.v ?_)
  refine e_if_ne (pc := 5) (tgt := 10) d_M_code_5 (by decide) (fun _ => ?_) (fun h9 => absurd h9 (by decide))
  refine e_iload_n (pc := 10) d_M_code_10 rfl ?_
  refine e_iconst (pc := 11) (v := 2) d_M_code_11 (by decide) ?_
  refine e_icmp_eq (pc := 12) (tgt := 28) d_M_code_12 (by decide) (fun h9 => absurd h9 (by decide)) (fun _ => ?_)
  refine e_iload_n (pc := 15) d_M_code_15 rfl ?_
  refine e_bipush (pc := 16) (v := 7) d_M_code_16 (by decide) ?_
  refine e_icmp_eq (pc := 18) (tgt := 28) d_M_code_18 (by decide) (fun h9 => absurd h9 (by decide)) (fun _ => ?_)
  refine e_iload_n (pc := 21) d_M_code_21 rfl ?_
  refine e_cS1 (pc := 22) s_M_code_22 (sp_MisRegister) (Nat.le_of_ble_eq_true rfl) (Nat.le_of_ble_eq_true rfl) (Nat.le_of_ble_eq_true rfl) (zGo.v ?_)
  refine e_if_eq (pc := 25) (tgt := 32) d_M_code_25 (by decide) (fun h5 => ?_) (fun h5 => ?_)
  · replace h5 := b0.mp h5
    refine e_iconst (pc := 32) (v := 0) d_M_code_32 (by decide) ?_
    refine e_istore (pc := 33) d_M_code_33 (Nat.le_of_ble_eq_true rfl) ?_
    dsimp only [List.set]
    refine e_iload_n (pc := 35) d_M_code_35 rfl ?_
    refine e_if_eq (pc := 36) (tgt := 54) d_M_code_36 (by decide) (fun _ => ?_) (fun h9 => absurd (by decide) h9)
    refine e_iload (pc := 54) d_M_code_54 rfl ?_
    refine e_cS1 (pc := 56) s_M_code_56 (sp_MisRegister) (Nat.le_of_ble_eq_true rfl) (Nat.le_of_ble_eq_true rfl) (Nat.le_of_ble_eq_true rfl) (zGo.v ?_)
    refine e_goto (pc := 59) (tgt := 85) d_M_code_59 (by decide) ?_
    refine e_istore (pc := 85) d_M_code_85 (Nat.le_of_ble_eq_true rfl) ?_
    dsimp only [List.set]
    refine e_aload_n (pc := 87) d_M_code_87 rfl ?_
    refine e_iload_n (pc := 88) d_M_code_88 rfl ?_
    refine e_if_lt (pc := 89) (tgt := 108) d_M_code_89 (by decide) (fun h9 => absurd h9 (by decide)) (fun _ => ?_)
    refine e_iload_n (pc := 92) d_M_code_92 rfl ?_
    refine e_bipush (pc := 93) (v := 7) d_M_code_93 (by decide) ?_
    refine e_icmp_gt (pc := 95) (tgt := 108) d_M_code_95 (by decide) (fun h9 => absurd h9 (by decide)) (fun _ => ?_)
    refine e_iload (pc := 98) d_M_code_98 rfl ?_
    refine e_if_eq (pc := 100) (tgt := 108) d_M_code_100 (by decide) (fun _ => ?_) (fun h9 => absurd (by decide) h9)
    exact absurd hv (by simp [vB, ← gt15, h5])
  · replace h5 := b1.mp h5
    refine e_iconst (pc := 28) (v := 1) d_M_code_28 (by decide) ?_
    refine e_goto (pc := 29) (tgt := 33) d_M_code_29 (by decide) ?_
    refine e_istore (pc := 33) d_M_code_33 (Nat.le_of_ble_eq_true rfl) ?_
    dsimp only [List.set]
    refine e_iload_n (pc := 35) d_M_code_35 rfl ?_
    refine e_if_eq (pc := 36) (tgt := 54) d_M_code_36 (by decide) (fun _ => ?_) (fun h9 => absurd (by decide) h9)
    refine e_iload (pc := 54) d_M_code_54 rfl ?_
    refine e_cS1 (pc := 56) s_M_code_56 (sp_MisRegister) (Nat.le_of_ble_eq_true rfl) (Nat.le_of_ble_eq_true rfl) (Nat.le_of_ble_eq_true rfl) (zGo.v ?_)
    refine e_goto (pc := 59) (tgt := 85) d_M_code_59 (by decide) ?_
    refine e_istore (pc := 85) d_M_code_85 (Nat.le_of_ble_eq_true rfl) ?_
    dsimp only [List.set]
    refine e_aload_n (pc := 87) d_M_code_87 rfl ?_
    refine e_iload_n (pc := 88) d_M_code_88 rfl ?_
    refine e_if_lt (pc := 89) (tgt := 108) d_M_code_89 (by decide) (fun h9 => absurd h9 (by decide)) (fun _ => ?_)
    refine e_iload_n (pc := 92) d_M_code_92 rfl ?_
    refine e_bipush (pc := 93) (v := 7) d_M_code_93 (by decide) ?_
    refine e_icmp_gt (pc := 95) (tgt := 108) d_M_code_95 (by decide) (fun h9 => absurd h9 (by decide)) (fun _ => ?_)
    refine e_iload (pc := 98) d_M_code_98 rfl ?_
    refine e_if_eq (pc := 100) (tgt := 108) d_M_code_100 (by decide) (fun h9 => absurd h9 (by decide)) (fun _ => ?_)
    refine e_iload (pc := 103) d_M_code_103 rfl ?_
    refine e_if_ne (pc := 105) (tgt := 112) d_M_code_105 (by decide) (fun h6 => ?_) (fun h6 => ?_)
    · replace h6 := b1.mp h6
      refine e_aload_n (pc := 112) d_M_code_112 rfl ?_
      refine e_get (pc := 113) s_M_code_113 rfl rfl ?_
      refine e_iload_n (pc := 116) d_M_code_116 rfl ?_
      refine e_iald (pc := 117) d_M_code_117 rfl (vp_in_nI (by omega) (by decide)) ((fx1 (nI_clamp (by omega))).trans h1) ?_
      refine e_bipush (pc := 118) (v := 16) d_M_code_118 (by decide) ?_
      refine e_icmp_ne (pc := 120) (tgt := 127) d_M_code_120 (by decide) (fun _ => ?_) (fun h9 => absurd h9 (fun q9 => absurd ((nI_eq (b := 16) (by omega) (by decide)).mp q9) (by omega)))
      refine e_iconst (pc := 127) (v := 0) d_M_code_127 (by decide) ?_
      refine e_put (pc := 128) s_M_code_128 rfl (Nat.le_of_ble_eq_true rfl) zFit.int wTh ?_
      refine e_aload_n (pc := 131) d_M_code_131 rfl ?_
      refine e_get (pc := 132) s_M_code_132 rfl rfl ?_
      refine e_if_le (pc := 135) (tgt := 140) d_M_code_135 (by decide) (fun _ => ?_) (fun h9 => absurd (by decide) h9)
      refine e_bipush (pc := 140) (v := 16) d_M_code_140 (by decide) ?_
      refine e_iload_n (pc := 142) d_M_code_142 rfl ?_
      refine e_imul (pc := 143) d_M_code_143 ?_
      refine e_aload_n (pc := 144) d_M_code_144 rfl ?_
      refine e_get (pc := 145) s_M_code_145 rfl rfl ?_
      refine e_iload_n (pc := 148) d_M_code_148 rfl ?_
      refine e_iald (pc := 149) d_M_code_149 rfl (vp_in_nI (by omega) (by decide)) ((fx1 (nI_clamp (by omega))).trans h1) ?_
      refine e_iadd (pc := 150) d_M_code_150 ?_
      refine e_topi (y := nI (16 * c + q)) (ixM 16 c q) ?_
      refine e_istore (pc := 151) d_M_code_151 (Nat.le_of_ble_eq_true rfl) ?_
      dsimp only [List.set]
      refine e_aload_n (pc := 153) d_M_code_153 rfl ?_
      refine e_get (pc := 154) s_M_code_154 rfl rfl ?_
      refine e_iload (pc := 157) d_M_code_157 rfl ?_
      refine e_iload_n (pc := 159) d_M_code_159 rfl ?_
      refine e_iast (pc := 160) d_M_code_160 rfl (vp_in_nI (by omega) (by decide)) (vOp (nI_clamp (by omega)) hq) ?_
      refine e_aload_n (pc := 161) d_M_code_161 rfl ?_
      refine e_get (pc := 162) s_M_code_162 rfl rfl ?_
      refine e_iload (pc := 165) d_M_code_165 rfl ?_
      refine e_iload_n (pc := 167) d_M_code_167 rfl ?_
      refine e_iast (pc := 168) d_M_code_168 rfl (vp_in_nI (by omega) (by decide)) (vAs (nI_clamp (by omega)) hq) ?_
      refine e_aload_n (pc := 169) d_M_code_169 rfl ?_
      refine e_get (pc := 170) s_M_code_170 rfl rfl ?_
      refine e_iload (pc := 173) d_M_code_173 rfl ?_
      refine e_iload (pc := 175) d_M_code_175 rfl ?_
      refine e_iast (pc := 177) d_M_code_177 rfl (vp_in_nI (by omega) (by decide)) (vBs (nI_clamp (by omega)) hq) ?_
      refine e_aload_n (pc := 178) d_M_code_178 rfl ?_
      refine e_get (pc := 179) s_M_code_179 rfl rfl ?_
      refine e_iload_n (pc := 182) d_M_code_182 rfl ?_
      refine e_dup2 (pc := 183) d_M_code_183 rfl rfl ?_
      refine e_iald (pc := 184) d_M_code_184 rfl (vp_in_nI (by omega) (by decide)) ((fx1 (nI_clamp (by omega))).trans h1) ?_
      refine e_iconst (pc := 185) (v := 1) d_M_code_185 (by decide) ?_
      refine e_iadd (pc := 186) d_M_code_186 ?_
      refine e_iast (pc := 187) d_M_code_187 rfl (vp_in_nI (by omega) (by decide)) (vLen (nI_clamp (by omega))) ?_
      refine e_aload_n (pc := 188) d_M_code_188 rfl ?_
      refine e_get (pc := 189) s_M_code_189 rfl rfl ?_
      refine e_iload_n (pc := 192) d_M_code_192 rfl ?_
      refine e_iald (pc := 193) d_M_code_193 rfl (vp_in_nI (by omega) (by decide)) ((fx1 (nI_clamp (by omega))).trans (su_at _ _ _ _ _)) ?_
      exact e_iret (pc := 194) d_M_code_194 rfl rfl (Nat.le_of_ble_eq_true rfl) (Nat.le_of_ble_eq_true rfl) rfl
    · replace h6 := b0.mp h6
      exact absurd hv (by simp [vB, ← gt15, h5, h6])
set_option maxHeartbeats 4000000 in
set_option maxRecDepth 100000 in
theorem sM_codeX1_2 {l : Launch} {G : zGP} {K : Nat} {S T : St} {th : Int32} {fo : Nat → Int64} {c : Nat} (hc : c < 3) {a b : Int32} (hv : vB 1 a b = false) : Rn l G m_M_code [.ref 45, .int (nI c), .int (nI 1), .int a, .int b] (hpA K S T th fo) (.inl (some (.int 0)), (hpA K S T 2 fo)) := by
  refine Rn.of (by decide) rfl rfl (Nat.le_of_ble_eq_true rfl) rfl ?_
  show Ev l G m_M_code 0 [.ref 45, .int (nI c), .int (nI 1), .int a, .int b, .double 0, .double 0, .double 0] [] (hpA K S T th fo) 0 0 _
  refine e_aload_n (pc := 0) d_M_code_0 rfl ?_
  refine e_iload_n (pc := 1) d_M_code_1 rfl ?_
  refine e_cV1 (pc := 2) s_M_code_2 (sM_core hc) rfl rfl rfl (Nat.le_of_ble_eq_true rfl) (Nat.le_of_ble_eq_true rfl) (Nat.le_of_ble_eq_true rfl) (zGo.v ?_)
  refine e_if_ne (pc := 5) (tgt := 10) d_M_code_5 (by decide) (fun _ => ?_) (fun h9 => absurd h9 (by decide))
  refine e_iload_n (pc := 10) d_M_code_10 rfl ?_
  refine e_iconst (pc := 11) (v := 2) d_M_code_11 (by decide) ?_
  refine e_icmp_eq (pc := 12) (tgt := 28) d_M_code_12 (by decide) (fun h9 => absurd h9 (by decide)) (fun _ => ?_)
  refine e_iload_n (pc := 15) d_M_code_15 rfl ?_
  refine e_bipush (pc := 16) (v := 7) d_M_code_16 (by decide) ?_
  refine e_icmp_eq (pc := 18) (tgt := 28) d_M_code_18 (by decide) (fun h9 => absurd h9 (by decide)) (fun _ => ?_)
  refine e_iload_n (pc := 21) d_M_code_21 rfl ?_
  refine e_cS1 (pc := 22) s_M_code_22 (sp_MisRegister) (Nat.le_of_ble_eq_true rfl) (Nat.le_of_ble_eq_true rfl) (Nat.le_of_ble_eq_true rfl) (zGo.v ?_)
  refine e_if_eq (pc := 25) (tgt := 32) d_M_code_25 (by decide) (fun h7 => ?_) (fun h7 => ?_)
  · replace h7 := b0.mp h7
    refine e_iconst (pc := 32) (v := 0) d_M_code_32 (by decide) ?_
    refine e_istore (pc := 33) d_M_code_33 (Nat.le_of_ble_eq_true rfl) ?_
    dsimp only [List.set]
    refine e_iload_n (pc := 35) d_M_code_35 rfl ?_
    refine e_if_eq (pc := 36) (tgt := 54) d_M_code_36 (by decide) (fun h9 => absurd h9 (by decide)) (fun _ => ?_)
    refine e_iload_n (pc := 39) d_M_code_39 rfl ?_
    refine e_iconst (pc := 40) (v := 1) d_M_code_40 (by decide) ?_
    refine e_icmp_eq (pc := 41) (tgt := 54) d_M_code_41 (by decide) (fun _ => ?_) (fun h9 => absurd (by decide) h9)
    refine e_iload (pc := 54) d_M_code_54 rfl ?_
    refine e_cS1 (pc := 56) s_M_code_56 (sp_MisRegister) (Nat.le_of_ble_eq_true rfl) (Nat.le_of_ble_eq_true rfl) (Nat.le_of_ble_eq_true rfl) (zGo.v ?_)
    refine e_goto (pc := 59) (tgt := 85) d_M_code_59 (by decide) ?_
    refine e_istore (pc := 85) d_M_code_85 (Nat.le_of_ble_eq_true rfl) ?_
    dsimp only [List.set]
    refine e_aload_n (pc := 87) d_M_code_87 rfl ?_
    refine e_iload_n (pc := 88) d_M_code_88 rfl ?_
    refine e_if_lt (pc := 89) (tgt := 108) d_M_code_89 (by decide) (fun h9 => absurd h9 (by decide)) (fun _ => ?_)
    refine e_iload_n (pc := 92) d_M_code_92 rfl ?_
    refine e_bipush (pc := 93) (v := 7) d_M_code_93 (by decide) ?_
    refine e_icmp_gt (pc := 95) (tgt := 108) d_M_code_95 (by decide) (fun h9 => absurd h9 (by decide)) (fun _ => ?_)
    refine e_iload (pc := 98) d_M_code_98 rfl ?_
    refine e_if_eq (pc := 100) (tgt := 108) d_M_code_100 (by decide) (fun _ => ?_) (fun h9 => absurd (by decide) h9)
    refine e_iconst (pc := 108) (v := 2) d_M_code_108 (by decide) ?_
    refine e_goto (pc := 109) (tgt := 128) d_M_code_109 (by decide) ?_
    refine e_put (pc := 128) s_M_code_128 rfl (Nat.le_of_ble_eq_true rfl) zFit.int wTh ?_
    refine e_aload_n (pc := 131) d_M_code_131 rfl ?_
    refine e_get (pc := 132) s_M_code_132 rfl rfl ?_
    refine e_if_le (pc := 135) (tgt := 140) d_M_code_135 (by decide) (fun h9 => absurd h9 (by decide)) (fun _ => ?_)
    refine e_iconst (pc := 138) (v := 0) d_M_code_138 (by decide) ?_
    exact e_iret (pc := 139) d_M_code_139 rfl rfl (Nat.le_of_ble_eq_true rfl) (Nat.le_of_ble_eq_true rfl) (by simp [h7])
  · replace h7 := b1.mp h7
    refine e_iconst (pc := 28) (v := 1) d_M_code_28 (by decide) ?_
    refine e_goto (pc := 29) (tgt := 33) d_M_code_29 (by decide) ?_
    refine e_istore (pc := 33) d_M_code_33 (Nat.le_of_ble_eq_true rfl) ?_
    dsimp only [List.set]
    refine e_iload_n (pc := 35) d_M_code_35 rfl ?_
    refine e_if_eq (pc := 36) (tgt := 54) d_M_code_36 (by decide) (fun h9 => absurd h9 (by decide)) (fun _ => ?_)
    refine e_iload_n (pc := 39) d_M_code_39 rfl ?_
    refine e_iconst (pc := 40) (v := 1) d_M_code_40 (by decide) ?_
    refine e_icmp_eq (pc := 41) (tgt := 54) d_M_code_41 (by decide) (fun _ => ?_) (fun h9 => absurd (by decide) h9)
    refine e_iload (pc := 54) d_M_code_54 rfl ?_
    refine e_cS1 (pc := 56) s_M_code_56 (sp_MisRegister) (Nat.le_of_ble_eq_true rfl) (Nat.le_of_ble_eq_true rfl) (Nat.le_of_ble_eq_true rfl) (zGo.v ?_)
    refine e_goto (pc := 59) (tgt := 85) d_M_code_59 (by decide) ?_
    refine e_istore (pc := 85) d_M_code_85 (Nat.le_of_ble_eq_true rfl) ?_
    dsimp only [List.set]
    refine e_aload_n (pc := 87) d_M_code_87 rfl ?_
    refine e_iload_n (pc := 88) d_M_code_88 rfl ?_
    refine e_if_lt (pc := 89) (tgt := 108) d_M_code_89 (by decide) (fun h9 => absurd h9 (by decide)) (fun _ => ?_)
    refine e_iload_n (pc := 92) d_M_code_92 rfl ?_
    refine e_bipush (pc := 93) (v := 7) d_M_code_93 (by decide) ?_
    refine e_icmp_gt (pc := 95) (tgt := 108) d_M_code_95 (by decide) (fun h9 => absurd h9 (by decide)) (fun _ => ?_)
    refine e_iload (pc := 98) d_M_code_98 rfl ?_
    refine e_if_eq (pc := 100) (tgt := 108) d_M_code_100 (by decide) (fun h9 => absurd h9 (by decide)) (fun _ => ?_)
    refine e_iload (pc := 103) d_M_code_103 rfl ?_
    refine e_if_ne (pc := 105) (tgt := 112) d_M_code_105 (by decide) (fun h8 => ?_) (fun h8 => ?_)
    · replace h8 := b1.mp h8
      exact absurd hv (by simp [vB, ← gt15, h7, h8])
    · replace h8 := b0.mp h8
      refine e_iconst (pc := 108) (v := 2) d_M_code_108 (by decide) ?_
      refine e_goto (pc := 109) (tgt := 128) d_M_code_109 (by decide) ?_
      refine e_put (pc := 128) s_M_code_128 rfl (Nat.le_of_ble_eq_true rfl) zFit.int wTh ?_
      refine e_aload_n (pc := 131) d_M_code_131 rfl ?_
      refine e_get (pc := 132) s_M_code_132 rfl rfl ?_
      refine e_if_le (pc := 135) (tgt := 140) d_M_code_135 (by decide) (fun h9 => absurd h9 (by decide)) (fun _ => ?_)
      refine e_iconst (pc := 138) (v := 0) d_M_code_138 (by decide) ?_
      exact e_iret (pc := 139) d_M_code_139 rfl rfl (Nat.le_of_ble_eq_true rfl) (Nat.le_of_ble_eq_true rfl) (by simp [h7, h8])
set_option maxHeartbeats 4000000 in
set_option maxRecDepth 100000 in
theorem sM_codeX1_3 {l : Launch} {G : zGP} {K : Nat} {S T : St} {th : Int32} {fo : Nat → Int64} {c : Nat} (hc : c < 3) {a b : Int32} (hv : vB 1 a b = true) (h1 : T 1 c 0 = 16) : Rn l G m_M_code [.ref 45, .int (nI c), .int (nI 1), .int a, .int b] (hpA K S T th fo) (.inl (some (.int 0)), (hpA K S T 3 fo)) := by
  refine Rn.of (by decide) rfl rfl (Nat.le_of_ble_eq_true rfl) rfl ?_
  show Ev l G m_M_code 0 [.ref 45, .int (nI c), .int (nI 1), .int a, .int b, .double 0, .double 0, .double 0] [] (hpA K S T th fo) 0 0 _
  refine e_aload_n (pc := 0) d_M_code_0 rfl ?_
  refine e_iload_n (pc := 1) d_M_code_1 rfl ?_
  refine e_cV1 (pc := 2) s_M_code_2 (sM_core hc) rfl rfl rfl (Nat.le_of_ble_eq_true rfl) (Nat.le_of_ble_eq_true rfl) (Nat.le_of_ble_eq_true rfl) (zGo.v ?_)
  refine e_if_ne (pc := 5) (tgt := 10) d_M_code_5 (by decide) (fun _ => ?_) (fun h9 => absurd h9 (by decide))
  refine e_iload_n (pc := 10) d_M_code_10 rfl ?_
  refine e_iconst (pc := 11) (v := 2) d_M_code_11 (by decide) ?_
  refine e_icmp_eq (pc := 12) (tgt := 28) d_M_code_12 (by decide) (fun h9 => absurd h9 (by decide)) (fun _ => ?_)
  refine e_iload_n (pc := 15) d_M_code_15 rfl ?_
  refine e_bipush (pc := 16) (v := 7) d_M_code_16 (by decide) ?_
  refine e_icmp_eq (pc := 18) (tgt := 28) d_M_code_18 (by decide) (fun h9 => absurd h9 (by decide)) (fun _ => ?_)
  refine e_iload_n (pc := 21) d_M_code_21 rfl ?_
  refine e_cS1 (pc := 22) s_M_code_22 (sp_MisRegister) (Nat.le_of_ble_eq_true rfl) (Nat.le_of_ble_eq_true rfl) (Nat.le_of_ble_eq_true rfl) (zGo.v ?_)
  refine e_if_eq (pc := 25) (tgt := 32) d_M_code_25 (by decide) (fun h9 => ?_) (fun h9 => ?_)
  · replace h9 := b0.mp h9
    refine e_iconst (pc := 32) (v := 0) d_M_code_32 (by decide) ?_
    refine e_istore (pc := 33) d_M_code_33 (Nat.le_of_ble_eq_true rfl) ?_
    dsimp only [List.set]
    refine e_iload_n (pc := 35) d_M_code_35 rfl ?_
    refine e_if_eq (pc := 36) (tgt := 54) d_M_code_36 (by decide) (fun h9 => absurd h9 (by decide)) (fun _ => ?_)
    refine e_iload_n (pc := 39) d_M_code_39 rfl ?_
    refine e_iconst (pc := 40) (v := 1) d_M_code_40 (by decide) ?_
    refine e_icmp_eq (pc := 41) (tgt := 54) d_M_code_41 (by decide) (fun _ => ?_) (fun h9 => absurd (by decide) h9)
    refine e_iload (pc := 54) d_M_code_54 rfl ?_
    refine e_cS1 (pc := 56) s_M_code_56 (sp_MisRegister) (Nat.le_of_ble_eq_true rfl) (Nat.le_of_ble_eq_true rfl) (Nat.le_of_ble_eq_true rfl) (zGo.v ?_)
    refine e_goto (pc := 59) (tgt := 85) d_M_code_59 (by decide) ?_
    refine e_istore (pc := 85) d_M_code_85 (Nat.le_of_ble_eq_true rfl) ?_
    dsimp only [List.set]
    refine e_aload_n (pc := 87) d_M_code_87 rfl ?_
    refine e_iload_n (pc := 88) d_M_code_88 rfl ?_
    refine e_if_lt (pc := 89) (tgt := 108) d_M_code_89 (by decide) (fun h9 => absurd h9 (by decide)) (fun _ => ?_)
    refine e_iload_n (pc := 92) d_M_code_92 rfl ?_
    refine e_bipush (pc := 93) (v := 7) d_M_code_93 (by decide) ?_
    refine e_icmp_gt (pc := 95) (tgt := 108) d_M_code_95 (by decide) (fun h9 => absurd h9 (by decide)) (fun _ => ?_)
    refine e_iload (pc := 98) d_M_code_98 rfl ?_
    refine e_if_eq (pc := 100) (tgt := 108) d_M_code_100 (by decide) (fun _ => ?_) (fun h9 => absurd (by decide) h9)
    exact absurd hv (by simp [vB, ← gt15, h9])
  · replace h9 := b1.mp h9
    refine e_iconst (pc := 28) (v := 1) d_M_code_28 (by decide) ?_
    refine e_goto (pc := 29) (tgt := 33) d_M_code_29 (by decide) ?_
    refine e_istore (pc := 33) d_M_code_33 (Nat.le_of_ble_eq_true rfl) ?_
    dsimp only [List.set]
    refine e_iload_n (pc := 35) d_M_code_35 rfl ?_
    refine e_if_eq (pc := 36) (tgt := 54) d_M_code_36 (by decide) (fun h9 => absurd h9 (by decide)) (fun _ => ?_)
    refine e_iload_n (pc := 39) d_M_code_39 rfl ?_
    refine e_iconst (pc := 40) (v := 1) d_M_code_40 (by decide) ?_
    refine e_icmp_eq (pc := 41) (tgt := 54) d_M_code_41 (by decide) (fun _ => ?_) (fun h9 => absurd (by decide) h9)
    refine e_iload (pc := 54) d_M_code_54 rfl ?_
    refine e_cS1 (pc := 56) s_M_code_56 (sp_MisRegister) (Nat.le_of_ble_eq_true rfl) (Nat.le_of_ble_eq_true rfl) (Nat.le_of_ble_eq_true rfl) (zGo.v ?_)
    refine e_goto (pc := 59) (tgt := 85) d_M_code_59 (by decide) ?_
    refine e_istore (pc := 85) d_M_code_85 (Nat.le_of_ble_eq_true rfl) ?_
    dsimp only [List.set]
    refine e_aload_n (pc := 87) d_M_code_87 rfl ?_
    refine e_iload_n (pc := 88) d_M_code_88 rfl ?_
    refine e_if_lt (pc := 89) (tgt := 108) d_M_code_89 (by decide) (fun h9 => absurd h9 (by decide)) (fun _ => ?_)
    refine e_iload_n (pc := 92) d_M_code_92 rfl ?_
    refine e_bipush (pc := 93) (v := 7) d_M_code_93 (by decide) ?_
    refine e_icmp_gt (pc := 95) (tgt := 108) d_M_code_95 (by decide) (fun h9 => absurd h9 (by decide)) (fun _ => ?_)
    refine e_iload (pc := 98) d_M_code_98 rfl ?_
    refine e_if_eq (pc := 100) (tgt := 108) d_M_code_100 (by decide) (fun h9 => absurd h9 (by decide)) (fun _ => ?_)
    refine e_iload (pc := 103) d_M_code_103 rfl ?_
    refine e_if_ne (pc := 105) (tgt := 112) d_M_code_105 (by decide) (fun h10 => ?_) (fun h10 => ?_)
    · replace h10 := b1.mp h10
      refine e_aload_n (pc := 112) d_M_code_112 rfl ?_
      refine e_get (pc := 113) s_M_code_113 rfl rfl ?_
      refine e_iload_n (pc := 116) d_M_code_116 rfl ?_
      refine e_iald (pc := 117) d_M_code_117 rfl (vp_in_nI (by omega) (by decide)) ((fx1 (nI_clamp (by omega))).trans h1) ?_
      refine e_bipush (pc := 118) (v := 16) d_M_code_118 (by decide) ?_
      refine e_icmp_ne (pc := 120) (tgt := 127) d_M_code_120 (by decide) (fun h9 => absurd (rfl) h9) (fun _ => ?_)
      refine e_iconst (pc := 123) (v := 3) d_M_code_123 (by decide) ?_
      refine e_goto (pc := 124) (tgt := 128) d_M_code_124 (by decide) ?_
      refine e_put (pc := 128) s_M_code_128 rfl (Nat.le_of_ble_eq_true rfl) zFit.int wTh ?_
      refine e_aload_n (pc := 131) d_M_code_131 rfl ?_
      refine e_get (pc := 132) s_M_code_132 rfl rfl ?_
      refine e_if_le (pc := 135) (tgt := 140) d_M_code_135 (by decide) (fun h9 => absurd h9 (by decide)) (fun _ => ?_)
      refine e_iconst (pc := 138) (v := 0) d_M_code_138 (by decide) ?_
      exact e_iret (pc := 139) d_M_code_139 rfl rfl (Nat.le_of_ble_eq_true rfl) (Nat.le_of_ble_eq_true rfl) (by simp [h9, h10])
    · replace h10 := b0.mp h10
      exact absurd hv (by simp [vB, ← gt15, h9, h10])
set_option maxHeartbeats 4000000 in
set_option maxRecDepth 100000 in
theorem sM_code1 {l : Launch} {G : zGP} {K : Nat} {S T : St} {th : Int32} {fo : Nat → Int64} {c : Nat} (hc : c < 3) {q : Nat} {a b : Int32} (hq : q < 16) (hv : vB 1 a b = true) (h1 : T 1 c 0 = nI q) : Rn l G m_M_code [.ref 45, .int (nI c), .int (nI 1), .int a, .int b] (hpA K S T th fo) (.inl (some (.int (nI q + 1))), (hpA K S (su (su (su (su T 2 c q (nI 1)) 3 c q a) 4 c q b) 1 c 0 (nI q + 1)) 0 fo)) := by
  refine Rn.of (by decide) rfl rfl (Nat.le_of_ble_eq_true rfl) rfl ?_
  show Ev l G m_M_code 0 [.ref 45, .int (nI c), .int (nI 1), .int a, .int b, .double 0, .double 0, .double 0] [] (hpA K S T th fo) 0 0 _
  refine e_aload_n (pc := 0) d_M_code_0 rfl ?_
  refine e_iload_n (pc := 1) d_M_code_1 rfl ?_
  refine e_cV1 (pc := 2) s_M_code_2 (sM_core hc) rfl rfl rfl (Nat.le_of_ble_eq_true rfl) (Nat.le_of_ble_eq_true rfl) (Nat.le_of_ble_eq_true rfl) (zGo.v ?_)
  refine e_if_ne (pc := 5) (tgt := 10) d_M_code_5 (by decide) (fun _ => ?_) (fun h9 => absurd h9 (by decide))
  refine e_iload_n (pc := 10) d_M_code_10 rfl ?_
  refine e_iconst (pc := 11) (v := 2) d_M_code_11 (by decide) ?_
  refine e_icmp_eq (pc := 12) (tgt := 28) d_M_code_12 (by decide) (fun h9 => absurd h9 (by decide)) (fun _ => ?_)
  refine e_iload_n (pc := 15) d_M_code_15 rfl ?_
  refine e_bipush (pc := 16) (v := 7) d_M_code_16 (by decide) ?_
  refine e_icmp_eq (pc := 18) (tgt := 28) d_M_code_18 (by decide) (fun h9 => absurd h9 (by decide)) (fun _ => ?_)
  refine e_iload_n (pc := 21) d_M_code_21 rfl ?_
  refine e_cS1 (pc := 22) s_M_code_22 (sp_MisRegister) (Nat.le_of_ble_eq_true rfl) (Nat.le_of_ble_eq_true rfl) (Nat.le_of_ble_eq_true rfl) (zGo.v ?_)
  refine e_if_eq (pc := 25) (tgt := 32) d_M_code_25 (by decide) (fun h11 => ?_) (fun h11 => ?_)
  · replace h11 := b0.mp h11
    refine e_iconst (pc := 32) (v := 0) d_M_code_32 (by decide) ?_
    refine e_istore (pc := 33) d_M_code_33 (Nat.le_of_ble_eq_true rfl) ?_
    dsimp only [List.set]
    refine e_iload_n (pc := 35) d_M_code_35 rfl ?_
    refine e_if_eq (pc := 36) (tgt := 54) d_M_code_36 (by decide) (fun h9 => absurd h9 (by decide)) (fun _ => ?_)
    refine e_iload_n (pc := 39) d_M_code_39 rfl ?_
    refine e_iconst (pc := 40) (v := 1) d_M_code_40 (by decide) ?_
    refine e_icmp_eq (pc := 41) (tgt := 54) d_M_code_41 (by decide) (fun _ => ?_) (fun h9 => absurd (by decide) h9)
    refine e_iload (pc := 54) d_M_code_54 rfl ?_
    refine e_cS1 (pc := 56) s_M_code_56 (sp_MisRegister) (Nat.le_of_ble_eq_true rfl) (Nat.le_of_ble_eq_true rfl) (Nat.le_of_ble_eq_true rfl) (zGo.v ?_)
    refine e_goto (pc := 59) (tgt := 85) d_M_code_59 (by decide) ?_
    refine e_istore (pc := 85) d_M_code_85 (Nat.le_of_ble_eq_true rfl) ?_
    dsimp only [List.set]
    refine e_aload_n (pc := 87) d_M_code_87 rfl ?_
    refine e_iload_n (pc := 88) d_M_code_88 rfl ?_
    refine e_if_lt (pc := 89) (tgt := 108) d_M_code_89 (by decide) (fun h9 => absurd h9 (by decide)) (fun _ => ?_)
    refine e_iload_n (pc := 92) d_M_code_92 rfl ?_
    refine e_bipush (pc := 93) (v := 7) d_M_code_93 (by decide) ?_
    refine e_icmp_gt (pc := 95) (tgt := 108) d_M_code_95 (by decide) (fun h9 => absurd h9 (by decide)) (fun _ => ?_)
    refine e_iload (pc := 98) d_M_code_98 rfl ?_
    refine e_if_eq (pc := 100) (tgt := 108) d_M_code_100 (by decide) (fun _ => ?_) (fun h9 => absurd (by decide) h9)
    exact absurd hv (by simp [vB, ← gt15, h11])
  · replace h11 := b1.mp h11
    refine e_iconst (pc := 28) (v := 1) d_M_code_28 (by decide) ?_
    refine e_goto (pc := 29) (tgt := 33) d_M_code_29 (by decide) ?_
    refine e_istore (pc := 33) d_M_code_33 (Nat.le_of_ble_eq_true rfl) ?_
    dsimp only [List.set]
    refine e_iload_n (pc := 35) d_M_code_35 rfl ?_
    refine e_if_eq (pc := 36) (tgt := 54) d_M_code_36 (by decide) (fun h9 => absurd h9 (by decide)) (fun _ => ?_)
    refine e_iload_n (pc := 39) d_M_code_39 rfl ?_
    refine e_iconst (pc := 40) (v := 1) d_M_code_40 (by decide) ?_
    refine e_icmp_eq (pc := 41) (tgt := 54) d_M_code_41 (by decide) (fun _ => ?_) (fun h9 => absurd (by decide) h9)
    refine e_iload (pc := 54) d_M_code_54 rfl ?_
    refine e_cS1 (pc := 56) s_M_code_56 (sp_MisRegister) (Nat.le_of_ble_eq_true rfl) (Nat.le_of_ble_eq_true rfl) (Nat.le_of_ble_eq_true rfl) (zGo.v ?_)
    refine e_goto (pc := 59) (tgt := 85) d_M_code_59 (by decide) ?_
    refine e_istore (pc := 85) d_M_code_85 (Nat.le_of_ble_eq_true rfl) ?_
    dsimp only [List.set]
    refine e_aload_n (pc := 87) d_M_code_87 rfl ?_
    refine e_iload_n (pc := 88) d_M_code_88 rfl ?_
    refine e_if_lt (pc := 89) (tgt := 108) d_M_code_89 (by decide) (fun h9 => absurd h9 (by decide)) (fun _ => ?_)
    refine e_iload_n (pc := 92) d_M_code_92 rfl ?_
    refine e_bipush (pc := 93) (v := 7) d_M_code_93 (by decide) ?_
    refine e_icmp_gt (pc := 95) (tgt := 108) d_M_code_95 (by decide) (fun h9 => absurd h9 (by decide)) (fun _ => ?_)
    refine e_iload (pc := 98) d_M_code_98 rfl ?_
    refine e_if_eq (pc := 100) (tgt := 108) d_M_code_100 (by decide) (fun h9 => absurd h9 (by decide)) (fun _ => ?_)
    refine e_iload (pc := 103) d_M_code_103 rfl ?_
    refine e_if_ne (pc := 105) (tgt := 112) d_M_code_105 (by decide) (fun h12 => ?_) (fun h12 => ?_)
    · replace h12 := b1.mp h12
      refine e_aload_n (pc := 112) d_M_code_112 rfl ?_
      refine e_get (pc := 113) s_M_code_113 rfl rfl ?_
      refine e_iload_n (pc := 116) d_M_code_116 rfl ?_
      refine e_iald (pc := 117) d_M_code_117 rfl (vp_in_nI (by omega) (by decide)) ((fx1 (nI_clamp (by omega))).trans h1) ?_
      refine e_bipush (pc := 118) (v := 16) d_M_code_118 (by decide) ?_
      refine e_icmp_ne (pc := 120) (tgt := 127) d_M_code_120 (by decide) (fun _ => ?_) (fun h9 => absurd h9 (fun q9 => absurd ((nI_eq (b := 16) (by omega) (by decide)).mp q9) (by omega)))
      refine e_iconst (pc := 127) (v := 0) d_M_code_127 (by decide) ?_
      refine e_put (pc := 128) s_M_code_128 rfl (Nat.le_of_ble_eq_true rfl) zFit.int wTh ?_
      refine e_aload_n (pc := 131) d_M_code_131 rfl ?_
      refine e_get (pc := 132) s_M_code_132 rfl rfl ?_
      refine e_if_le (pc := 135) (tgt := 140) d_M_code_135 (by decide) (fun _ => ?_) (fun h9 => absurd (by decide) h9)
      refine e_bipush (pc := 140) (v := 16) d_M_code_140 (by decide) ?_
      refine e_iload_n (pc := 142) d_M_code_142 rfl ?_
      refine e_imul (pc := 143) d_M_code_143 ?_
      refine e_aload_n (pc := 144) d_M_code_144 rfl ?_
      refine e_get (pc := 145) s_M_code_145 rfl rfl ?_
      refine e_iload_n (pc := 148) d_M_code_148 rfl ?_
      refine e_iald (pc := 149) d_M_code_149 rfl (vp_in_nI (by omega) (by decide)) ((fx1 (nI_clamp (by omega))).trans h1) ?_
      refine e_iadd (pc := 150) d_M_code_150 ?_
      refine e_topi (y := nI (16 * c + q)) (ixM 16 c q) ?_
      refine e_istore (pc := 151) d_M_code_151 (Nat.le_of_ble_eq_true rfl) ?_
      dsimp only [List.set]
      refine e_aload_n (pc := 153) d_M_code_153 rfl ?_
      refine e_get (pc := 154) s_M_code_154 rfl rfl ?_
      refine e_iload (pc := 157) d_M_code_157 rfl ?_
      refine e_iload_n (pc := 159) d_M_code_159 rfl ?_
      refine e_iast (pc := 160) d_M_code_160 rfl (vp_in_nI (by omega) (by decide)) (vOp (nI_clamp (by omega)) hq) ?_
      refine e_aload_n (pc := 161) d_M_code_161 rfl ?_
      refine e_get (pc := 162) s_M_code_162 rfl rfl ?_
      refine e_iload (pc := 165) d_M_code_165 rfl ?_
      refine e_iload_n (pc := 167) d_M_code_167 rfl ?_
      refine e_iast (pc := 168) d_M_code_168 rfl (vp_in_nI (by omega) (by decide)) (vAs (nI_clamp (by omega)) hq) ?_
      refine e_aload_n (pc := 169) d_M_code_169 rfl ?_
      refine e_get (pc := 170) s_M_code_170 rfl rfl ?_
      refine e_iload (pc := 173) d_M_code_173 rfl ?_
      refine e_iload (pc := 175) d_M_code_175 rfl ?_
      refine e_iast (pc := 177) d_M_code_177 rfl (vp_in_nI (by omega) (by decide)) (vBs (nI_clamp (by omega)) hq) ?_
      refine e_aload_n (pc := 178) d_M_code_178 rfl ?_
      refine e_get (pc := 179) s_M_code_179 rfl rfl ?_
      refine e_iload_n (pc := 182) d_M_code_182 rfl ?_
      refine e_dup2 (pc := 183) d_M_code_183 rfl rfl ?_
      refine e_iald (pc := 184) d_M_code_184 rfl (vp_in_nI (by omega) (by decide)) ((fx1 (nI_clamp (by omega))).trans h1) ?_
      refine e_iconst (pc := 185) (v := 1) d_M_code_185 (by decide) ?_
      refine e_iadd (pc := 186) d_M_code_186 ?_
      refine e_iast (pc := 187) d_M_code_187 rfl (vp_in_nI (by omega) (by decide)) (vLen (nI_clamp (by omega))) ?_
      refine e_aload_n (pc := 188) d_M_code_188 rfl ?_
      refine e_get (pc := 189) s_M_code_189 rfl rfl ?_
      refine e_iload_n (pc := 192) d_M_code_192 rfl ?_
      refine e_iald (pc := 193) d_M_code_193 rfl (vp_in_nI (by omega) (by decide)) ((fx1 (nI_clamp (by omega))).trans (su_at _ _ _ _ _)) ?_
      exact e_iret (pc := 194) d_M_code_194 rfl rfl (Nat.le_of_ble_eq_true rfl) (Nat.le_of_ble_eq_true rfl) rfl
    · replace h12 := b0.mp h12
      exact absurd hv (by simp [vB, ← gt15, h11, h12])
set_option maxHeartbeats 4000000 in
set_option maxRecDepth 100000 in
theorem sM_codeX2_2 {l : Launch} {G : zGP} {K : Nat} {S T : St} {th : Int32} {fo : Nat → Int64} {c : Nat} (hc : c < 3) {a b : Int32} (hv : vB 2 a b = false) : Rn l G m_M_code [.ref 45, .int (nI c), .int (nI 2), .int a, .int b] (hpA K S T th fo) (.inl (some (.int 0)), (hpA K S T 2 fo)) := by
  refine Rn.of (by decide) rfl rfl (Nat.le_of_ble_eq_true rfl) rfl ?_
  show Ev l G m_M_code 0 [.ref 45, .int (nI c), .int (nI 2), .int a, .int b, .double 0, .double 0, .double 0] [] (hpA K S T th fo) 0 0 _
  refine e_aload_n (pc := 0) d_M_code_0 rfl ?_
  refine e_iload_n (pc := 1) d_M_code_1 rfl ?_
  refine e_cV1 (pc := 2) s_M_code_2 (sM_core hc) rfl rfl rfl (Nat.le_of_ble_eq_true rfl) (Nat.le_of_ble_eq_true rfl) (Nat.le_of_ble_eq_true rfl) (zGo.v ?_)
  refine e_if_ne (pc := 5) (tgt := 10) d_M_code_5 (by decide) (fun _ => ?_) (fun h9 => absurd h9 (by decide))
  refine e_iload_n (pc := 10) d_M_code_10 rfl ?_
  refine e_iconst (pc := 11) (v := 2) d_M_code_11 (by decide) ?_
  refine e_icmp_eq (pc := 12) (tgt := 28) d_M_code_12 (by decide) (fun _ => ?_) (fun h9 => absurd (by decide) h9)
  refine e_iconst (pc := 28) (v := 1) d_M_code_28 (by decide) ?_
  refine e_goto (pc := 29) (tgt := 33) d_M_code_29 (by decide) ?_
  refine e_istore (pc := 33) d_M_code_33 (Nat.le_of_ble_eq_true rfl) ?_
  dsimp only [List.set]
  refine e_iload_n (pc := 35) d_M_code_35 rfl ?_
  refine e_if_eq (pc := 36) (tgt := 54) d_M_code_36 (by decide) (fun h9 => absurd h9 (by decide)) (fun _ => ?_)
  refine e_iload_n (pc := 39) d_M_code_39 rfl ?_
  refine e_iconst (pc := 40) (v := 1) d_M_code_40 (by decide) ?_
  refine e_icmp_eq (pc := 41) (tgt := 54) d_M_code_41 (by decide) (fun h9 => absurd h9 (by decide)) (fun _ => ?_)
  refine e_iload_n (pc := 44) d_M_code_44 rfl ?_
  refine e_iconst (pc := 45) (v := 3) d_M_code_45 (by decide) ?_
  refine e_icmp_eq (pc := 46) (tgt := 54) d_M_code_46 (by decide) (fun h9 => absurd h9 (by decide)) (fun _ => ?_)
  refine e_iload_n (pc := 49) d_M_code_49 rfl ?_
  refine e_iconst (pc := 50) (v := 4) d_M_code_50 (by decide) ?_
  refine e_icmp_ne (pc := 51) (tgt := 62) d_M_code_51 (by decide) (fun _ => ?_) (fun h9 => absurd h9 (by decide))
  refine e_iload_n (pc := 62) d_M_code_62 rfl ?_
  refine e_bipush (pc := 63) (v := 6) d_M_code_63 (by decide) ?_
  refine e_icmp_ne (pc := 65) (tgt := 80) d_M_code_65 (by decide) (fun _ => ?_) (fun h9 => absurd h9 (by decide))
  refine e_iconst (pc := 80) (v := 1) d_M_code_80 (by decide) ?_
  refine e_goto (pc := 81) (tgt := 85) d_M_code_81 (by decide) ?_
  refine e_istore (pc := 85) d_M_code_85 (Nat.le_of_ble_eq_true rfl) ?_
  dsimp only [List.set]
  refine e_aload_n (pc := 87) d_M_code_87 rfl ?_
  refine e_iload_n (pc := 88) d_M_code_88 rfl ?_
  refine e_if_lt (pc := 89) (tgt := 108) d_M_code_89 (by decide) (fun h9 => absurd h9 (by decide)) (fun _ => ?_)
  refine e_iload_n (pc := 92) d_M_code_92 rfl ?_
  refine e_bipush (pc := 93) (v := 7) d_M_code_93 (by decide) ?_
  refine e_icmp_gt (pc := 95) (tgt := 108) d_M_code_95 (by decide) (fun h9 => absurd h9 (by decide)) (fun _ => ?_)
  refine e_iload (pc := 98) d_M_code_98 rfl ?_
  refine e_if_eq (pc := 100) (tgt := 108) d_M_code_100 (by decide) (fun h9 => absurd h9 (by decide)) (fun _ => ?_)
  refine e_iload (pc := 103) d_M_code_103 rfl ?_
  refine e_if_ne (pc := 105) (tgt := 112) d_M_code_105 (by decide) (fun _ => ?_) (fun h9 => absurd h9 (by decide))
  exact absurd hv (by simp [vB, ← gt15, ])
set_option maxHeartbeats 4000000 in
set_option maxRecDepth 100000 in
theorem sM_codeX2_3 {l : Launch} {G : zGP} {K : Nat} {S T : St} {th : Int32} {fo : Nat → Int64} {c : Nat} (hc : c < 3) {a b : Int32} (hv : vB 2 a b = true) (h1 : T 1 c 0 = 16) : Rn l G m_M_code [.ref 45, .int (nI c), .int (nI 2), .int a, .int b] (hpA K S T th fo) (.inl (some (.int 0)), (hpA K S T 3 fo)) := by
  refine Rn.of (by decide) rfl rfl (Nat.le_of_ble_eq_true rfl) rfl ?_
  show Ev l G m_M_code 0 [.ref 45, .int (nI c), .int (nI 2), .int a, .int b, .double 0, .double 0, .double 0] [] (hpA K S T th fo) 0 0 _
  refine e_aload_n (pc := 0) d_M_code_0 rfl ?_
  refine e_iload_n (pc := 1) d_M_code_1 rfl ?_
  refine e_cV1 (pc := 2) s_M_code_2 (sM_core hc) rfl rfl rfl (Nat.le_of_ble_eq_true rfl) (Nat.le_of_ble_eq_true rfl) (Nat.le_of_ble_eq_true rfl) (zGo.v ?_)
  refine e_if_ne (pc := 5) (tgt := 10) d_M_code_5 (by decide) (fun _ => ?_) (fun h9 => absurd h9 (by decide))
  refine e_iload_n (pc := 10) d_M_code_10 rfl ?_
  refine e_iconst (pc := 11) (v := 2) d_M_code_11 (by decide) ?_
  refine e_icmp_eq (pc := 12) (tgt := 28) d_M_code_12 (by decide) (fun _ => ?_) (fun h9 => absurd (by decide) h9)
  refine e_iconst (pc := 28) (v := 1) d_M_code_28 (by decide) ?_
  refine e_goto (pc := 29) (tgt := 33) d_M_code_29 (by decide) ?_
  refine e_istore (pc := 33) d_M_code_33 (Nat.le_of_ble_eq_true rfl) ?_
  dsimp only [List.set]
  refine e_iload_n (pc := 35) d_M_code_35 rfl ?_
  refine e_if_eq (pc := 36) (tgt := 54) d_M_code_36 (by decide) (fun h9 => absurd h9 (by decide)) (fun _ => ?_)
  refine e_iload_n (pc := 39) d_M_code_39 rfl ?_
  refine e_iconst (pc := 40) (v := 1) d_M_code_40 (by decide) ?_
  refine e_icmp_eq (pc := 41) (tgt := 54) d_M_code_41 (by decide) (fun h9 => absurd h9 (by decide)) (fun _ => ?_)
  refine e_iload_n (pc := 44) d_M_code_44 rfl ?_
  refine e_iconst (pc := 45) (v := 3) d_M_code_45 (by decide) ?_
  refine e_icmp_eq (pc := 46) (tgt := 54) d_M_code_46 (by decide) (fun h9 => absurd h9 (by decide)) (fun _ => ?_)
  refine e_iload_n (pc := 49) d_M_code_49 rfl ?_
  refine e_iconst (pc := 50) (v := 4) d_M_code_50 (by decide) ?_
  refine e_icmp_ne (pc := 51) (tgt := 62) d_M_code_51 (by decide) (fun _ => ?_) (fun h9 => absurd h9 (by decide))
  refine e_iload_n (pc := 62) d_M_code_62 rfl ?_
  refine e_bipush (pc := 63) (v := 6) d_M_code_63 (by decide) ?_
  refine e_icmp_ne (pc := 65) (tgt := 80) d_M_code_65 (by decide) (fun _ => ?_) (fun h9 => absurd h9 (by decide))
  refine e_iconst (pc := 80) (v := 1) d_M_code_80 (by decide) ?_
  refine e_goto (pc := 81) (tgt := 85) d_M_code_81 (by decide) ?_
  refine e_istore (pc := 85) d_M_code_85 (Nat.le_of_ble_eq_true rfl) ?_
  dsimp only [List.set]
  refine e_aload_n (pc := 87) d_M_code_87 rfl ?_
  refine e_iload_n (pc := 88) d_M_code_88 rfl ?_
  refine e_if_lt (pc := 89) (tgt := 108) d_M_code_89 (by decide) (fun h9 => absurd h9 (by decide)) (fun _ => ?_)
  refine e_iload_n (pc := 92) d_M_code_92 rfl ?_
  refine e_bipush (pc := 93) (v := 7) d_M_code_93 (by decide) ?_
  refine e_icmp_gt (pc := 95) (tgt := 108) d_M_code_95 (by decide) (fun h9 => absurd h9 (by decide)) (fun _ => ?_)
  refine e_iload (pc := 98) d_M_code_98 rfl ?_
  refine e_if_eq (pc := 100) (tgt := 108) d_M_code_100 (by decide) (fun h9 => absurd h9 (by decide)) (fun _ => ?_)
  refine e_iload (pc := 103) d_M_code_103 rfl ?_
  refine e_if_ne (pc := 105) (tgt := 112) d_M_code_105 (by decide) (fun _ => ?_) (fun h9 => absurd h9 (by decide))
  refine e_aload_n (pc := 112) d_M_code_112 rfl ?_
  refine e_get (pc := 113) s_M_code_113 rfl rfl ?_
  refine e_iload_n (pc := 116) d_M_code_116 rfl ?_
  refine e_iald (pc := 117) d_M_code_117 rfl (vp_in_nI (by omega) (by decide)) ((fx1 (nI_clamp (by omega))).trans h1) ?_
  refine e_bipush (pc := 118) (v := 16) d_M_code_118 (by decide) ?_
  refine e_icmp_ne (pc := 120) (tgt := 127) d_M_code_120 (by decide) (fun h9 => absurd (rfl) h9) (fun _ => ?_)
  refine e_iconst (pc := 123) (v := 3) d_M_code_123 (by decide) ?_
  refine e_goto (pc := 124) (tgt := 128) d_M_code_124 (by decide) ?_
  refine e_put (pc := 128) s_M_code_128 rfl (Nat.le_of_ble_eq_true rfl) zFit.int wTh ?_
  refine e_aload_n (pc := 131) d_M_code_131 rfl ?_
  refine e_get (pc := 132) s_M_code_132 rfl rfl ?_
  refine e_if_le (pc := 135) (tgt := 140) d_M_code_135 (by decide) (fun h9 => absurd h9 (by decide)) (fun _ => ?_)
  refine e_iconst (pc := 138) (v := 0) d_M_code_138 (by decide) ?_
  exact e_iret (pc := 139) d_M_code_139 rfl rfl (Nat.le_of_ble_eq_true rfl) (Nat.le_of_ble_eq_true rfl) rfl
set_option maxHeartbeats 4000000 in
set_option maxRecDepth 100000 in
theorem sM_code2 {l : Launch} {G : zGP} {K : Nat} {S T : St} {th : Int32} {fo : Nat → Int64} {c : Nat} (hc : c < 3) {q : Nat} {a b : Int32} (hq : q < 16) (hv : vB 2 a b = true) (h1 : T 1 c 0 = nI q) : Rn l G m_M_code [.ref 45, .int (nI c), .int (nI 2), .int a, .int b] (hpA K S T th fo) (.inl (some (.int (nI q + 1))), (hpA K S (su (su (su (su T 2 c q (nI 2)) 3 c q a) 4 c q b) 1 c 0 (nI q + 1)) 0 fo)) := by
  refine Rn.of (by decide) rfl rfl (Nat.le_of_ble_eq_true rfl) rfl ?_
  show Ev l G m_M_code 0 [.ref 45, .int (nI c), .int (nI 2), .int a, .int b, .double 0, .double 0, .double 0] [] (hpA K S T th fo) 0 0 _
  refine e_aload_n (pc := 0) d_M_code_0 rfl ?_
  refine e_iload_n (pc := 1) d_M_code_1 rfl ?_
  refine e_cV1 (pc := 2) s_M_code_2 (sM_core hc) rfl rfl rfl (Nat.le_of_ble_eq_true rfl) (Nat.le_of_ble_eq_true rfl) (Nat.le_of_ble_eq_true rfl) (zGo.v ?_)
  refine e_if_ne (pc := 5) (tgt := 10) d_M_code_5 (by decide) (fun _ => ?_) (fun h9 => absurd h9 (by decide))
  refine e_iload_n (pc := 10) d_M_code_10 rfl ?_
  refine e_iconst (pc := 11) (v := 2) d_M_code_11 (by decide) ?_
  refine e_icmp_eq (pc := 12) (tgt := 28) d_M_code_12 (by decide) (fun _ => ?_) (fun h9 => absurd (by decide) h9)
  refine e_iconst (pc := 28) (v := 1) d_M_code_28 (by decide) ?_
  refine e_goto (pc := 29) (tgt := 33) d_M_code_29 (by decide) ?_
  refine e_istore (pc := 33) d_M_code_33 (Nat.le_of_ble_eq_true rfl) ?_
  dsimp only [List.set]
  refine e_iload_n (pc := 35) d_M_code_35 rfl ?_
  refine e_if_eq (pc := 36) (tgt := 54) d_M_code_36 (by decide) (fun h9 => absurd h9 (by decide)) (fun _ => ?_)
  refine e_iload_n (pc := 39) d_M_code_39 rfl ?_
  refine e_iconst (pc := 40) (v := 1) d_M_code_40 (by decide) ?_
  refine e_icmp_eq (pc := 41) (tgt := 54) d_M_code_41 (by decide) (fun h9 => absurd h9 (by decide)) (fun _ => ?_)
  refine e_iload_n (pc := 44) d_M_code_44 rfl ?_
  refine e_iconst (pc := 45) (v := 3) d_M_code_45 (by decide) ?_
  refine e_icmp_eq (pc := 46) (tgt := 54) d_M_code_46 (by decide) (fun h9 => absurd h9 (by decide)) (fun _ => ?_)
  refine e_iload_n (pc := 49) d_M_code_49 rfl ?_
  refine e_iconst (pc := 50) (v := 4) d_M_code_50 (by decide) ?_
  refine e_icmp_ne (pc := 51) (tgt := 62) d_M_code_51 (by decide) (fun _ => ?_) (fun h9 => absurd h9 (by decide))
  refine e_iload_n (pc := 62) d_M_code_62 rfl ?_
  refine e_bipush (pc := 63) (v := 6) d_M_code_63 (by decide) ?_
  refine e_icmp_ne (pc := 65) (tgt := 80) d_M_code_65 (by decide) (fun _ => ?_) (fun h9 => absurd h9 (by decide))
  refine e_iconst (pc := 80) (v := 1) d_M_code_80 (by decide) ?_
  refine e_goto (pc := 81) (tgt := 85) d_M_code_81 (by decide) ?_
  refine e_istore (pc := 85) d_M_code_85 (Nat.le_of_ble_eq_true rfl) ?_
  dsimp only [List.set]
  refine e_aload_n (pc := 87) d_M_code_87 rfl ?_
  refine e_iload_n (pc := 88) d_M_code_88 rfl ?_
  refine e_if_lt (pc := 89) (tgt := 108) d_M_code_89 (by decide) (fun h9 => absurd h9 (by decide)) (fun _ => ?_)
  refine e_iload_n (pc := 92) d_M_code_92 rfl ?_
  refine e_bipush (pc := 93) (v := 7) d_M_code_93 (by decide) ?_
  refine e_icmp_gt (pc := 95) (tgt := 108) d_M_code_95 (by decide) (fun h9 => absurd h9 (by decide)) (fun _ => ?_)
  refine e_iload (pc := 98) d_M_code_98 rfl ?_
  refine e_if_eq (pc := 100) (tgt := 108) d_M_code_100 (by decide) (fun h9 => absurd h9 (by decide)) (fun _ => ?_)
  refine e_iload (pc := 103) d_M_code_103 rfl ?_
  refine e_if_ne (pc := 105) (tgt := 112) d_M_code_105 (by decide) (fun _ => ?_) (fun h9 => absurd h9 (by decide))
  refine e_aload_n (pc := 112) d_M_code_112 rfl ?_
  refine e_get (pc := 113) s_M_code_113 rfl rfl ?_
  refine e_iload_n (pc := 116) d_M_code_116 rfl ?_
  refine e_iald (pc := 117) d_M_code_117 rfl (vp_in_nI (by omega) (by decide)) ((fx1 (nI_clamp (by omega))).trans h1) ?_
  refine e_bipush (pc := 118) (v := 16) d_M_code_118 (by decide) ?_
  refine e_icmp_ne (pc := 120) (tgt := 127) d_M_code_120 (by decide) (fun _ => ?_) (fun h9 => absurd h9 (fun q9 => absurd ((nI_eq (b := 16) (by omega) (by decide)).mp q9) (by omega)))
  refine e_iconst (pc := 127) (v := 0) d_M_code_127 (by decide) ?_
  refine e_put (pc := 128) s_M_code_128 rfl (Nat.le_of_ble_eq_true rfl) zFit.int wTh ?_
  refine e_aload_n (pc := 131) d_M_code_131 rfl ?_
  refine e_get (pc := 132) s_M_code_132 rfl rfl ?_
  refine e_if_le (pc := 135) (tgt := 140) d_M_code_135 (by decide) (fun _ => ?_) (fun h9 => absurd (by decide) h9)
  refine e_bipush (pc := 140) (v := 16) d_M_code_140 (by decide) ?_
  refine e_iload_n (pc := 142) d_M_code_142 rfl ?_
  refine e_imul (pc := 143) d_M_code_143 ?_
  refine e_aload_n (pc := 144) d_M_code_144 rfl ?_
  refine e_get (pc := 145) s_M_code_145 rfl rfl ?_
  refine e_iload_n (pc := 148) d_M_code_148 rfl ?_
  refine e_iald (pc := 149) d_M_code_149 rfl (vp_in_nI (by omega) (by decide)) ((fx1 (nI_clamp (by omega))).trans h1) ?_
  refine e_iadd (pc := 150) d_M_code_150 ?_
  refine e_topi (y := nI (16 * c + q)) (ixM 16 c q) ?_
  refine e_istore (pc := 151) d_M_code_151 (Nat.le_of_ble_eq_true rfl) ?_
  dsimp only [List.set]
  refine e_aload_n (pc := 153) d_M_code_153 rfl ?_
  refine e_get (pc := 154) s_M_code_154 rfl rfl ?_
  refine e_iload (pc := 157) d_M_code_157 rfl ?_
  refine e_iload_n (pc := 159) d_M_code_159 rfl ?_
  refine e_iast (pc := 160) d_M_code_160 rfl (vp_in_nI (by omega) (by decide)) (vOp (nI_clamp (by omega)) hq) ?_
  refine e_aload_n (pc := 161) d_M_code_161 rfl ?_
  refine e_get (pc := 162) s_M_code_162 rfl rfl ?_
  refine e_iload (pc := 165) d_M_code_165 rfl ?_
  refine e_iload_n (pc := 167) d_M_code_167 rfl ?_
  refine e_iast (pc := 168) d_M_code_168 rfl (vp_in_nI (by omega) (by decide)) (vAs (nI_clamp (by omega)) hq) ?_
  refine e_aload_n (pc := 169) d_M_code_169 rfl ?_
  refine e_get (pc := 170) s_M_code_170 rfl rfl ?_
  refine e_iload (pc := 173) d_M_code_173 rfl ?_
  refine e_iload (pc := 175) d_M_code_175 rfl ?_
  refine e_iast (pc := 177) d_M_code_177 rfl (vp_in_nI (by omega) (by decide)) (vBs (nI_clamp (by omega)) hq) ?_
  refine e_aload_n (pc := 178) d_M_code_178 rfl ?_
  refine e_get (pc := 179) s_M_code_179 rfl rfl ?_
  refine e_iload_n (pc := 182) d_M_code_182 rfl ?_
  refine e_dup2 (pc := 183) d_M_code_183 rfl rfl ?_
  refine e_iald (pc := 184) d_M_code_184 rfl (vp_in_nI (by omega) (by decide)) ((fx1 (nI_clamp (by omega))).trans h1) ?_
  refine e_iconst (pc := 185) (v := 1) d_M_code_185 (by decide) ?_
  refine e_iadd (pc := 186) d_M_code_186 ?_
  refine e_iast (pc := 187) d_M_code_187 rfl (vp_in_nI (by omega) (by decide)) (vLen (nI_clamp (by omega))) ?_
  refine e_aload_n (pc := 188) d_M_code_188 rfl ?_
  refine e_get (pc := 189) s_M_code_189 rfl rfl ?_
  refine e_iload_n (pc := 192) d_M_code_192 rfl ?_
  refine e_iald (pc := 193) d_M_code_193 rfl (vp_in_nI (by omega) (by decide)) ((fx1 (nI_clamp (by omega))).trans (su_at _ _ _ _ _)) ?_
  exact e_iret (pc := 194) d_M_code_194 rfl rfl (Nat.le_of_ble_eq_true rfl) (Nat.le_of_ble_eq_true rfl) rfl
set_option maxHeartbeats 4000000 in
set_option maxRecDepth 100000 in
theorem sM_codeX3_2 {l : Launch} {G : zGP} {K : Nat} {S T : St} {th : Int32} {fo : Nat → Int64} {c : Nat} (hc : c < 3) {a b : Int32} (hv : vB 3 a b = false) : Rn l G m_M_code [.ref 45, .int (nI c), .int (nI 3), .int a, .int b] (hpA K S T th fo) (.inl (some (.int 0)), (hpA K S T 2 fo)) := by
  refine Rn.of (by decide) rfl rfl (Nat.le_of_ble_eq_true rfl) rfl ?_
  show Ev l G m_M_code 0 [.ref 45, .int (nI c), .int (nI 3), .int a, .int b, .double 0, .double 0, .double 0] [] (hpA K S T th fo) 0 0 _
  refine e_aload_n (pc := 0) d_M_code_0 rfl ?_
  refine e_iload_n (pc := 1) d_M_code_1 rfl ?_
  refine e_cV1 (pc := 2) s_M_code_2 (sM_core hc) rfl rfl rfl (Nat.le_of_ble_eq_true rfl) (Nat.le_of_ble_eq_true rfl) (Nat.le_of_ble_eq_true rfl) (zGo.v ?_)
  refine e_if_ne (pc := 5) (tgt := 10) d_M_code_5 (by decide) (fun _ => ?_) (fun h9 => absurd h9 (by decide))
  refine e_iload_n (pc := 10) d_M_code_10 rfl ?_
  refine e_iconst (pc := 11) (v := 2) d_M_code_11 (by decide) ?_
  refine e_icmp_eq (pc := 12) (tgt := 28) d_M_code_12 (by decide) (fun h9 => absurd h9 (by decide)) (fun _ => ?_)
  refine e_iload_n (pc := 15) d_M_code_15 rfl ?_
  refine e_bipush (pc := 16) (v := 7) d_M_code_16 (by decide) ?_
  refine e_icmp_eq (pc := 18) (tgt := 28) d_M_code_18 (by decide) (fun h9 => absurd h9 (by decide)) (fun _ => ?_)
  refine e_iload_n (pc := 21) d_M_code_21 rfl ?_
  refine e_cS1 (pc := 22) s_M_code_22 (sp_MisRegister) (Nat.le_of_ble_eq_true rfl) (Nat.le_of_ble_eq_true rfl) (Nat.le_of_ble_eq_true rfl) (zGo.v ?_)
  refine e_if_eq (pc := 25) (tgt := 32) d_M_code_25 (by decide) (fun h13 => ?_) (fun h13 => ?_)
  · replace h13 := b0.mp h13
    refine e_iconst (pc := 32) (v := 0) d_M_code_32 (by decide) ?_
    refine e_istore (pc := 33) d_M_code_33 (Nat.le_of_ble_eq_true rfl) ?_
    dsimp only [List.set]
    refine e_iload_n (pc := 35) d_M_code_35 rfl ?_
    refine e_if_eq (pc := 36) (tgt := 54) d_M_code_36 (by decide) (fun h9 => absurd h9 (by decide)) (fun _ => ?_)
    refine e_iload_n (pc := 39) d_M_code_39 rfl ?_
    refine e_iconst (pc := 40) (v := 1) d_M_code_40 (by decide) ?_
    refine e_icmp_eq (pc := 41) (tgt := 54) d_M_code_41 (by decide) (fun h9 => absurd h9 (by decide)) (fun _ => ?_)
    refine e_iload_n (pc := 44) d_M_code_44 rfl ?_
    refine e_iconst (pc := 45) (v := 3) d_M_code_45 (by decide) ?_
    refine e_icmp_eq (pc := 46) (tgt := 54) d_M_code_46 (by decide) (fun _ => ?_) (fun h9 => absurd (by decide) h9)
    refine e_iload (pc := 54) d_M_code_54 rfl ?_
    refine e_cS1 (pc := 56) s_M_code_56 (sp_MisRegister) (Nat.le_of_ble_eq_true rfl) (Nat.le_of_ble_eq_true rfl) (Nat.le_of_ble_eq_true rfl) (zGo.v ?_)
    refine e_goto (pc := 59) (tgt := 85) d_M_code_59 (by decide) ?_
    refine e_istore (pc := 85) d_M_code_85 (Nat.le_of_ble_eq_true rfl) ?_
    dsimp only [List.set]
    refine e_aload_n (pc := 87) d_M_code_87 rfl ?_
    refine e_iload_n (pc := 88) d_M_code_88 rfl ?_
    refine e_if_lt (pc := 89) (tgt := 108) d_M_code_89 (by decide) (fun h9 => absurd h9 (by decide)) (fun _ => ?_)
    refine e_iload_n (pc := 92) d_M_code_92 rfl ?_
    refine e_bipush (pc := 93) (v := 7) d_M_code_93 (by decide) ?_
    refine e_icmp_gt (pc := 95) (tgt := 108) d_M_code_95 (by decide) (fun h9 => absurd h9 (by decide)) (fun _ => ?_)
    refine e_iload (pc := 98) d_M_code_98 rfl ?_
    refine e_if_eq (pc := 100) (tgt := 108) d_M_code_100 (by decide) (fun _ => ?_) (fun h9 => absurd (by decide) h9)
    refine e_iconst (pc := 108) (v := 2) d_M_code_108 (by decide) ?_
    refine e_goto (pc := 109) (tgt := 128) d_M_code_109 (by decide) ?_
    refine e_put (pc := 128) s_M_code_128 rfl (Nat.le_of_ble_eq_true rfl) zFit.int wTh ?_
    refine e_aload_n (pc := 131) d_M_code_131 rfl ?_
    refine e_get (pc := 132) s_M_code_132 rfl rfl ?_
    refine e_if_le (pc := 135) (tgt := 140) d_M_code_135 (by decide) (fun h9 => absurd h9 (by decide)) (fun _ => ?_)
    refine e_iconst (pc := 138) (v := 0) d_M_code_138 (by decide) ?_
    exact e_iret (pc := 139) d_M_code_139 rfl rfl (Nat.le_of_ble_eq_true rfl) (Nat.le_of_ble_eq_true rfl) (by simp [h13])
  · replace h13 := b1.mp h13
    refine e_iconst (pc := 28) (v := 1) d_M_code_28 (by decide) ?_
    refine e_goto (pc := 29) (tgt := 33) d_M_code_29 (by decide) ?_
    refine e_istore (pc := 33) d_M_code_33 (Nat.le_of_ble_eq_true rfl) ?_
    dsimp only [List.set]
    refine e_iload_n (pc := 35) d_M_code_35 rfl ?_
    refine e_if_eq (pc := 36) (tgt := 54) d_M_code_36 (by decide) (fun h9 => absurd h9 (by decide)) (fun _ => ?_)
    refine e_iload_n (pc := 39) d_M_code_39 rfl ?_
    refine e_iconst (pc := 40) (v := 1) d_M_code_40 (by decide) ?_
    refine e_icmp_eq (pc := 41) (tgt := 54) d_M_code_41 (by decide) (fun h9 => absurd h9 (by decide)) (fun _ => ?_)
    refine e_iload_n (pc := 44) d_M_code_44 rfl ?_
    refine e_iconst (pc := 45) (v := 3) d_M_code_45 (by decide) ?_
    refine e_icmp_eq (pc := 46) (tgt := 54) d_M_code_46 (by decide) (fun _ => ?_) (fun h9 => absurd (by decide) h9)
    refine e_iload (pc := 54) d_M_code_54 rfl ?_
    refine e_cS1 (pc := 56) s_M_code_56 (sp_MisRegister) (Nat.le_of_ble_eq_true rfl) (Nat.le_of_ble_eq_true rfl) (Nat.le_of_ble_eq_true rfl) (zGo.v ?_)
    refine e_goto (pc := 59) (tgt := 85) d_M_code_59 (by decide) ?_
    refine e_istore (pc := 85) d_M_code_85 (Nat.le_of_ble_eq_true rfl) ?_
    dsimp only [List.set]
    refine e_aload_n (pc := 87) d_M_code_87 rfl ?_
    refine e_iload_n (pc := 88) d_M_code_88 rfl ?_
    refine e_if_lt (pc := 89) (tgt := 108) d_M_code_89 (by decide) (fun h9 => absurd h9 (by decide)) (fun _ => ?_)
    refine e_iload_n (pc := 92) d_M_code_92 rfl ?_
    refine e_bipush (pc := 93) (v := 7) d_M_code_93 (by decide) ?_
    refine e_icmp_gt (pc := 95) (tgt := 108) d_M_code_95 (by decide) (fun h9 => absurd h9 (by decide)) (fun _ => ?_)
    refine e_iload (pc := 98) d_M_code_98 rfl ?_
    refine e_if_eq (pc := 100) (tgt := 108) d_M_code_100 (by decide) (fun h9 => absurd h9 (by decide)) (fun _ => ?_)
    refine e_iload (pc := 103) d_M_code_103 rfl ?_
    refine e_if_ne (pc := 105) (tgt := 112) d_M_code_105 (by decide) (fun h14 => ?_) (fun h14 => ?_)
    · replace h14 := b1.mp h14
      exact absurd hv (by simp [vB, ← gt15, h13, h14])
    · replace h14 := b0.mp h14
      refine e_iconst (pc := 108) (v := 2) d_M_code_108 (by decide) ?_
      refine e_goto (pc := 109) (tgt := 128) d_M_code_109 (by decide) ?_
      refine e_put (pc := 128) s_M_code_128 rfl (Nat.le_of_ble_eq_true rfl) zFit.int wTh ?_
      refine e_aload_n (pc := 131) d_M_code_131 rfl ?_
      refine e_get (pc := 132) s_M_code_132 rfl rfl ?_
      refine e_if_le (pc := 135) (tgt := 140) d_M_code_135 (by decide) (fun h9 => absurd h9 (by decide)) (fun _ => ?_)
      refine e_iconst (pc := 138) (v := 0) d_M_code_138 (by decide) ?_
      exact e_iret (pc := 139) d_M_code_139 rfl rfl (Nat.le_of_ble_eq_true rfl) (Nat.le_of_ble_eq_true rfl) (by simp [h13, h14])
set_option maxHeartbeats 4000000 in
set_option maxRecDepth 100000 in
theorem sM_codeX3_3 {l : Launch} {G : zGP} {K : Nat} {S T : St} {th : Int32} {fo : Nat → Int64} {c : Nat} (hc : c < 3) {a b : Int32} (hv : vB 3 a b = true) (h1 : T 1 c 0 = 16) : Rn l G m_M_code [.ref 45, .int (nI c), .int (nI 3), .int a, .int b] (hpA K S T th fo) (.inl (some (.int 0)), (hpA K S T 3 fo)) := by
  refine Rn.of (by decide) rfl rfl (Nat.le_of_ble_eq_true rfl) rfl ?_
  show Ev l G m_M_code 0 [.ref 45, .int (nI c), .int (nI 3), .int a, .int b, .double 0, .double 0, .double 0] [] (hpA K S T th fo) 0 0 _
  refine e_aload_n (pc := 0) d_M_code_0 rfl ?_
  refine e_iload_n (pc := 1) d_M_code_1 rfl ?_
  refine e_cV1 (pc := 2) s_M_code_2 (sM_core hc) rfl rfl rfl (Nat.le_of_ble_eq_true rfl) (Nat.le_of_ble_eq_true rfl) (Nat.le_of_ble_eq_true rfl) (zGo.v ?_)
  refine e_if_ne (pc := 5) (tgt := 10) d_M_code_5 (by decide) (fun _ => ?_) (fun h9 => absurd h9 (by decide))
  refine e_iload_n (pc := 10) d_M_code_10 rfl ?_
  refine e_iconst (pc := 11) (v := 2) d_M_code_11 (by decide) ?_
  refine e_icmp_eq (pc := 12) (tgt := 28) d_M_code_12 (by decide) (fun h9 => absurd h9 (by decide)) (fun _ => ?_)
  refine e_iload_n (pc := 15) d_M_code_15 rfl ?_
  refine e_bipush (pc := 16) (v := 7) d_M_code_16 (by decide) ?_
  refine e_icmp_eq (pc := 18) (tgt := 28) d_M_code_18 (by decide) (fun h9 => absurd h9 (by decide)) (fun _ => ?_)
  refine e_iload_n (pc := 21) d_M_code_21 rfl ?_
  refine e_cS1 (pc := 22) s_M_code_22 (sp_MisRegister) (Nat.le_of_ble_eq_true rfl) (Nat.le_of_ble_eq_true rfl) (Nat.le_of_ble_eq_true rfl) (zGo.v ?_)
  refine e_if_eq (pc := 25) (tgt := 32) d_M_code_25 (by decide) (fun h15 => ?_) (fun h15 => ?_)
  · replace h15 := b0.mp h15
    refine e_iconst (pc := 32) (v := 0) d_M_code_32 (by decide) ?_
    refine e_istore (pc := 33) d_M_code_33 (Nat.le_of_ble_eq_true rfl) ?_
    dsimp only [List.set]
    refine e_iload_n (pc := 35) d_M_code_35 rfl ?_
    refine e_if_eq (pc := 36) (tgt := 54) d_M_code_36 (by decide) (fun h9 => absurd h9 (by decide)) (fun _ => ?_)
    refine e_iload_n (pc := 39) d_M_code_39 rfl ?_
    refine e_iconst (pc := 40) (v := 1) d_M_code_40 (by decide) ?_
    refine e_icmp_eq (pc := 41) (tgt := 54) d_M_code_41 (by decide) (fun h9 => absurd h9 (by decide)) (fun _ => ?_)
    refine e_iload_n (pc := 44) d_M_code_44 rfl ?_
    refine e_iconst (pc := 45) (v := 3) d_M_code_45 (by decide) ?_
    refine e_icmp_eq (pc := 46) (tgt := 54) d_M_code_46 (by decide) (fun _ => ?_) (fun h9 => absurd (by decide) h9)
    refine e_iload (pc := 54) d_M_code_54 rfl ?_
    refine e_cS1 (pc := 56) s_M_code_56 (sp_MisRegister) (Nat.le_of_ble_eq_true rfl) (Nat.le_of_ble_eq_true rfl) (Nat.le_of_ble_eq_true rfl) (zGo.v ?_)
    refine e_goto (pc := 59) (tgt := 85) d_M_code_59 (by decide) ?_
    refine e_istore (pc := 85) d_M_code_85 (Nat.le_of_ble_eq_true rfl) ?_
    dsimp only [List.set]
    refine e_aload_n (pc := 87) d_M_code_87 rfl ?_
    refine e_iload_n (pc := 88) d_M_code_88 rfl ?_
    refine e_if_lt (pc := 89) (tgt := 108) d_M_code_89 (by decide) (fun h9 => absurd h9 (by decide)) (fun _ => ?_)
    refine e_iload_n (pc := 92) d_M_code_92 rfl ?_
    refine e_bipush (pc := 93) (v := 7) d_M_code_93 (by decide) ?_
    refine e_icmp_gt (pc := 95) (tgt := 108) d_M_code_95 (by decide) (fun h9 => absurd h9 (by decide)) (fun _ => ?_)
    refine e_iload (pc := 98) d_M_code_98 rfl ?_
    refine e_if_eq (pc := 100) (tgt := 108) d_M_code_100 (by decide) (fun _ => ?_) (fun h9 => absurd (by decide) h9)
    exact absurd hv (by simp [vB, ← gt15, h15])
  · replace h15 := b1.mp h15
    refine e_iconst (pc := 28) (v := 1) d_M_code_28 (by decide) ?_
    refine e_goto (pc := 29) (tgt := 33) d_M_code_29 (by decide) ?_
    refine e_istore (pc := 33) d_M_code_33 (Nat.le_of_ble_eq_true rfl) ?_
    dsimp only [List.set]
    refine e_iload_n (pc := 35) d_M_code_35 rfl ?_
    refine e_if_eq (pc := 36) (tgt := 54) d_M_code_36 (by decide) (fun h9 => absurd h9 (by decide)) (fun _ => ?_)
    refine e_iload_n (pc := 39) d_M_code_39 rfl ?_
    refine e_iconst (pc := 40) (v := 1) d_M_code_40 (by decide) ?_
    refine e_icmp_eq (pc := 41) (tgt := 54) d_M_code_41 (by decide) (fun h9 => absurd h9 (by decide)) (fun _ => ?_)
    refine e_iload_n (pc := 44) d_M_code_44 rfl ?_
    refine e_iconst (pc := 45) (v := 3) d_M_code_45 (by decide) ?_
    refine e_icmp_eq (pc := 46) (tgt := 54) d_M_code_46 (by decide) (fun _ => ?_) (fun h9 => absurd (by decide) h9)
    refine e_iload (pc := 54) d_M_code_54 rfl ?_
    refine e_cS1 (pc := 56) s_M_code_56 (sp_MisRegister) (Nat.le_of_ble_eq_true rfl) (Nat.le_of_ble_eq_true rfl) (Nat.le_of_ble_eq_true rfl) (zGo.v ?_)
    refine e_goto (pc := 59) (tgt := 85) d_M_code_59 (by decide) ?_
    refine e_istore (pc := 85) d_M_code_85 (Nat.le_of_ble_eq_true rfl) ?_
    dsimp only [List.set]
    refine e_aload_n (pc := 87) d_M_code_87 rfl ?_
    refine e_iload_n (pc := 88) d_M_code_88 rfl ?_
    refine e_if_lt (pc := 89) (tgt := 108) d_M_code_89 (by decide) (fun h9 => absurd h9 (by decide)) (fun _ => ?_)
    refine e_iload_n (pc := 92) d_M_code_92 rfl ?_
    refine e_bipush (pc := 93) (v := 7) d_M_code_93 (by decide) ?_
    refine e_icmp_gt (pc := 95) (tgt := 108) d_M_code_95 (by decide) (fun h9 => absurd h9 (by decide)) (fun _ => ?_)
    refine e_iload (pc := 98) d_M_code_98 rfl ?_
    refine e_if_eq (pc := 100) (tgt := 108) d_M_code_100 (by decide) (fun h9 => absurd h9 (by decide)) (fun _ => ?_)
    refine e_iload (pc := 103) d_M_code_103 rfl ?_
    refine e_if_ne (pc := 105) (tgt := 112) d_M_code_105 (by decide) (fun h16 => ?_) (fun h16 => ?_)
    · replace h16 := b1.mp h16
      refine e_aload_n (pc := 112) d_M_code_112 rfl ?_
      refine e_get (pc := 113) s_M_code_113 rfl rfl ?_
      refine e_iload_n (pc := 116) d_M_code_116 rfl ?_
      refine e_iald (pc := 117) d_M_code_117 rfl (vp_in_nI (by omega) (by decide)) ((fx1 (nI_clamp (by omega))).trans h1) ?_
      refine e_bipush (pc := 118) (v := 16) d_M_code_118 (by decide) ?_
      refine e_icmp_ne (pc := 120) (tgt := 127) d_M_code_120 (by decide) (fun h9 => absurd (rfl) h9) (fun _ => ?_)
      refine e_iconst (pc := 123) (v := 3) d_M_code_123 (by decide) ?_
      refine e_goto (pc := 124) (tgt := 128) d_M_code_124 (by decide) ?_
      refine e_put (pc := 128) s_M_code_128 rfl (Nat.le_of_ble_eq_true rfl) zFit.int wTh ?_
      refine e_aload_n (pc := 131) d_M_code_131 rfl ?_
      refine e_get (pc := 132) s_M_code_132 rfl rfl ?_
      refine e_if_le (pc := 135) (tgt := 140) d_M_code_135 (by decide) (fun h9 => absurd h9 (by decide)) (fun _ => ?_)
      refine e_iconst (pc := 138) (v := 0) d_M_code_138 (by decide) ?_
      exact e_iret (pc := 139) d_M_code_139 rfl rfl (Nat.le_of_ble_eq_true rfl) (Nat.le_of_ble_eq_true rfl) (by simp [h15, h16])
    · replace h16 := b0.mp h16
      exact absurd hv (by simp [vB, ← gt15, h15, h16])
set_option maxHeartbeats 4000000 in
set_option maxRecDepth 100000 in
theorem sM_code3 {l : Launch} {G : zGP} {K : Nat} {S T : St} {th : Int32} {fo : Nat → Int64} {c : Nat} (hc : c < 3) {q : Nat} {a b : Int32} (hq : q < 16) (hv : vB 3 a b = true) (h1 : T 1 c 0 = nI q) : Rn l G m_M_code [.ref 45, .int (nI c), .int (nI 3), .int a, .int b] (hpA K S T th fo) (.inl (some (.int (nI q + 1))), (hpA K S (su (su (su (su T 2 c q (nI 3)) 3 c q a) 4 c q b) 1 c 0 (nI q + 1)) 0 fo)) := by
  refine Rn.of (by decide) rfl rfl (Nat.le_of_ble_eq_true rfl) rfl ?_
  show Ev l G m_M_code 0 [.ref 45, .int (nI c), .int (nI 3), .int a, .int b, .double 0, .double 0, .double 0] [] (hpA K S T th fo) 0 0 _
  refine e_aload_n (pc := 0) d_M_code_0 rfl ?_
  refine e_iload_n (pc := 1) d_M_code_1 rfl ?_
  refine e_cV1 (pc := 2) s_M_code_2 (sM_core hc) rfl rfl rfl (Nat.le_of_ble_eq_true rfl) (Nat.le_of_ble_eq_true rfl) (Nat.le_of_ble_eq_true rfl) (zGo.v ?_)
  refine e_if_ne (pc := 5) (tgt := 10) d_M_code_5 (by decide) (fun _ => ?_) (fun h9 => absurd h9 (by decide))
  refine e_iload_n (pc := 10) d_M_code_10 rfl ?_
  refine e_iconst (pc := 11) (v := 2) d_M_code_11 (by decide) ?_
  refine e_icmp_eq (pc := 12) (tgt := 28) d_M_code_12 (by decide) (fun h9 => absurd h9 (by decide)) (fun _ => ?_)
  refine e_iload_n (pc := 15) d_M_code_15 rfl ?_
  refine e_bipush (pc := 16) (v := 7) d_M_code_16 (by decide) ?_
  refine e_icmp_eq (pc := 18) (tgt := 28) d_M_code_18 (by decide) (fun h9 => absurd h9 (by decide)) (fun _ => ?_)
  refine e_iload_n (pc := 21) d_M_code_21 rfl ?_
  refine e_cS1 (pc := 22) s_M_code_22 (sp_MisRegister) (Nat.le_of_ble_eq_true rfl) (Nat.le_of_ble_eq_true rfl) (Nat.le_of_ble_eq_true rfl) (zGo.v ?_)
  refine e_if_eq (pc := 25) (tgt := 32) d_M_code_25 (by decide) (fun h17 => ?_) (fun h17 => ?_)
  · replace h17 := b0.mp h17
    refine e_iconst (pc := 32) (v := 0) d_M_code_32 (by decide) ?_
    refine e_istore (pc := 33) d_M_code_33 (Nat.le_of_ble_eq_true rfl) ?_
    dsimp only [List.set]
    refine e_iload_n (pc := 35) d_M_code_35 rfl ?_
    refine e_if_eq (pc := 36) (tgt := 54) d_M_code_36 (by decide) (fun h9 => absurd h9 (by decide)) (fun _ => ?_)
    refine e_iload_n (pc := 39) d_M_code_39 rfl ?_
    refine e_iconst (pc := 40) (v := 1) d_M_code_40 (by decide) ?_
    refine e_icmp_eq (pc := 41) (tgt := 54) d_M_code_41 (by decide) (fun h9 => absurd h9 (by decide)) (fun _ => ?_)
    refine e_iload_n (pc := 44) d_M_code_44 rfl ?_
    refine e_iconst (pc := 45) (v := 3) d_M_code_45 (by decide) ?_
    refine e_icmp_eq (pc := 46) (tgt := 54) d_M_code_46 (by decide) (fun _ => ?_) (fun h9 => absurd (by decide) h9)
    refine e_iload (pc := 54) d_M_code_54 rfl ?_
    refine e_cS1 (pc := 56) s_M_code_56 (sp_MisRegister) (Nat.le_of_ble_eq_true rfl) (Nat.le_of_ble_eq_true rfl) (Nat.le_of_ble_eq_true rfl) (zGo.v ?_)
    refine e_goto (pc := 59) (tgt := 85) d_M_code_59 (by decide) ?_
    refine e_istore (pc := 85) d_M_code_85 (Nat.le_of_ble_eq_true rfl) ?_
    dsimp only [List.set]
    refine e_aload_n (pc := 87) d_M_code_87 rfl ?_
    refine e_iload_n (pc := 88) d_M_code_88 rfl ?_
    refine e_if_lt (pc := 89) (tgt := 108) d_M_code_89 (by decide) (fun h9 => absurd h9 (by decide)) (fun _ => ?_)
    refine e_iload_n (pc := 92) d_M_code_92 rfl ?_
    refine e_bipush (pc := 93) (v := 7) d_M_code_93 (by decide) ?_
    refine e_icmp_gt (pc := 95) (tgt := 108) d_M_code_95 (by decide) (fun h9 => absurd h9 (by decide)) (fun _ => ?_)
    refine e_iload (pc := 98) d_M_code_98 rfl ?_
    refine e_if_eq (pc := 100) (tgt := 108) d_M_code_100 (by decide) (fun _ => ?_) (fun h9 => absurd (by decide) h9)
    exact absurd hv (by simp [vB, ← gt15, h17])
  · replace h17 := b1.mp h17
    refine e_iconst (pc := 28) (v := 1) d_M_code_28 (by decide) ?_
    refine e_goto (pc := 29) (tgt := 33) d_M_code_29 (by decide) ?_
    refine e_istore (pc := 33) d_M_code_33 (Nat.le_of_ble_eq_true rfl) ?_
    dsimp only [List.set]
    refine e_iload_n (pc := 35) d_M_code_35 rfl ?_
    refine e_if_eq (pc := 36) (tgt := 54) d_M_code_36 (by decide) (fun h9 => absurd h9 (by decide)) (fun _ => ?_)
    refine e_iload_n (pc := 39) d_M_code_39 rfl ?_
    refine e_iconst (pc := 40) (v := 1) d_M_code_40 (by decide) ?_
    refine e_icmp_eq (pc := 41) (tgt := 54) d_M_code_41 (by decide) (fun h9 => absurd h9 (by decide)) (fun _ => ?_)
    refine e_iload_n (pc := 44) d_M_code_44 rfl ?_
    refine e_iconst (pc := 45) (v := 3) d_M_code_45 (by decide) ?_
    refine e_icmp_eq (pc := 46) (tgt := 54) d_M_code_46 (by decide) (fun _ => ?_) (fun h9 => absurd (by decide) h9)
    refine e_iload (pc := 54) d_M_code_54 rfl ?_
    refine e_cS1 (pc := 56) s_M_code_56 (sp_MisRegister) (Nat.le_of_ble_eq_true rfl) (Nat.le_of_ble_eq_true rfl) (Nat.le_of_ble_eq_true rfl) (zGo.v ?_)
    refine e_goto (pc := 59) (tgt := 85) d_M_code_59 (by decide) ?_
    refine e_istore (pc := 85) d_M_code_85 (Nat.le_of_ble_eq_true rfl) ?_
    dsimp only [List.set]
    refine e_aload_n (pc := 87) d_M_code_87 rfl ?_
    refine e_iload_n (pc := 88) d_M_code_88 rfl ?_
    refine e_if_lt (pc := 89) (tgt := 108) d_M_code_89 (by decide) (fun h9 => absurd h9 (by decide)) (fun _ => ?_)
    refine e_iload_n (pc := 92) d_M_code_92 rfl ?_
    refine e_bipush (pc := 93) (v := 7) d_M_code_93 (by decide) ?_
    refine e_icmp_gt (pc := 95) (tgt := 108) d_M_code_95 (by decide) (fun h9 => absurd h9 (by decide)) (fun _ => ?_)
    refine e_iload (pc := 98) d_M_code_98 rfl ?_
    refine e_if_eq (pc := 100) (tgt := 108) d_M_code_100 (by decide) (fun h9 => absurd h9 (by decide)) (fun _ => ?_)
    refine e_iload (pc := 103) d_M_code_103 rfl ?_
    refine e_if_ne (pc := 105) (tgt := 112) d_M_code_105 (by decide) (fun h18 => ?_) (fun h18 => ?_)
    · replace h18 := b1.mp h18
      refine e_aload_n (pc := 112) d_M_code_112 rfl ?_
      refine e_get (pc := 113) s_M_code_113 rfl rfl ?_
      refine e_iload_n (pc := 116) d_M_code_116 rfl ?_
      refine e_iald (pc := 117) d_M_code_117 rfl (vp_in_nI (by omega) (by decide)) ((fx1 (nI_clamp (by omega))).trans h1) ?_
      refine e_bipush (pc := 118) (v := 16) d_M_code_118 (by decide) ?_
      refine e_icmp_ne (pc := 120) (tgt := 127) d_M_code_120 (by decide) (fun _ => ?_) (fun h9 => absurd h9 (fun q9 => absurd ((nI_eq (b := 16) (by omega) (by decide)).mp q9) (by omega)))
      refine e_iconst (pc := 127) (v := 0) d_M_code_127 (by decide) ?_
      refine e_put (pc := 128) s_M_code_128 rfl (Nat.le_of_ble_eq_true rfl) zFit.int wTh ?_
      refine e_aload_n (pc := 131) d_M_code_131 rfl ?_
      refine e_get (pc := 132) s_M_code_132 rfl rfl ?_
      refine e_if_le (pc := 135) (tgt := 140) d_M_code_135 (by decide) (fun _ => ?_) (fun h9 => absurd (by decide) h9)
      refine e_bipush (pc := 140) (v := 16) d_M_code_140 (by decide) ?_
      refine e_iload_n (pc := 142) d_M_code_142 rfl ?_
      refine e_imul (pc := 143) d_M_code_143 ?_
      refine e_aload_n (pc := 144) d_M_code_144 rfl ?_
      refine e_get (pc := 145) s_M_code_145 rfl rfl ?_
      refine e_iload_n (pc := 148) d_M_code_148 rfl ?_
      refine e_iald (pc := 149) d_M_code_149 rfl (vp_in_nI (by omega) (by decide)) ((fx1 (nI_clamp (by omega))).trans h1) ?_
      refine e_iadd (pc := 150) d_M_code_150 ?_
      refine e_topi (y := nI (16 * c + q)) (ixM 16 c q) ?_
      refine e_istore (pc := 151) d_M_code_151 (Nat.le_of_ble_eq_true rfl) ?_
      dsimp only [List.set]
      refine e_aload_n (pc := 153) d_M_code_153 rfl ?_
      refine e_get (pc := 154) s_M_code_154 rfl rfl ?_
      refine e_iload (pc := 157) d_M_code_157 rfl ?_
      refine e_iload_n (pc := 159) d_M_code_159 rfl ?_
      refine e_iast (pc := 160) d_M_code_160 rfl (vp_in_nI (by omega) (by decide)) (vOp (nI_clamp (by omega)) hq) ?_
      refine e_aload_n (pc := 161) d_M_code_161 rfl ?_
      refine e_get (pc := 162) s_M_code_162 rfl rfl ?_
      refine e_iload (pc := 165) d_M_code_165 rfl ?_
      refine e_iload_n (pc := 167) d_M_code_167 rfl ?_
      refine e_iast (pc := 168) d_M_code_168 rfl (vp_in_nI (by omega) (by decide)) (vAs (nI_clamp (by omega)) hq) ?_
      refine e_aload_n (pc := 169) d_M_code_169 rfl ?_
      refine e_get (pc := 170) s_M_code_170 rfl rfl ?_
      refine e_iload (pc := 173) d_M_code_173 rfl ?_
      refine e_iload (pc := 175) d_M_code_175 rfl ?_
      refine e_iast (pc := 177) d_M_code_177 rfl (vp_in_nI (by omega) (by decide)) (vBs (nI_clamp (by omega)) hq) ?_
      refine e_aload_n (pc := 178) d_M_code_178 rfl ?_
      refine e_get (pc := 179) s_M_code_179 rfl rfl ?_
      refine e_iload_n (pc := 182) d_M_code_182 rfl ?_
      refine e_dup2 (pc := 183) d_M_code_183 rfl rfl ?_
      refine e_iald (pc := 184) d_M_code_184 rfl (vp_in_nI (by omega) (by decide)) ((fx1 (nI_clamp (by omega))).trans h1) ?_
      refine e_iconst (pc := 185) (v := 1) d_M_code_185 (by decide) ?_
      refine e_iadd (pc := 186) d_M_code_186 ?_
      refine e_iast (pc := 187) d_M_code_187 rfl (vp_in_nI (by omega) (by decide)) (vLen (nI_clamp (by omega))) ?_
      refine e_aload_n (pc := 188) d_M_code_188 rfl ?_
      refine e_get (pc := 189) s_M_code_189 rfl rfl ?_
      refine e_iload_n (pc := 192) d_M_code_192 rfl ?_
      refine e_iald (pc := 193) d_M_code_193 rfl (vp_in_nI (by omega) (by decide)) ((fx1 (nI_clamp (by omega))).trans (su_at _ _ _ _ _)) ?_
      exact e_iret (pc := 194) d_M_code_194 rfl rfl (Nat.le_of_ble_eq_true rfl) (Nat.le_of_ble_eq_true rfl) rfl
    · replace h18 := b0.mp h18
      exact absurd hv (by simp [vB, ← gt15, h17, h18])
set_option maxHeartbeats 4000000 in
set_option maxRecDepth 100000 in
theorem sM_codeX4_2 {l : Launch} {G : zGP} {K : Nat} {S T : St} {th : Int32} {fo : Nat → Int64} {c : Nat} (hc : c < 3) {a b : Int32} (hv : vB 4 a b = false) : Rn l G m_M_code [.ref 45, .int (nI c), .int (nI 4), .int a, .int b] (hpA K S T th fo) (.inl (some (.int 0)), (hpA K S T 2 fo)) := by
  refine Rn.of (by decide) rfl rfl (Nat.le_of_ble_eq_true rfl) rfl ?_
  show Ev l G m_M_code 0 [.ref 45, .int (nI c), .int (nI 4), .int a, .int b, .double 0, .double 0, .double 0] [] (hpA K S T th fo) 0 0 _
  refine e_aload_n (pc := 0) d_M_code_0 rfl ?_
  refine e_iload_n (pc := 1) d_M_code_1 rfl ?_
  refine e_cV1 (pc := 2) s_M_code_2 (sM_core hc) rfl rfl rfl (Nat.le_of_ble_eq_true rfl) (Nat.le_of_ble_eq_true rfl) (Nat.le_of_ble_eq_true rfl) (zGo.v ?_)
  refine e_if_ne (pc := 5) (tgt := 10) d_M_code_5 (by decide) (fun _ => ?_) (fun h9 => absurd h9 (by decide))
  refine e_iload_n (pc := 10) d_M_code_10 rfl ?_
  refine e_iconst (pc := 11) (v := 2) d_M_code_11 (by decide) ?_
  refine e_icmp_eq (pc := 12) (tgt := 28) d_M_code_12 (by decide) (fun h9 => absurd h9 (by decide)) (fun _ => ?_)
  refine e_iload_n (pc := 15) d_M_code_15 rfl ?_
  refine e_bipush (pc := 16) (v := 7) d_M_code_16 (by decide) ?_
  refine e_icmp_eq (pc := 18) (tgt := 28) d_M_code_18 (by decide) (fun h9 => absurd h9 (by decide)) (fun _ => ?_)
  refine e_iload_n (pc := 21) d_M_code_21 rfl ?_
  refine e_cS1 (pc := 22) s_M_code_22 (sp_MisRegister) (Nat.le_of_ble_eq_true rfl) (Nat.le_of_ble_eq_true rfl) (Nat.le_of_ble_eq_true rfl) (zGo.v ?_)
  refine e_if_eq (pc := 25) (tgt := 32) d_M_code_25 (by decide) (fun h19 => ?_) (fun h19 => ?_)
  · replace h19 := b0.mp h19
    refine e_iconst (pc := 32) (v := 0) d_M_code_32 (by decide) ?_
    refine e_istore (pc := 33) d_M_code_33 (Nat.le_of_ble_eq_true rfl) ?_
    dsimp only [List.set]
    refine e_iload_n (pc := 35) d_M_code_35 rfl ?_
    refine e_if_eq (pc := 36) (tgt := 54) d_M_code_36 (by decide) (fun h9 => absurd h9 (by decide)) (fun _ => ?_)
    refine e_iload_n (pc := 39) d_M_code_39 rfl ?_
    refine e_iconst (pc := 40) (v := 1) d_M_code_40 (by decide) ?_
    refine e_icmp_eq (pc := 41) (tgt := 54) d_M_code_41 (by decide) (fun h9 => absurd h9 (by decide)) (fun _ => ?_)
    refine e_iload_n (pc := 44) d_M_code_44 rfl ?_
    refine e_iconst (pc := 45) (v := 3) d_M_code_45 (by decide) ?_
    refine e_icmp_eq (pc := 46) (tgt := 54) d_M_code_46 (by decide) (fun h9 => absurd h9 (by decide)) (fun _ => ?_)
    refine e_iload_n (pc := 49) d_M_code_49 rfl ?_
    refine e_iconst (pc := 50) (v := 4) d_M_code_50 (by decide) ?_
    refine e_icmp_ne (pc := 51) (tgt := 62) d_M_code_51 (by decide) (fun h9 => absurd (by decide) h9) (fun _ => ?_)
    refine e_iload (pc := 54) d_M_code_54 rfl ?_
    refine e_cS1 (pc := 56) s_M_code_56 (sp_MisRegister) (Nat.le_of_ble_eq_true rfl) (Nat.le_of_ble_eq_true rfl) (Nat.le_of_ble_eq_true rfl) (zGo.v ?_)
    refine e_goto (pc := 59) (tgt := 85) d_M_code_59 (by decide) ?_
    refine e_istore (pc := 85) d_M_code_85 (Nat.le_of_ble_eq_true rfl) ?_
    dsimp only [List.set]
    refine e_aload_n (pc := 87) d_M_code_87 rfl ?_
    refine e_iload_n (pc := 88) d_M_code_88 rfl ?_
    refine e_if_lt (pc := 89) (tgt := 108) d_M_code_89 (by decide) (fun h9 => absurd h9 (by decide)) (fun _ => ?_)
    refine e_iload_n (pc := 92) d_M_code_92 rfl ?_
    refine e_bipush (pc := 93) (v := 7) d_M_code_93 (by decide) ?_
    refine e_icmp_gt (pc := 95) (tgt := 108) d_M_code_95 (by decide) (fun h9 => absurd h9 (by decide)) (fun _ => ?_)
    refine e_iload (pc := 98) d_M_code_98 rfl ?_
    refine e_if_eq (pc := 100) (tgt := 108) d_M_code_100 (by decide) (fun _ => ?_) (fun h9 => absurd (by decide) h9)
    refine e_iconst (pc := 108) (v := 2) d_M_code_108 (by decide) ?_
    refine e_goto (pc := 109) (tgt := 128) d_M_code_109 (by decide) ?_
    refine e_put (pc := 128) s_M_code_128 rfl (Nat.le_of_ble_eq_true rfl) zFit.int wTh ?_
    refine e_aload_n (pc := 131) d_M_code_131 rfl ?_
    refine e_get (pc := 132) s_M_code_132 rfl rfl ?_
    refine e_if_le (pc := 135) (tgt := 140) d_M_code_135 (by decide) (fun h9 => absurd h9 (by decide)) (fun _ => ?_)
    refine e_iconst (pc := 138) (v := 0) d_M_code_138 (by decide) ?_
    exact e_iret (pc := 139) d_M_code_139 rfl rfl (Nat.le_of_ble_eq_true rfl) (Nat.le_of_ble_eq_true rfl) (by simp [h19])
  · replace h19 := b1.mp h19
    refine e_iconst (pc := 28) (v := 1) d_M_code_28 (by decide) ?_
    refine e_goto (pc := 29) (tgt := 33) d_M_code_29 (by decide) ?_
    refine e_istore (pc := 33) d_M_code_33 (Nat.le_of_ble_eq_true rfl) ?_
    dsimp only [List.set]
    refine e_iload_n (pc := 35) d_M_code_35 rfl ?_
    refine e_if_eq (pc := 36) (tgt := 54) d_M_code_36 (by decide) (fun h9 => absurd h9 (by decide)) (fun _ => ?_)
    refine e_iload_n (pc := 39) d_M_code_39 rfl ?_
    refine e_iconst (pc := 40) (v := 1) d_M_code_40 (by decide) ?_
    refine e_icmp_eq (pc := 41) (tgt := 54) d_M_code_41 (by decide) (fun h9 => absurd h9 (by decide)) (fun _ => ?_)
    refine e_iload_n (pc := 44) d_M_code_44 rfl ?_
    refine e_iconst (pc := 45) (v := 3) d_M_code_45 (by decide) ?_
    refine e_icmp_eq (pc := 46) (tgt := 54) d_M_code_46 (by decide) (fun h9 => absurd h9 (by decide)) (fun _ => ?_)
    refine e_iload_n (pc := 49) d_M_code_49 rfl ?_
    refine e_iconst (pc := 50) (v := 4) d_M_code_50 (by decide) ?_
    refine e_icmp_ne (pc := 51) (tgt := 62) d_M_code_51 (by decide) (fun h9 => absurd (by decide) h9) (fun _ => ?_)
    refine e_iload (pc := 54) d_M_code_54 rfl ?_
    refine e_cS1 (pc := 56) s_M_code_56 (sp_MisRegister) (Nat.le_of_ble_eq_true rfl) (Nat.le_of_ble_eq_true rfl) (Nat.le_of_ble_eq_true rfl) (zGo.v ?_)
    refine e_goto (pc := 59) (tgt := 85) d_M_code_59 (by decide) ?_
    refine e_istore (pc := 85) d_M_code_85 (Nat.le_of_ble_eq_true rfl) ?_
    dsimp only [List.set]
    refine e_aload_n (pc := 87) d_M_code_87 rfl ?_
    refine e_iload_n (pc := 88) d_M_code_88 rfl ?_
    refine e_if_lt (pc := 89) (tgt := 108) d_M_code_89 (by decide) (fun h9 => absurd h9 (by decide)) (fun _ => ?_)
    refine e_iload_n (pc := 92) d_M_code_92 rfl ?_
    refine e_bipush (pc := 93) (v := 7) d_M_code_93 (by decide) ?_
    refine e_icmp_gt (pc := 95) (tgt := 108) d_M_code_95 (by decide) (fun h9 => absurd h9 (by decide)) (fun _ => ?_)
    refine e_iload (pc := 98) d_M_code_98 rfl ?_
    refine e_if_eq (pc := 100) (tgt := 108) d_M_code_100 (by decide) (fun h9 => absurd h9 (by decide)) (fun _ => ?_)
    refine e_iload (pc := 103) d_M_code_103 rfl ?_
    refine e_if_ne (pc := 105) (tgt := 112) d_M_code_105 (by decide) (fun h20 => ?_) (fun h20 => ?_)
    · replace h20 := b1.mp h20
      exact absurd hv (by simp [vB, ← gt15, h19, h20])
    · replace h20 := b0.mp h20
      refine e_iconst (pc := 108) (v := 2) d_M_code_108 (by decide) ?_
      refine e_goto (pc := 109) (tgt := 128) d_M_code_109 (by decide) ?_
      refine e_put (pc := 128) s_M_code_128 rfl (Nat.le_of_ble_eq_true rfl) zFit.int wTh ?_
      refine e_aload_n (pc := 131) d_M_code_131 rfl ?_
      refine e_get (pc := 132) s_M_code_132 rfl rfl ?_
      refine e_if_le (pc := 135) (tgt := 140) d_M_code_135 (by decide) (fun h9 => absurd h9 (by decide)) (fun _ => ?_)
      refine e_iconst (pc := 138) (v := 0) d_M_code_138 (by decide) ?_
      exact e_iret (pc := 139) d_M_code_139 rfl rfl (Nat.le_of_ble_eq_true rfl) (Nat.le_of_ble_eq_true rfl) (by simp [h19, h20])
set_option maxHeartbeats 4000000 in
set_option maxRecDepth 100000 in
theorem sM_codeX4_3 {l : Launch} {G : zGP} {K : Nat} {S T : St} {th : Int32} {fo : Nat → Int64} {c : Nat} (hc : c < 3) {a b : Int32} (hv : vB 4 a b = true) (h1 : T 1 c 0 = 16) : Rn l G m_M_code [.ref 45, .int (nI c), .int (nI 4), .int a, .int b] (hpA K S T th fo) (.inl (some (.int 0)), (hpA K S T 3 fo)) := by
  refine Rn.of (by decide) rfl rfl (Nat.le_of_ble_eq_true rfl) rfl ?_
  show Ev l G m_M_code 0 [.ref 45, .int (nI c), .int (nI 4), .int a, .int b, .double 0, .double 0, .double 0] [] (hpA K S T th fo) 0 0 _
  refine e_aload_n (pc := 0) d_M_code_0 rfl ?_
  refine e_iload_n (pc := 1) d_M_code_1 rfl ?_
  refine e_cV1 (pc := 2) s_M_code_2 (sM_core hc) rfl rfl rfl (Nat.le_of_ble_eq_true rfl) (Nat.le_of_ble_eq_true rfl) (Nat.le_of_ble_eq_true rfl) (zGo.v ?_)
  refine e_if_ne (pc := 5) (tgt := 10) d_M_code_5 (by decide) (fun _ => ?_) (fun h9 => absurd h9 (by decide))
  refine e_iload_n (pc := 10) d_M_code_10 rfl ?_
  refine e_iconst (pc := 11) (v := 2) d_M_code_11 (by decide) ?_
  refine e_icmp_eq (pc := 12) (tgt := 28) d_M_code_12 (by decide) (fun h9 => absurd h9 (by decide)) (fun _ => ?_)
  refine e_iload_n (pc := 15) d_M_code_15 rfl ?_
  refine e_bipush (pc := 16) (v := 7) d_M_code_16 (by decide) ?_
  refine e_icmp_eq (pc := 18) (tgt := 28) d_M_code_18 (by decide) (fun h9 => absurd h9 (by decide)) (fun _ => ?_)
  refine e_iload_n (pc := 21) d_M_code_21 rfl ?_
  refine e_cS1 (pc := 22) s_M_code_22 (sp_MisRegister) (Nat.le_of_ble_eq_true rfl) (Nat.le_of_ble_eq_true rfl) (Nat.le_of_ble_eq_true rfl) (zGo.v ?_)
  refine e_if_eq (pc := 25) (tgt := 32) d_M_code_25 (by decide) (fun h21 => ?_) (fun h21 => ?_)
  · replace h21 := b0.mp h21
    refine e_iconst (pc := 32) (v := 0) d_M_code_32 (by decide) ?_
    refine e_istore (pc := 33) d_M_code_33 (Nat.le_of_ble_eq_true rfl) ?_
    dsimp only [List.set]
    refine e_iload_n (pc := 35) d_M_code_35 rfl ?_
    refine e_if_eq (pc := 36) (tgt := 54) d_M_code_36 (by decide) (fun h9 => absurd h9 (by decide)) (fun _ => ?_)
    refine e_iload_n (pc := 39) d_M_code_39 rfl ?_
    refine e_iconst (pc := 40) (v := 1) d_M_code_40 (by decide) ?_
    refine e_icmp_eq (pc := 41) (tgt := 54) d_M_code_41 (by decide) (fun h9 => absurd h9 (by decide)) (fun _ => ?_)
    refine e_iload_n (pc := 44) d_M_code_44 rfl ?_
    refine e_iconst (pc := 45) (v := 3) d_M_code_45 (by decide) ?_
    refine e_icmp_eq (pc := 46) (tgt := 54) d_M_code_46 (by decide) (fun h9 => absurd h9 (by decide)) (fun _ => ?_)
    refine e_iload_n (pc := 49) d_M_code_49 rfl ?_
    refine e_iconst (pc := 50) (v := 4) d_M_code_50 (by decide) ?_
    refine e_icmp_ne (pc := 51) (tgt := 62) d_M_code_51 (by decide) (fun h9 => absurd (by decide) h9) (fun _ => ?_)
    refine e_iload (pc := 54) d_M_code_54 rfl ?_
    refine e_cS1 (pc := 56) s_M_code_56 (sp_MisRegister) (Nat.le_of_ble_eq_true rfl) (Nat.le_of_ble_eq_true rfl) (Nat.le_of_ble_eq_true rfl) (zGo.v ?_)
    refine e_goto (pc := 59) (tgt := 85) d_M_code_59 (by decide) ?_
    refine e_istore (pc := 85) d_M_code_85 (Nat.le_of_ble_eq_true rfl) ?_
    dsimp only [List.set]
    refine e_aload_n (pc := 87) d_M_code_87 rfl ?_
    refine e_iload_n (pc := 88) d_M_code_88 rfl ?_
    refine e_if_lt (pc := 89) (tgt := 108) d_M_code_89 (by decide) (fun h9 => absurd h9 (by decide)) (fun _ => ?_)
    refine e_iload_n (pc := 92) d_M_code_92 rfl ?_
    refine e_bipush (pc := 93) (v := 7) d_M_code_93 (by decide) ?_
    refine e_icmp_gt (pc := 95) (tgt := 108) d_M_code_95 (by decide) (fun h9 => absurd h9 (by decide)) (fun _ => ?_)
    refine e_iload (pc := 98) d_M_code_98 rfl ?_
    refine e_if_eq (pc := 100) (tgt := 108) d_M_code_100 (by decide) (fun _ => ?_) (fun h9 => absurd (by decide) h9)
    exact absurd hv (by simp [vB, ← gt15, h21])
  · replace h21 := b1.mp h21
    refine e_iconst (pc := 28) (v := 1) d_M_code_28 (by decide) ?_
    refine e_goto (pc := 29) (tgt := 33) d_M_code_29 (by decide) ?_
    refine e_istore (pc := 33) d_M_code_33 (Nat.le_of_ble_eq_true rfl) ?_
    dsimp only [List.set]
    refine e_iload_n (pc := 35) d_M_code_35 rfl ?_
    refine e_if_eq (pc := 36) (tgt := 54) d_M_code_36 (by decide) (fun h9 => absurd h9 (by decide)) (fun _ => ?_)
    refine e_iload_n (pc := 39) d_M_code_39 rfl ?_
    refine e_iconst (pc := 40) (v := 1) d_M_code_40 (by decide) ?_
    refine e_icmp_eq (pc := 41) (tgt := 54) d_M_code_41 (by decide) (fun h9 => absurd h9 (by decide)) (fun _ => ?_)
    refine e_iload_n (pc := 44) d_M_code_44 rfl ?_
    refine e_iconst (pc := 45) (v := 3) d_M_code_45 (by decide) ?_
    refine e_icmp_eq (pc := 46) (tgt := 54) d_M_code_46 (by decide) (fun h9 => absurd h9 (by decide)) (fun _ => ?_)
    refine e_iload_n (pc := 49) d_M_code_49 rfl ?_
    refine e_iconst (pc := 50) (v := 4) d_M_code_50 (by decide) ?_
    refine e_icmp_ne (pc := 51) (tgt := 62) d_M_code_51 (by decide) (fun h9 => absurd (by decide) h9) (fun _ => ?_)
    refine e_iload (pc := 54) d_M_code_54 rfl ?_
    refine e_cS1 (pc := 56) s_M_code_56 (sp_MisRegister) (Nat.le_of_ble_eq_true rfl) (Nat.le_of_ble_eq_true rfl) (Nat.le_of_ble_eq_true rfl) (zGo.v ?_)
    refine e_goto (pc := 59) (tgt := 85) d_M_code_59 (by decide) ?_
    refine e_istore (pc := 85) d_M_code_85 (Nat.le_of_ble_eq_true rfl) ?_
    dsimp only [List.set]
    refine e_aload_n (pc := 87) d_M_code_87 rfl ?_
    refine e_iload_n (pc := 88) d_M_code_88 rfl ?_
    refine e_if_lt (pc := 89) (tgt := 108) d_M_code_89 (by decide) (fun h9 => absurd h9 (by decide)) (fun _ => ?_)
    refine e_iload_n (pc := 92) d_M_code_92 rfl ?_
    refine e_bipush (pc := 93) (v := 7) d_M_code_93 (by decide) ?_
    refine e_icmp_gt (pc := 95) (tgt := 108) d_M_code_95 (by decide) (fun h9 => absurd h9 (by decide)) (fun _ => ?_)
    refine e_iload (pc := 98) d_M_code_98 rfl ?_
    refine e_if_eq (pc := 100) (tgt := 108) d_M_code_100 (by decide) (fun h9 => absurd h9 (by decide)) (fun _ => ?_)
    refine e_iload (pc := 103) d_M_code_103 rfl ?_
    refine e_if_ne (pc := 105) (tgt := 112) d_M_code_105 (by decide) (fun h22 => ?_) (fun h22 => ?_)
    · replace h22 := b1.mp h22
      refine e_aload_n (pc := 112) d_M_code_112 rfl ?_
      refine e_get (pc := 113) s_M_code_113 rfl rfl ?_
      refine e_iload_n (pc := 116) d_M_code_116 rfl ?_
      refine e_iald (pc := 117) d_M_code_117 rfl (vp_in_nI (by omega) (by decide)) ((fx1 (nI_clamp (by omega))).trans h1) ?_
      refine e_bipush (pc := 118) (v := 16) d_M_code_118 (by decide) ?_
      refine e_icmp_ne (pc := 120) (tgt := 127) d_M_code_120 (by decide) (fun h9 => absurd (rfl) h9) (fun _ => ?_)
      refine e_iconst (pc := 123) (v := 3) d_M_code_123 (by decide) ?_
      refine e_goto (pc := 124) (tgt := 128) d_M_code_124 (by decide) ?_
      refine e_put (pc := 128) s_M_code_128 rfl (Nat.le_of_ble_eq_true rfl) zFit.int wTh ?_
      refine e_aload_n (pc := 131) d_M_code_131 rfl ?_
      refine e_get (pc := 132) s_M_code_132 rfl rfl ?_
      refine e_if_le (pc := 135) (tgt := 140) d_M_code_135 (by decide) (fun h9 => absurd h9 (by decide)) (fun _ => ?_)
      refine e_iconst (pc := 138) (v := 0) d_M_code_138 (by decide) ?_
      exact e_iret (pc := 139) d_M_code_139 rfl rfl (Nat.le_of_ble_eq_true rfl) (Nat.le_of_ble_eq_true rfl) (by simp [h21, h22])
    · replace h22 := b0.mp h22
      exact absurd hv (by simp [vB, ← gt15, h21, h22])
set_option maxHeartbeats 4000000 in
set_option maxRecDepth 100000 in
theorem sM_code4 {l : Launch} {G : zGP} {K : Nat} {S T : St} {th : Int32} {fo : Nat → Int64} {c : Nat} (hc : c < 3) {q : Nat} {a b : Int32} (hq : q < 16) (hv : vB 4 a b = true) (h1 : T 1 c 0 = nI q) : Rn l G m_M_code [.ref 45, .int (nI c), .int (nI 4), .int a, .int b] (hpA K S T th fo) (.inl (some (.int (nI q + 1))), (hpA K S (su (su (su (su T 2 c q (nI 4)) 3 c q a) 4 c q b) 1 c 0 (nI q + 1)) 0 fo)) := by
  refine Rn.of (by decide) rfl rfl (Nat.le_of_ble_eq_true rfl) rfl ?_
  show Ev l G m_M_code 0 [.ref 45, .int (nI c), .int (nI 4), .int a, .int b, .double 0, .double 0, .double 0] [] (hpA K S T th fo) 0 0 _
  refine e_aload_n (pc := 0) d_M_code_0 rfl ?_
  refine e_iload_n (pc := 1) d_M_code_1 rfl ?_
  refine e_cV1 (pc := 2) s_M_code_2 (sM_core hc) rfl rfl rfl (Nat.le_of_ble_eq_true rfl) (Nat.le_of_ble_eq_true rfl) (Nat.le_of_ble_eq_true rfl) (zGo.v ?_)
  refine e_if_ne (pc := 5) (tgt := 10) d_M_code_5 (by decide) (fun _ => ?_) (fun h9 => absurd h9 (by decide))
  refine e_iload_n (pc := 10) d_M_code_10 rfl ?_
  refine e_iconst (pc := 11) (v := 2) d_M_code_11 (by decide) ?_
  refine e_icmp_eq (pc := 12) (tgt := 28) d_M_code_12 (by decide) (fun h9 => absurd h9 (by decide)) (fun _ => ?_)
  refine e_iload_n (pc := 15) d_M_code_15 rfl ?_
  refine e_bipush (pc := 16) (v := 7) d_M_code_16 (by decide) ?_
  refine e_icmp_eq (pc := 18) (tgt := 28) d_M_code_18 (by decide) (fun h9 => absurd h9 (by decide)) (fun _ => ?_)
  refine e_iload_n (pc := 21) d_M_code_21 rfl ?_
  refine e_cS1 (pc := 22) s_M_code_22 (sp_MisRegister) (Nat.le_of_ble_eq_true rfl) (Nat.le_of_ble_eq_true rfl) (Nat.le_of_ble_eq_true rfl) (zGo.v ?_)
  refine e_if_eq (pc := 25) (tgt := 32) d_M_code_25 (by decide) (fun h23 => ?_) (fun h23 => ?_)
  · replace h23 := b0.mp h23
    refine e_iconst (pc := 32) (v := 0) d_M_code_32 (by decide) ?_
    refine e_istore (pc := 33) d_M_code_33 (Nat.le_of_ble_eq_true rfl) ?_
    dsimp only [List.set]
    refine e_iload_n (pc := 35) d_M_code_35 rfl ?_
    refine e_if_eq (pc := 36) (tgt := 54) d_M_code_36 (by decide) (fun h9 => absurd h9 (by decide)) (fun _ => ?_)
    refine e_iload_n (pc := 39) d_M_code_39 rfl ?_
    refine e_iconst (pc := 40) (v := 1) d_M_code_40 (by decide) ?_
    refine e_icmp_eq (pc := 41) (tgt := 54) d_M_code_41 (by decide) (fun h9 => absurd h9 (by decide)) (fun _ => ?_)
    refine e_iload_n (pc := 44) d_M_code_44 rfl ?_
    refine e_iconst (pc := 45) (v := 3) d_M_code_45 (by decide) ?_
    refine e_icmp_eq (pc := 46) (tgt := 54) d_M_code_46 (by decide) (fun h9 => absurd h9 (by decide)) (fun _ => ?_)
    refine e_iload_n (pc := 49) d_M_code_49 rfl ?_
    refine e_iconst (pc := 50) (v := 4) d_M_code_50 (by decide) ?_
    refine e_icmp_ne (pc := 51) (tgt := 62) d_M_code_51 (by decide) (fun h9 => absurd (by decide) h9) (fun _ => ?_)
    refine e_iload (pc := 54) d_M_code_54 rfl ?_
    refine e_cS1 (pc := 56) s_M_code_56 (sp_MisRegister) (Nat.le_of_ble_eq_true rfl) (Nat.le_of_ble_eq_true rfl) (Nat.le_of_ble_eq_true rfl) (zGo.v ?_)
    refine e_goto (pc := 59) (tgt := 85) d_M_code_59 (by decide) ?_
    refine e_istore (pc := 85) d_M_code_85 (Nat.le_of_ble_eq_true rfl) ?_
    dsimp only [List.set]
    refine e_aload_n (pc := 87) d_M_code_87 rfl ?_
    refine e_iload_n (pc := 88) d_M_code_88 rfl ?_
    refine e_if_lt (pc := 89) (tgt := 108) d_M_code_89 (by decide) (fun h9 => absurd h9 (by decide)) (fun _ => ?_)
    refine e_iload_n (pc := 92) d_M_code_92 rfl ?_
    refine e_bipush (pc := 93) (v := 7) d_M_code_93 (by decide) ?_
    refine e_icmp_gt (pc := 95) (tgt := 108) d_M_code_95 (by decide) (fun h9 => absurd h9 (by decide)) (fun _ => ?_)
    refine e_iload (pc := 98) d_M_code_98 rfl ?_
    refine e_if_eq (pc := 100) (tgt := 108) d_M_code_100 (by decide) (fun _ => ?_) (fun h9 => absurd (by decide) h9)
    exact absurd hv (by simp [vB, ← gt15, h23])
  · replace h23 := b1.mp h23
    refine e_iconst (pc := 28) (v := 1) d_M_code_28 (by decide) ?_
    refine e_goto (pc := 29) (tgt := 33) d_M_code_29 (by decide) ?_
    refine e_istore (pc := 33) d_M_code_33 (Nat.le_of_ble_eq_true rfl) ?_
    dsimp only [List.set]
    refine e_iload_n (pc := 35) d_M_code_35 rfl ?_
    refine e_if_eq (pc := 36) (tgt := 54) d_M_code_36 (by decide) (fun h9 => absurd h9 (by decide)) (fun _ => ?_)
    refine e_iload_n (pc := 39) d_M_code_39 rfl ?_
    refine e_iconst (pc := 40) (v := 1) d_M_code_40 (by decide) ?_
    refine e_icmp_eq (pc := 41) (tgt := 54) d_M_code_41 (by decide) (fun h9 => absurd h9 (by decide)) (fun _ => ?_)
    refine e_iload_n (pc := 44) d_M_code_44 rfl ?_
    refine e_iconst (pc := 45) (v := 3) d_M_code_45 (by decide) ?_
    refine e_icmp_eq (pc := 46) (tgt := 54) d_M_code_46 (by decide) (fun h9 => absurd h9 (by decide)) (fun _ => ?_)
    refine e_iload_n (pc := 49) d_M_code_49 rfl ?_
    refine e_iconst (pc := 50) (v := 4) d_M_code_50 (by decide) ?_
    refine e_icmp_ne (pc := 51) (tgt := 62) d_M_code_51 (by decide) (fun h9 => absurd (by decide) h9) (fun _ => ?_)
    refine e_iload (pc := 54) d_M_code_54 rfl ?_
    refine e_cS1 (pc := 56) s_M_code_56 (sp_MisRegister) (Nat.le_of_ble_eq_true rfl) (Nat.le_of_ble_eq_true rfl) (Nat.le_of_ble_eq_true rfl) (zGo.v ?_)
    refine e_goto (pc := 59) (tgt := 85) d_M_code_59 (by decide) ?_
    refine e_istore (pc := 85) d_M_code_85 (Nat.le_of_ble_eq_true rfl) ?_
    dsimp only [List.set]
    refine e_aload_n (pc := 87) d_M_code_87 rfl ?_
    refine e_iload_n (pc := 88) d_M_code_88 rfl ?_
    refine e_if_lt (pc := 89) (tgt := 108) d_M_code_89 (by decide) (fun h9 => absurd h9 (by decide)) (fun _ => ?_)
    refine e_iload_n (pc := 92) d_M_code_92 rfl ?_
    refine e_bipush (pc := 93) (v := 7) d_M_code_93 (by decide) ?_
    refine e_icmp_gt (pc := 95) (tgt := 108) d_M_code_95 (by decide) (fun h9 => absurd h9 (by decide)) (fun _ => ?_)
    refine e_iload (pc := 98) d_M_code_98 rfl ?_
    refine e_if_eq (pc := 100) (tgt := 108) d_M_code_100 (by decide) (fun h9 => absurd h9 (by decide)) (fun _ => ?_)
    refine e_iload (pc := 103) d_M_code_103 rfl ?_
    refine e_if_ne (pc := 105) (tgt := 112) d_M_code_105 (by decide) (fun h24 => ?_) (fun h24 => ?_)
    · replace h24 := b1.mp h24
      refine e_aload_n (pc := 112) d_M_code_112 rfl ?_
      refine e_get (pc := 113) s_M_code_113 rfl rfl ?_
      refine e_iload_n (pc := 116) d_M_code_116 rfl ?_
      refine e_iald (pc := 117) d_M_code_117 rfl (vp_in_nI (by omega) (by decide)) ((fx1 (nI_clamp (by omega))).trans h1) ?_
      refine e_bipush (pc := 118) (v := 16) d_M_code_118 (by decide) ?_
      refine e_icmp_ne (pc := 120) (tgt := 127) d_M_code_120 (by decide) (fun _ => ?_) (fun h9 => absurd h9 (fun q9 => absurd ((nI_eq (b := 16) (by omega) (by decide)).mp q9) (by omega)))
      refine e_iconst (pc := 127) (v := 0) d_M_code_127 (by decide) ?_
      refine e_put (pc := 128) s_M_code_128 rfl (Nat.le_of_ble_eq_true rfl) zFit.int wTh ?_
      refine e_aload_n (pc := 131) d_M_code_131 rfl ?_
      refine e_get (pc := 132) s_M_code_132 rfl rfl ?_
      refine e_if_le (pc := 135) (tgt := 140) d_M_code_135 (by decide) (fun _ => ?_) (fun h9 => absurd (by decide) h9)
      refine e_bipush (pc := 140) (v := 16) d_M_code_140 (by decide) ?_
      refine e_iload_n (pc := 142) d_M_code_142 rfl ?_
      refine e_imul (pc := 143) d_M_code_143 ?_
      refine e_aload_n (pc := 144) d_M_code_144 rfl ?_
      refine e_get (pc := 145) s_M_code_145 rfl rfl ?_
      refine e_iload_n (pc := 148) d_M_code_148 rfl ?_
      refine e_iald (pc := 149) d_M_code_149 rfl (vp_in_nI (by omega) (by decide)) ((fx1 (nI_clamp (by omega))).trans h1) ?_
      refine e_iadd (pc := 150) d_M_code_150 ?_
      refine e_topi (y := nI (16 * c + q)) (ixM 16 c q) ?_
      refine e_istore (pc := 151) d_M_code_151 (Nat.le_of_ble_eq_true rfl) ?_
      dsimp only [List.set]
      refine e_aload_n (pc := 153) d_M_code_153 rfl ?_
      refine e_get (pc := 154) s_M_code_154 rfl rfl ?_
      refine e_iload (pc := 157) d_M_code_157 rfl ?_
      refine e_iload_n (pc := 159) d_M_code_159 rfl ?_
      refine e_iast (pc := 160) d_M_code_160 rfl (vp_in_nI (by omega) (by decide)) (vOp (nI_clamp (by omega)) hq) ?_
      refine e_aload_n (pc := 161) d_M_code_161 rfl ?_
      refine e_get (pc := 162) s_M_code_162 rfl rfl ?_
      refine e_iload (pc := 165) d_M_code_165 rfl ?_
      refine e_iload_n (pc := 167) d_M_code_167 rfl ?_
      refine e_iast (pc := 168) d_M_code_168 rfl (vp_in_nI (by omega) (by decide)) (vAs (nI_clamp (by omega)) hq) ?_
      refine e_aload_n (pc := 169) d_M_code_169 rfl ?_
      refine e_get (pc := 170) s_M_code_170 rfl rfl ?_
      refine e_iload (pc := 173) d_M_code_173 rfl ?_
      refine e_iload (pc := 175) d_M_code_175 rfl ?_
      refine e_iast (pc := 177) d_M_code_177 rfl (vp_in_nI (by omega) (by decide)) (vBs (nI_clamp (by omega)) hq) ?_
      refine e_aload_n (pc := 178) d_M_code_178 rfl ?_
      refine e_get (pc := 179) s_M_code_179 rfl rfl ?_
      refine e_iload_n (pc := 182) d_M_code_182 rfl ?_
      refine e_dup2 (pc := 183) d_M_code_183 rfl rfl ?_
      refine e_iald (pc := 184) d_M_code_184 rfl (vp_in_nI (by omega) (by decide)) ((fx1 (nI_clamp (by omega))).trans h1) ?_
      refine e_iconst (pc := 185) (v := 1) d_M_code_185 (by decide) ?_
      refine e_iadd (pc := 186) d_M_code_186 ?_
      refine e_iast (pc := 187) d_M_code_187 rfl (vp_in_nI (by omega) (by decide)) (vLen (nI_clamp (by omega))) ?_
      refine e_aload_n (pc := 188) d_M_code_188 rfl ?_
      refine e_get (pc := 189) s_M_code_189 rfl rfl ?_
      refine e_iload_n (pc := 192) d_M_code_192 rfl ?_
      refine e_iald (pc := 193) d_M_code_193 rfl (vp_in_nI (by omega) (by decide)) ((fx1 (nI_clamp (by omega))).trans (su_at _ _ _ _ _)) ?_
      exact e_iret (pc := 194) d_M_code_194 rfl rfl (Nat.le_of_ble_eq_true rfl) (Nat.le_of_ble_eq_true rfl) rfl
    · replace h24 := b0.mp h24
      exact absurd hv (by simp [vB, ← gt15, h23, h24])
set_option maxHeartbeats 4000000 in
set_option maxRecDepth 100000 in
theorem sM_codeX5_2 {l : Launch} {G : zGP} {K : Nat} {S T : St} {th : Int32} {fo : Nat → Int64} {c : Nat} (hc : c < 3) {a b : Int32} (hv : vB 5 a b = false) : Rn l G m_M_code [.ref 45, .int (nI c), .int (nI 5), .int a, .int b] (hpA K S T th fo) (.inl (some (.int 0)), (hpA K S T 2 fo)) := by
  refine Rn.of (by decide) rfl rfl (Nat.le_of_ble_eq_true rfl) rfl ?_
  show Ev l G m_M_code 0 [.ref 45, .int (nI c), .int (nI 5), .int a, .int b, .double 0, .double 0, .double 0] [] (hpA K S T th fo) 0 0 _
  refine e_aload_n (pc := 0) d_M_code_0 rfl ?_
  refine e_iload_n (pc := 1) d_M_code_1 rfl ?_
  refine e_cV1 (pc := 2) s_M_code_2 (sM_core hc) rfl rfl rfl (Nat.le_of_ble_eq_true rfl) (Nat.le_of_ble_eq_true rfl) (Nat.le_of_ble_eq_true rfl) (zGo.v ?_)
  refine e_if_ne (pc := 5) (tgt := 10) d_M_code_5 (by decide) (fun _ => ?_) (fun h9 => absurd h9 (by decide))
  refine e_iload_n (pc := 10) d_M_code_10 rfl ?_
  refine e_iconst (pc := 11) (v := 2) d_M_code_11 (by decide) ?_
  refine e_icmp_eq (pc := 12) (tgt := 28) d_M_code_12 (by decide) (fun h9 => absurd h9 (by decide)) (fun _ => ?_)
  refine e_iload_n (pc := 15) d_M_code_15 rfl ?_
  refine e_bipush (pc := 16) (v := 7) d_M_code_16 (by decide) ?_
  refine e_icmp_eq (pc := 18) (tgt := 28) d_M_code_18 (by decide) (fun h9 => absurd h9 (by decide)) (fun _ => ?_)
  refine e_iload_n (pc := 21) d_M_code_21 rfl ?_
  refine e_cS1 (pc := 22) s_M_code_22 (sp_MisRegister) (Nat.le_of_ble_eq_true rfl) (Nat.le_of_ble_eq_true rfl) (Nat.le_of_ble_eq_true rfl) (zGo.v ?_)
  refine e_if_eq (pc := 25) (tgt := 32) d_M_code_25 (by decide) (fun h25 => ?_) (fun h25 => ?_)
  · replace h25 := b0.mp h25
    refine e_iconst (pc := 32) (v := 0) d_M_code_32 (by decide) ?_
    refine e_istore (pc := 33) d_M_code_33 (Nat.le_of_ble_eq_true rfl) ?_
    dsimp only [List.set]
    refine e_iload_n (pc := 35) d_M_code_35 rfl ?_
    refine e_if_eq (pc := 36) (tgt := 54) d_M_code_36 (by decide) (fun h9 => absurd h9 (by decide)) (fun _ => ?_)
    refine e_iload_n (pc := 39) d_M_code_39 rfl ?_
    refine e_iconst (pc := 40) (v := 1) d_M_code_40 (by decide) ?_
    refine e_icmp_eq (pc := 41) (tgt := 54) d_M_code_41 (by decide) (fun h9 => absurd h9 (by decide)) (fun _ => ?_)
    refine e_iload_n (pc := 44) d_M_code_44 rfl ?_
    refine e_iconst (pc := 45) (v := 3) d_M_code_45 (by decide) ?_
    refine e_icmp_eq (pc := 46) (tgt := 54) d_M_code_46 (by decide) (fun h9 => absurd h9 (by decide)) (fun _ => ?_)
    refine e_iload_n (pc := 49) d_M_code_49 rfl ?_
    refine e_iconst (pc := 50) (v := 4) d_M_code_50 (by decide) ?_
    refine e_icmp_ne (pc := 51) (tgt := 62) d_M_code_51 (by decide) (fun _ => ?_) (fun h9 => absurd h9 (by decide))
    refine e_iload_n (pc := 62) d_M_code_62 rfl ?_
    refine e_bipush (pc := 63) (v := 6) d_M_code_63 (by decide) ?_
    refine e_icmp_ne (pc := 65) (tgt := 80) d_M_code_65 (by decide) (fun _ => ?_) (fun h9 => absurd h9 (by decide))
    refine e_iconst (pc := 80) (v := 1) d_M_code_80 (by decide) ?_
    refine e_goto (pc := 81) (tgt := 85) d_M_code_81 (by decide) ?_
    refine e_istore (pc := 85) d_M_code_85 (Nat.le_of_ble_eq_true rfl) ?_
    dsimp only [List.set]
    refine e_aload_n (pc := 87) d_M_code_87 rfl ?_
    refine e_iload_n (pc := 88) d_M_code_88 rfl ?_
    refine e_if_lt (pc := 89) (tgt := 108) d_M_code_89 (by decide) (fun h9 => absurd h9 (by decide)) (fun _ => ?_)
    refine e_iload_n (pc := 92) d_M_code_92 rfl ?_
    refine e_bipush (pc := 93) (v := 7) d_M_code_93 (by decide) ?_
    refine e_icmp_gt (pc := 95) (tgt := 108) d_M_code_95 (by decide) (fun h9 => absurd h9 (by decide)) (fun _ => ?_)
    refine e_iload (pc := 98) d_M_code_98 rfl ?_
    refine e_if_eq (pc := 100) (tgt := 108) d_M_code_100 (by decide) (fun _ => ?_) (fun h9 => absurd (by decide) h9)
    refine e_iconst (pc := 108) (v := 2) d_M_code_108 (by decide) ?_
    refine e_goto (pc := 109) (tgt := 128) d_M_code_109 (by decide) ?_
    refine e_put (pc := 128) s_M_code_128 rfl (Nat.le_of_ble_eq_true rfl) zFit.int wTh ?_
    refine e_aload_n (pc := 131) d_M_code_131 rfl ?_
    refine e_get (pc := 132) s_M_code_132 rfl rfl ?_
    refine e_if_le (pc := 135) (tgt := 140) d_M_code_135 (by decide) (fun h9 => absurd h9 (by decide)) (fun _ => ?_)
    refine e_iconst (pc := 138) (v := 0) d_M_code_138 (by decide) ?_
    exact e_iret (pc := 139) d_M_code_139 rfl rfl (Nat.le_of_ble_eq_true rfl) (Nat.le_of_ble_eq_true rfl) (by simp [h25])
  · replace h25 := b1.mp h25
    refine e_iconst (pc := 28) (v := 1) d_M_code_28 (by decide) ?_
    refine e_goto (pc := 29) (tgt := 33) d_M_code_29 (by decide) ?_
    refine e_istore (pc := 33) d_M_code_33 (Nat.le_of_ble_eq_true rfl) ?_
    dsimp only [List.set]
    refine e_iload_n (pc := 35) d_M_code_35 rfl ?_
    refine e_if_eq (pc := 36) (tgt := 54) d_M_code_36 (by decide) (fun h9 => absurd h9 (by decide)) (fun _ => ?_)
    refine e_iload_n (pc := 39) d_M_code_39 rfl ?_
    refine e_iconst (pc := 40) (v := 1) d_M_code_40 (by decide) ?_
    refine e_icmp_eq (pc := 41) (tgt := 54) d_M_code_41 (by decide) (fun h9 => absurd h9 (by decide)) (fun _ => ?_)
    refine e_iload_n (pc := 44) d_M_code_44 rfl ?_
    refine e_iconst (pc := 45) (v := 3) d_M_code_45 (by decide) ?_
    refine e_icmp_eq (pc := 46) (tgt := 54) d_M_code_46 (by decide) (fun h9 => absurd h9 (by decide)) (fun _ => ?_)
    refine e_iload_n (pc := 49) d_M_code_49 rfl ?_
    refine e_iconst (pc := 50) (v := 4) d_M_code_50 (by decide) ?_
    refine e_icmp_ne (pc := 51) (tgt := 62) d_M_code_51 (by decide) (fun _ => ?_) (fun h9 => absurd h9 (by decide))
    refine e_iload_n (pc := 62) d_M_code_62 rfl ?_
    refine e_bipush (pc := 63) (v := 6) d_M_code_63 (by decide) ?_
    refine e_icmp_ne (pc := 65) (tgt := 80) d_M_code_65 (by decide) (fun _ => ?_) (fun h9 => absurd h9 (by decide))
    refine e_iconst (pc := 80) (v := 1) d_M_code_80 (by decide) ?_
    refine e_goto (pc := 81) (tgt := 85) d_M_code_81 (by decide) ?_
    refine e_istore (pc := 85) d_M_code_85 (Nat.le_of_ble_eq_true rfl) ?_
    dsimp only [List.set]
    refine e_aload_n (pc := 87) d_M_code_87 rfl ?_
    refine e_iload_n (pc := 88) d_M_code_88 rfl ?_
    refine e_if_lt (pc := 89) (tgt := 108) d_M_code_89 (by decide) (fun h9 => absurd h9 (by decide)) (fun _ => ?_)
    refine e_iload_n (pc := 92) d_M_code_92 rfl ?_
    refine e_bipush (pc := 93) (v := 7) d_M_code_93 (by decide) ?_
    refine e_icmp_gt (pc := 95) (tgt := 108) d_M_code_95 (by decide) (fun h9 => absurd h9 (by decide)) (fun _ => ?_)
    refine e_iload (pc := 98) d_M_code_98 rfl ?_
    refine e_if_eq (pc := 100) (tgt := 108) d_M_code_100 (by decide) (fun h9 => absurd h9 (by decide)) (fun _ => ?_)
    refine e_iload (pc := 103) d_M_code_103 rfl ?_
    refine e_if_ne (pc := 105) (tgt := 112) d_M_code_105 (by decide) (fun _ => ?_) (fun h9 => absurd h9 (by decide))
    exact absurd hv (by simp [vB, ← gt15, h25])
set_option maxHeartbeats 4000000 in
set_option maxRecDepth 100000 in
theorem sM_codeX5_3 {l : Launch} {G : zGP} {K : Nat} {S T : St} {th : Int32} {fo : Nat → Int64} {c : Nat} (hc : c < 3) {a b : Int32} (hv : vB 5 a b = true) (h1 : T 1 c 0 = 16) : Rn l G m_M_code [.ref 45, .int (nI c), .int (nI 5), .int a, .int b] (hpA K S T th fo) (.inl (some (.int 0)), (hpA K S T 3 fo)) := by
  refine Rn.of (by decide) rfl rfl (Nat.le_of_ble_eq_true rfl) rfl ?_
  show Ev l G m_M_code 0 [.ref 45, .int (nI c), .int (nI 5), .int a, .int b, .double 0, .double 0, .double 0] [] (hpA K S T th fo) 0 0 _
  refine e_aload_n (pc := 0) d_M_code_0 rfl ?_
  refine e_iload_n (pc := 1) d_M_code_1 rfl ?_
  refine e_cV1 (pc := 2) s_M_code_2 (sM_core hc) rfl rfl rfl (Nat.le_of_ble_eq_true rfl) (Nat.le_of_ble_eq_true rfl) (Nat.le_of_ble_eq_true rfl) (zGo.v ?_)
  refine e_if_ne (pc := 5) (tgt := 10) d_M_code_5 (by decide) (fun _ => ?_) (fun h9 => absurd h9 (by decide))
  refine e_iload_n (pc := 10) d_M_code_10 rfl ?_
  refine e_iconst (pc := 11) (v := 2) d_M_code_11 (by decide) ?_
  refine e_icmp_eq (pc := 12) (tgt := 28) d_M_code_12 (by decide) (fun h9 => absurd h9 (by decide)) (fun _ => ?_)
  refine e_iload_n (pc := 15) d_M_code_15 rfl ?_
  refine e_bipush (pc := 16) (v := 7) d_M_code_16 (by decide) ?_
  refine e_icmp_eq (pc := 18) (tgt := 28) d_M_code_18 (by decide) (fun h9 => absurd h9 (by decide)) (fun _ => ?_)
  refine e_iload_n (pc := 21) d_M_code_21 rfl ?_
  refine e_cS1 (pc := 22) s_M_code_22 (sp_MisRegister) (Nat.le_of_ble_eq_true rfl) (Nat.le_of_ble_eq_true rfl) (Nat.le_of_ble_eq_true rfl) (zGo.v ?_)
  refine e_if_eq (pc := 25) (tgt := 32) d_M_code_25 (by decide) (fun h26 => ?_) (fun h26 => ?_)
  · replace h26 := b0.mp h26
    refine e_iconst (pc := 32) (v := 0) d_M_code_32 (by decide) ?_
    refine e_istore (pc := 33) d_M_code_33 (Nat.le_of_ble_eq_true rfl) ?_
    dsimp only [List.set]
    refine e_iload_n (pc := 35) d_M_code_35 rfl ?_
    refine e_if_eq (pc := 36) (tgt := 54) d_M_code_36 (by decide) (fun h9 => absurd h9 (by decide)) (fun _ => ?_)
    refine e_iload_n (pc := 39) d_M_code_39 rfl ?_
    refine e_iconst (pc := 40) (v := 1) d_M_code_40 (by decide) ?_
    refine e_icmp_eq (pc := 41) (tgt := 54) d_M_code_41 (by decide) (fun h9 => absurd h9 (by decide)) (fun _ => ?_)
    refine e_iload_n (pc := 44) d_M_code_44 rfl ?_
    refine e_iconst (pc := 45) (v := 3) d_M_code_45 (by decide) ?_
    refine e_icmp_eq (pc := 46) (tgt := 54) d_M_code_46 (by decide) (fun h9 => absurd h9 (by decide)) (fun _ => ?_)
    refine e_iload_n (pc := 49) d_M_code_49 rfl ?_
    refine e_iconst (pc := 50) (v := 4) d_M_code_50 (by decide) ?_
    refine e_icmp_ne (pc := 51) (tgt := 62) d_M_code_51 (by decide) (fun _ => ?_) (fun h9 => absurd h9 (by decide))
    refine e_iload_n (pc := 62) d_M_code_62 rfl ?_
    refine e_bipush (pc := 63) (v := 6) d_M_code_63 (by decide) ?_
    refine e_icmp_ne (pc := 65) (tgt := 80) d_M_code_65 (by decide) (fun _ => ?_) (fun h9 => absurd h9 (by decide))
    refine e_iconst (pc := 80) (v := 1) d_M_code_80 (by decide) ?_
    refine e_goto (pc := 81) (tgt := 85) d_M_code_81 (by decide) ?_
    refine e_istore (pc := 85) d_M_code_85 (Nat.le_of_ble_eq_true rfl) ?_
    dsimp only [List.set]
    refine e_aload_n (pc := 87) d_M_code_87 rfl ?_
    refine e_iload_n (pc := 88) d_M_code_88 rfl ?_
    refine e_if_lt (pc := 89) (tgt := 108) d_M_code_89 (by decide) (fun h9 => absurd h9 (by decide)) (fun _ => ?_)
    refine e_iload_n (pc := 92) d_M_code_92 rfl ?_
    refine e_bipush (pc := 93) (v := 7) d_M_code_93 (by decide) ?_
    refine e_icmp_gt (pc := 95) (tgt := 108) d_M_code_95 (by decide) (fun h9 => absurd h9 (by decide)) (fun _ => ?_)
    refine e_iload (pc := 98) d_M_code_98 rfl ?_
    refine e_if_eq (pc := 100) (tgt := 108) d_M_code_100 (by decide) (fun _ => ?_) (fun h9 => absurd (by decide) h9)
    exact absurd hv (by simp [vB, ← gt15, h26])
  · replace h26 := b1.mp h26
    refine e_iconst (pc := 28) (v := 1) d_M_code_28 (by decide) ?_
    refine e_goto (pc := 29) (tgt := 33) d_M_code_29 (by decide) ?_
    refine e_istore (pc := 33) d_M_code_33 (Nat.le_of_ble_eq_true rfl) ?_
    dsimp only [List.set]
    refine e_iload_n (pc := 35) d_M_code_35 rfl ?_
    refine e_if_eq (pc := 36) (tgt := 54) d_M_code_36 (by decide) (fun h9 => absurd h9 (by decide)) (fun _ => ?_)
    refine e_iload_n (pc := 39) d_M_code_39 rfl ?_
    refine e_iconst (pc := 40) (v := 1) d_M_code_40 (by decide) ?_
    refine e_icmp_eq (pc := 41) (tgt := 54) d_M_code_41 (by decide) (fun h9 => absurd h9 (by decide)) (fun _ => ?_)
    refine e_iload_n (pc := 44) d_M_code_44 rfl ?_
    refine e_iconst (pc := 45) (v := 3) d_M_code_45 (by decide) ?_
    refine e_icmp_eq (pc := 46) (tgt := 54) d_M_code_46 (by decide) (fun h9 => absurd h9 (by decide)) (fun _ => ?_)
    refine e_iload_n (pc := 49) d_M_code_49 rfl ?_
    refine e_iconst (pc := 50) (v := 4) d_M_code_50 (by decide) ?_
    refine e_icmp_ne (pc := 51) (tgt := 62) d_M_code_51 (by decide) (fun _ => ?_) (fun h9 => absurd h9 (by decide))
    refine e_iload_n (pc := 62) d_M_code_62 rfl ?_
    refine e_bipush (pc := 63) (v := 6) d_M_code_63 (by decide) ?_
    refine e_icmp_ne (pc := 65) (tgt := 80) d_M_code_65 (by decide) (fun _ => ?_) (fun h9 => absurd h9 (by decide))
    refine e_iconst (pc := 80) (v := 1) d_M_code_80 (by decide) ?_
    refine e_goto (pc := 81) (tgt := 85) d_M_code_81 (by decide) ?_
    refine e_istore (pc := 85) d_M_code_85 (Nat.le_of_ble_eq_true rfl) ?_
    dsimp only [List.set]
    refine e_aload_n (pc := 87) d_M_code_87 rfl ?_
    refine e_iload_n (pc := 88) d_M_code_88 rfl ?_
    refine e_if_lt (pc := 89) (tgt := 108) d_M_code_89 (by decide) (fun h9 => absurd h9 (by decide)) (fun _ => ?_)
    refine e_iload_n (pc := 92) d_M_code_92 rfl ?_
    refine e_bipush (pc := 93) (v := 7) d_M_code_93 (by decide) ?_
    refine e_icmp_gt (pc := 95) (tgt := 108) d_M_code_95 (by decide) (fun h9 => absurd h9 (by decide)) (fun _ => ?_)
    refine e_iload (pc := 98) d_M_code_98 rfl ?_
    refine e_if_eq (pc := 100) (tgt := 108) d_M_code_100 (by decide) (fun h9 => absurd h9 (by decide)) (fun _ => ?_)
    refine e_iload (pc := 103) d_M_code_103 rfl ?_
    refine e_if_ne (pc := 105) (tgt := 112) d_M_code_105 (by decide) (fun _ => ?_) (fun h9 => absurd h9 (by decide))
    refine e_aload_n (pc := 112) d_M_code_112 rfl ?_
    refine e_get (pc := 113) s_M_code_113 rfl rfl ?_
    refine e_iload_n (pc := 116) d_M_code_116 rfl ?_
    refine e_iald (pc := 117) d_M_code_117 rfl (vp_in_nI (by omega) (by decide)) ((fx1 (nI_clamp (by omega))).trans h1) ?_
    refine e_bipush (pc := 118) (v := 16) d_M_code_118 (by decide) ?_
    refine e_icmp_ne (pc := 120) (tgt := 127) d_M_code_120 (by decide) (fun h9 => absurd (rfl) h9) (fun _ => ?_)
    refine e_iconst (pc := 123) (v := 3) d_M_code_123 (by decide) ?_
    refine e_goto (pc := 124) (tgt := 128) d_M_code_124 (by decide) ?_
    refine e_put (pc := 128) s_M_code_128 rfl (Nat.le_of_ble_eq_true rfl) zFit.int wTh ?_
    refine e_aload_n (pc := 131) d_M_code_131 rfl ?_
    refine e_get (pc := 132) s_M_code_132 rfl rfl ?_
    refine e_if_le (pc := 135) (tgt := 140) d_M_code_135 (by decide) (fun h9 => absurd h9 (by decide)) (fun _ => ?_)
    refine e_iconst (pc := 138) (v := 0) d_M_code_138 (by decide) ?_
    exact e_iret (pc := 139) d_M_code_139 rfl rfl (Nat.le_of_ble_eq_true rfl) (Nat.le_of_ble_eq_true rfl) (by simp [h26])
set_option maxHeartbeats 4000000 in
set_option maxRecDepth 100000 in
theorem sM_code5 {l : Launch} {G : zGP} {K : Nat} {S T : St} {th : Int32} {fo : Nat → Int64} {c : Nat} (hc : c < 3) {q : Nat} {a b : Int32} (hq : q < 16) (hv : vB 5 a b = true) (h1 : T 1 c 0 = nI q) : Rn l G m_M_code [.ref 45, .int (nI c), .int (nI 5), .int a, .int b] (hpA K S T th fo) (.inl (some (.int (nI q + 1))), (hpA K S (su (su (su (su T 2 c q (nI 5)) 3 c q a) 4 c q b) 1 c 0 (nI q + 1)) 0 fo)) := by
  refine Rn.of (by decide) rfl rfl (Nat.le_of_ble_eq_true rfl) rfl ?_
  show Ev l G m_M_code 0 [.ref 45, .int (nI c), .int (nI 5), .int a, .int b, .double 0, .double 0, .double 0] [] (hpA K S T th fo) 0 0 _
  refine e_aload_n (pc := 0) d_M_code_0 rfl ?_
  refine e_iload_n (pc := 1) d_M_code_1 rfl ?_
  refine e_cV1 (pc := 2) s_M_code_2 (sM_core hc) rfl rfl rfl (Nat.le_of_ble_eq_true rfl) (Nat.le_of_ble_eq_true rfl) (Nat.le_of_ble_eq_true rfl) (zGo.v ?_)
  refine e_if_ne (pc := 5) (tgt := 10) d_M_code_5 (by decide) (fun _ => ?_) (fun h9 => absurd h9 (by decide))
  refine e_iload_n (pc := 10) d_M_code_10 rfl ?_
  refine e_iconst (pc := 11) (v := 2) d_M_code_11 (by decide) ?_
  refine e_icmp_eq (pc := 12) (tgt := 28) d_M_code_12 (by decide) (fun h9 => absurd h9 (by decide)) (fun _ => ?_)
  refine e_iload_n (pc := 15) d_M_code_15 rfl ?_
  refine e_bipush (pc := 16) (v := 7) d_M_code_16 (by decide) ?_
  refine e_icmp_eq (pc := 18) (tgt := 28) d_M_code_18 (by decide) (fun h9 => absurd h9 (by decide)) (fun _ => ?_)
  refine e_iload_n (pc := 21) d_M_code_21 rfl ?_
  refine e_cS1 (pc := 22) s_M_code_22 (sp_MisRegister) (Nat.le_of_ble_eq_true rfl) (Nat.le_of_ble_eq_true rfl) (Nat.le_of_ble_eq_true rfl) (zGo.v ?_)
  refine e_if_eq (pc := 25) (tgt := 32) d_M_code_25 (by decide) (fun h27 => ?_) (fun h27 => ?_)
  · replace h27 := b0.mp h27
    refine e_iconst (pc := 32) (v := 0) d_M_code_32 (by decide) ?_
    refine e_istore (pc := 33) d_M_code_33 (Nat.le_of_ble_eq_true rfl) ?_
    dsimp only [List.set]
    refine e_iload_n (pc := 35) d_M_code_35 rfl ?_
    refine e_if_eq (pc := 36) (tgt := 54) d_M_code_36 (by decide) (fun h9 => absurd h9 (by decide)) (fun _ => ?_)
    refine e_iload_n (pc := 39) d_M_code_39 rfl ?_
    refine e_iconst (pc := 40) (v := 1) d_M_code_40 (by decide) ?_
    refine e_icmp_eq (pc := 41) (tgt := 54) d_M_code_41 (by decide) (fun h9 => absurd h9 (by decide)) (fun _ => ?_)
    refine e_iload_n (pc := 44) d_M_code_44 rfl ?_
    refine e_iconst (pc := 45) (v := 3) d_M_code_45 (by decide) ?_
    refine e_icmp_eq (pc := 46) (tgt := 54) d_M_code_46 (by decide) (fun h9 => absurd h9 (by decide)) (fun _ => ?_)
    refine e_iload_n (pc := 49) d_M_code_49 rfl ?_
    refine e_iconst (pc := 50) (v := 4) d_M_code_50 (by decide) ?_
    refine e_icmp_ne (pc := 51) (tgt := 62) d_M_code_51 (by decide) (fun _ => ?_) (fun h9 => absurd h9 (by decide))
    refine e_iload_n (pc := 62) d_M_code_62 rfl ?_
    refine e_bipush (pc := 63) (v := 6) d_M_code_63 (by decide) ?_
    refine e_icmp_ne (pc := 65) (tgt := 80) d_M_code_65 (by decide) (fun _ => ?_) (fun h9 => absurd h9 (by decide))
    refine e_iconst (pc := 80) (v := 1) d_M_code_80 (by decide) ?_
    refine e_goto (pc := 81) (tgt := 85) d_M_code_81 (by decide) ?_
    refine e_istore (pc := 85) d_M_code_85 (Nat.le_of_ble_eq_true rfl) ?_
    dsimp only [List.set]
    refine e_aload_n (pc := 87) d_M_code_87 rfl ?_
    refine e_iload_n (pc := 88) d_M_code_88 rfl ?_
    refine e_if_lt (pc := 89) (tgt := 108) d_M_code_89 (by decide) (fun h9 => absurd h9 (by decide)) (fun _ => ?_)
    refine e_iload_n (pc := 92) d_M_code_92 rfl ?_
    refine e_bipush (pc := 93) (v := 7) d_M_code_93 (by decide) ?_
    refine e_icmp_gt (pc := 95) (tgt := 108) d_M_code_95 (by decide) (fun h9 => absurd h9 (by decide)) (fun _ => ?_)
    refine e_iload (pc := 98) d_M_code_98 rfl ?_
    refine e_if_eq (pc := 100) (tgt := 108) d_M_code_100 (by decide) (fun _ => ?_) (fun h9 => absurd (by decide) h9)
    exact absurd hv (by simp [vB, ← gt15, h27])
  · replace h27 := b1.mp h27
    refine e_iconst (pc := 28) (v := 1) d_M_code_28 (by decide) ?_
    refine e_goto (pc := 29) (tgt := 33) d_M_code_29 (by decide) ?_
    refine e_istore (pc := 33) d_M_code_33 (Nat.le_of_ble_eq_true rfl) ?_
    dsimp only [List.set]
    refine e_iload_n (pc := 35) d_M_code_35 rfl ?_
    refine e_if_eq (pc := 36) (tgt := 54) d_M_code_36 (by decide) (fun h9 => absurd h9 (by decide)) (fun _ => ?_)
    refine e_iload_n (pc := 39) d_M_code_39 rfl ?_
    refine e_iconst (pc := 40) (v := 1) d_M_code_40 (by decide) ?_
    refine e_icmp_eq (pc := 41) (tgt := 54) d_M_code_41 (by decide) (fun h9 => absurd h9 (by decide)) (fun _ => ?_)
    refine e_iload_n (pc := 44) d_M_code_44 rfl ?_
    refine e_iconst (pc := 45) (v := 3) d_M_code_45 (by decide) ?_
    refine e_icmp_eq (pc := 46) (tgt := 54) d_M_code_46 (by decide) (fun h9 => absurd h9 (by decide)) (fun _ => ?_)
    refine e_iload_n (pc := 49) d_M_code_49 rfl ?_
    refine e_iconst (pc := 50) (v := 4) d_M_code_50 (by decide) ?_
    refine e_icmp_ne (pc := 51) (tgt := 62) d_M_code_51 (by decide) (fun _ => ?_) (fun h9 => absurd h9 (by decide))
    refine e_iload_n (pc := 62) d_M_code_62 rfl ?_
    refine e_bipush (pc := 63) (v := 6) d_M_code_63 (by decide) ?_
    refine e_icmp_ne (pc := 65) (tgt := 80) d_M_code_65 (by decide) (fun _ => ?_) (fun h9 => absurd h9 (by decide))
    refine e_iconst (pc := 80) (v := 1) d_M_code_80 (by decide) ?_
    refine e_goto (pc := 81) (tgt := 85) d_M_code_81 (by decide) ?_
    refine e_istore (pc := 85) d_M_code_85 (Nat.le_of_ble_eq_true rfl) ?_
    dsimp only [List.set]
    refine e_aload_n (pc := 87) d_M_code_87 rfl ?_
    refine e_iload_n (pc := 88) d_M_code_88 rfl ?_
    refine e_if_lt (pc := 89) (tgt := 108) d_M_code_89 (by decide) (fun h9 => absurd h9 (by decide)) (fun _ => ?_)
    refine e_iload_n (pc := 92) d_M_code_92 rfl ?_
    refine e_bipush (pc := 93) (v := 7) d_M_code_93 (by decide) ?_
    refine e_icmp_gt (pc := 95) (tgt := 108) d_M_code_95 (by decide) (fun h9 => absurd h9 (by decide)) (fun _ => ?_)
    refine e_iload (pc := 98) d_M_code_98 rfl ?_
    refine e_if_eq (pc := 100) (tgt := 108) d_M_code_100 (by decide) (fun h9 => absurd h9 (by decide)) (fun _ => ?_)
    refine e_iload (pc := 103) d_M_code_103 rfl ?_
    refine e_if_ne (pc := 105) (tgt := 112) d_M_code_105 (by decide) (fun _ => ?_) (fun h9 => absurd h9 (by decide))
    refine e_aload_n (pc := 112) d_M_code_112 rfl ?_
    refine e_get (pc := 113) s_M_code_113 rfl rfl ?_
    refine e_iload_n (pc := 116) d_M_code_116 rfl ?_
    refine e_iald (pc := 117) d_M_code_117 rfl (vp_in_nI (by omega) (by decide)) ((fx1 (nI_clamp (by omega))).trans h1) ?_
    refine e_bipush (pc := 118) (v := 16) d_M_code_118 (by decide) ?_
    refine e_icmp_ne (pc := 120) (tgt := 127) d_M_code_120 (by decide) (fun _ => ?_) (fun h9 => absurd h9 (fun q9 => absurd ((nI_eq (b := 16) (by omega) (by decide)).mp q9) (by omega)))
    refine e_iconst (pc := 127) (v := 0) d_M_code_127 (by decide) ?_
    refine e_put (pc := 128) s_M_code_128 rfl (Nat.le_of_ble_eq_true rfl) zFit.int wTh ?_
    refine e_aload_n (pc := 131) d_M_code_131 rfl ?_
    refine e_get (pc := 132) s_M_code_132 rfl rfl ?_
    refine e_if_le (pc := 135) (tgt := 140) d_M_code_135 (by decide) (fun _ => ?_) (fun h9 => absurd (by decide) h9)
    refine e_bipush (pc := 140) (v := 16) d_M_code_140 (by decide) ?_
    refine e_iload_n (pc := 142) d_M_code_142 rfl ?_
    refine e_imul (pc := 143) d_M_code_143 ?_
    refine e_aload_n (pc := 144) d_M_code_144 rfl ?_
    refine e_get (pc := 145) s_M_code_145 rfl rfl ?_
    refine e_iload_n (pc := 148) d_M_code_148 rfl ?_
    refine e_iald (pc := 149) d_M_code_149 rfl (vp_in_nI (by omega) (by decide)) ((fx1 (nI_clamp (by omega))).trans h1) ?_
    refine e_iadd (pc := 150) d_M_code_150 ?_
    refine e_topi (y := nI (16 * c + q)) (ixM 16 c q) ?_
    refine e_istore (pc := 151) d_M_code_151 (Nat.le_of_ble_eq_true rfl) ?_
    dsimp only [List.set]
    refine e_aload_n (pc := 153) d_M_code_153 rfl ?_
    refine e_get (pc := 154) s_M_code_154 rfl rfl ?_
    refine e_iload (pc := 157) d_M_code_157 rfl ?_
    refine e_iload_n (pc := 159) d_M_code_159 rfl ?_
    refine e_iast (pc := 160) d_M_code_160 rfl (vp_in_nI (by omega) (by decide)) (vOp (nI_clamp (by omega)) hq) ?_
    refine e_aload_n (pc := 161) d_M_code_161 rfl ?_
    refine e_get (pc := 162) s_M_code_162 rfl rfl ?_
    refine e_iload (pc := 165) d_M_code_165 rfl ?_
    refine e_iload_n (pc := 167) d_M_code_167 rfl ?_
    refine e_iast (pc := 168) d_M_code_168 rfl (vp_in_nI (by omega) (by decide)) (vAs (nI_clamp (by omega)) hq) ?_
    refine e_aload_n (pc := 169) d_M_code_169 rfl ?_
    refine e_get (pc := 170) s_M_code_170 rfl rfl ?_
    refine e_iload (pc := 173) d_M_code_173 rfl ?_
    refine e_iload (pc := 175) d_M_code_175 rfl ?_
    refine e_iast (pc := 177) d_M_code_177 rfl (vp_in_nI (by omega) (by decide)) (vBs (nI_clamp (by omega)) hq) ?_
    refine e_aload_n (pc := 178) d_M_code_178 rfl ?_
    refine e_get (pc := 179) s_M_code_179 rfl rfl ?_
    refine e_iload_n (pc := 182) d_M_code_182 rfl ?_
    refine e_dup2 (pc := 183) d_M_code_183 rfl rfl ?_
    refine e_iald (pc := 184) d_M_code_184 rfl (vp_in_nI (by omega) (by decide)) ((fx1 (nI_clamp (by omega))).trans h1) ?_
    refine e_iconst (pc := 185) (v := 1) d_M_code_185 (by decide) ?_
    refine e_iadd (pc := 186) d_M_code_186 ?_
    refine e_iast (pc := 187) d_M_code_187 rfl (vp_in_nI (by omega) (by decide)) (vLen (nI_clamp (by omega))) ?_
    refine e_aload_n (pc := 188) d_M_code_188 rfl ?_
    refine e_get (pc := 189) s_M_code_189 rfl rfl ?_
    refine e_iload_n (pc := 192) d_M_code_192 rfl ?_
    refine e_iald (pc := 193) d_M_code_193 rfl (vp_in_nI (by omega) (by decide)) ((fx1 (nI_clamp (by omega))).trans (su_at _ _ _ _ _)) ?_
    exact e_iret (pc := 194) d_M_code_194 rfl rfl (Nat.le_of_ble_eq_true rfl) (Nat.le_of_ble_eq_true rfl) rfl
set_option maxHeartbeats 4000000 in
set_option maxRecDepth 100000 in
theorem sM_codeX6_2 {l : Launch} {G : zGP} {K : Nat} {S T : St} {th : Int32} {fo : Nat → Int64} {c : Nat} (hc : c < 3) {a b : Int32} (hv : vB 6 a b = false) : Rn l G m_M_code [.ref 45, .int (nI c), .int (nI 6), .int a, .int b] (hpA K S T th fo) (.inl (some (.int 0)), (hpA K S T 2 fo)) := by
  refine Rn.of (by decide) rfl rfl (Nat.le_of_ble_eq_true rfl) rfl ?_
  show Ev l G m_M_code 0 [.ref 45, .int (nI c), .int (nI 6), .int a, .int b, .double 0, .double 0, .double 0] [] (hpA K S T th fo) 0 0 _
  refine e_aload_n (pc := 0) d_M_code_0 rfl ?_
  refine e_iload_n (pc := 1) d_M_code_1 rfl ?_
  refine e_cV1 (pc := 2) s_M_code_2 (sM_core hc) rfl rfl rfl (Nat.le_of_ble_eq_true rfl) (Nat.le_of_ble_eq_true rfl) (Nat.le_of_ble_eq_true rfl) (zGo.v ?_)
  refine e_if_ne (pc := 5) (tgt := 10) d_M_code_5 (by decide) (fun _ => ?_) (fun h9 => absurd h9 (by decide))
  refine e_iload_n (pc := 10) d_M_code_10 rfl ?_
  refine e_iconst (pc := 11) (v := 2) d_M_code_11 (by decide) ?_
  refine e_icmp_eq (pc := 12) (tgt := 28) d_M_code_12 (by decide) (fun h9 => absurd h9 (by decide)) (fun _ => ?_)
  refine e_iload_n (pc := 15) d_M_code_15 rfl ?_
  refine e_bipush (pc := 16) (v := 7) d_M_code_16 (by decide) ?_
  refine e_icmp_eq (pc := 18) (tgt := 28) d_M_code_18 (by decide) (fun h9 => absurd h9 (by decide)) (fun _ => ?_)
  refine e_iload_n (pc := 21) d_M_code_21 rfl ?_
  refine e_cS1 (pc := 22) s_M_code_22 (sp_MisRegister) (Nat.le_of_ble_eq_true rfl) (Nat.le_of_ble_eq_true rfl) (Nat.le_of_ble_eq_true rfl) (zGo.v ?_)
  refine e_if_eq (pc := 25) (tgt := 32) d_M_code_25 (by decide) (fun h28 => ?_) (fun h28 => ?_)
  · replace h28 := b0.mp h28
    refine e_iconst (pc := 32) (v := 0) d_M_code_32 (by decide) ?_
    refine e_istore (pc := 33) d_M_code_33 (Nat.le_of_ble_eq_true rfl) ?_
    dsimp only [List.set]
    refine e_iload_n (pc := 35) d_M_code_35 rfl ?_
    refine e_if_eq (pc := 36) (tgt := 54) d_M_code_36 (by decide) (fun h9 => absurd h9 (by decide)) (fun _ => ?_)
    refine e_iload_n (pc := 39) d_M_code_39 rfl ?_
    refine e_iconst (pc := 40) (v := 1) d_M_code_40 (by decide) ?_
    refine e_icmp_eq (pc := 41) (tgt := 54) d_M_code_41 (by decide) (fun h9 => absurd h9 (by decide)) (fun _ => ?_)
    refine e_iload_n (pc := 44) d_M_code_44 rfl ?_
    refine e_iconst (pc := 45) (v := 3) d_M_code_45 (by decide) ?_
    refine e_icmp_eq (pc := 46) (tgt := 54) d_M_code_46 (by decide) (fun h9 => absurd h9 (by decide)) (fun _ => ?_)
    refine e_iload_n (pc := 49) d_M_code_49 rfl ?_
    refine e_iconst (pc := 50) (v := 4) d_M_code_50 (by decide) ?_
    refine e_icmp_ne (pc := 51) (tgt := 62) d_M_code_51 (by decide) (fun _ => ?_) (fun h9 => absurd h9 (by decide))
    refine e_iload_n (pc := 62) d_M_code_62 rfl ?_
    refine e_bipush (pc := 63) (v := 6) d_M_code_63 (by decide) ?_
    refine e_icmp_ne (pc := 65) (tgt := 80) d_M_code_65 (by decide) (fun h9 => absurd (by decide) h9) (fun _ => ?_)
    refine e_iload (pc := 68) d_M_code_68 rfl ?_
    refine e_if_lt (pc := 70) (tgt := 84) d_M_code_70 (by decide) (fun h29 => ?_) (fun h29 => ?_)
    · refine e_iconst (pc := 84) (v := 0) d_M_code_84 (by decide) ?_
      refine e_istore (pc := 85) d_M_code_85 (Nat.le_of_ble_eq_true rfl) ?_
      dsimp only [List.set]
      refine e_aload_n (pc := 87) d_M_code_87 rfl ?_
      refine e_iload_n (pc := 88) d_M_code_88 rfl ?_
      refine e_if_lt (pc := 89) (tgt := 108) d_M_code_89 (by decide) (fun h9 => absurd h9 (by decide)) (fun _ => ?_)
      refine e_iload_n (pc := 92) d_M_code_92 rfl ?_
      refine e_bipush (pc := 93) (v := 7) d_M_code_93 (by decide) ?_
      refine e_icmp_gt (pc := 95) (tgt := 108) d_M_code_95 (by decide) (fun h9 => absurd h9 (by decide)) (fun _ => ?_)
      refine e_iload (pc := 98) d_M_code_98 rfl ?_
      refine e_if_eq (pc := 100) (tgt := 108) d_M_code_100 (by decide) (fun _ => ?_) (fun h9 => absurd (by decide) h9)
      refine e_iconst (pc := 108) (v := 2) d_M_code_108 (by decide) ?_
      refine e_goto (pc := 109) (tgt := 128) d_M_code_109 (by decide) ?_
      refine e_put (pc := 128) s_M_code_128 rfl (Nat.le_of_ble_eq_true rfl) zFit.int wTh ?_
      refine e_aload_n (pc := 131) d_M_code_131 rfl ?_
      refine e_get (pc := 132) s_M_code_132 rfl rfl ?_
      refine e_if_le (pc := 135) (tgt := 140) d_M_code_135 (by decide) (fun h9 => absurd h9 (by decide)) (fun _ => ?_)
      refine e_iconst (pc := 138) (v := 0) d_M_code_138 (by decide) ?_
      exact e_iret (pc := 139) d_M_code_139 rfl rfl (Nat.le_of_ble_eq_true rfl) (Nat.le_of_ble_eq_true rfl) (by simp [h28, h29])
    · refine e_iload (pc := 73) d_M_code_73 rfl ?_
      refine e_bipush (pc := 75) (v := 15) d_M_code_75 (by decide) ?_
      refine e_icmp_gt (pc := 77) (tgt := 84) d_M_code_77 (by decide) (fun h30 => ?_) (fun h30 => ?_)
      · refine e_iconst (pc := 84) (v := 0) d_M_code_84 (by decide) ?_
        refine e_istore (pc := 85) d_M_code_85 (Nat.le_of_ble_eq_true rfl) ?_
        dsimp only [List.set]
        refine e_aload_n (pc := 87) d_M_code_87 rfl ?_
        refine e_iload_n (pc := 88) d_M_code_88 rfl ?_
        refine e_if_lt (pc := 89) (tgt := 108) d_M_code_89 (by decide) (fun h9 => absurd h9 (by decide)) (fun _ => ?_)
        refine e_iload_n (pc := 92) d_M_code_92 rfl ?_
        refine e_bipush (pc := 93) (v := 7) d_M_code_93 (by decide) ?_
        refine e_icmp_gt (pc := 95) (tgt := 108) d_M_code_95 (by decide) (fun h9 => absurd h9 (by decide)) (fun _ => ?_)
        refine e_iload (pc := 98) d_M_code_98 rfl ?_
        refine e_if_eq (pc := 100) (tgt := 108) d_M_code_100 (by decide) (fun _ => ?_) (fun h9 => absurd (by decide) h9)
        refine e_iconst (pc := 108) (v := 2) d_M_code_108 (by decide) ?_
        refine e_goto (pc := 109) (tgt := 128) d_M_code_109 (by decide) ?_
        refine e_put (pc := 128) s_M_code_128 rfl (Nat.le_of_ble_eq_true rfl) zFit.int wTh ?_
        refine e_aload_n (pc := 131) d_M_code_131 rfl ?_
        refine e_get (pc := 132) s_M_code_132 rfl rfl ?_
        refine e_if_le (pc := 135) (tgt := 140) d_M_code_135 (by decide) (fun h9 => absurd h9 (by decide)) (fun _ => ?_)
        refine e_iconst (pc := 138) (v := 0) d_M_code_138 (by decide) ?_
        exact e_iret (pc := 139) d_M_code_139 rfl rfl (Nat.le_of_ble_eq_true rfl) (Nat.le_of_ble_eq_true rfl) (by simp [h28, h29, h30])
      · refine e_iconst (pc := 80) (v := 1) d_M_code_80 (by decide) ?_
        refine e_goto (pc := 81) (tgt := 85) d_M_code_81 (by decide) ?_
        refine e_istore (pc := 85) d_M_code_85 (Nat.le_of_ble_eq_true rfl) ?_
        dsimp only [List.set]
        refine e_aload_n (pc := 87) d_M_code_87 rfl ?_
        refine e_iload_n (pc := 88) d_M_code_88 rfl ?_
        refine e_if_lt (pc := 89) (tgt := 108) d_M_code_89 (by decide) (fun h9 => absurd h9 (by decide)) (fun _ => ?_)
        refine e_iload_n (pc := 92) d_M_code_92 rfl ?_
        refine e_bipush (pc := 93) (v := 7) d_M_code_93 (by decide) ?_
        refine e_icmp_gt (pc := 95) (tgt := 108) d_M_code_95 (by decide) (fun h9 => absurd h9 (by decide)) (fun _ => ?_)
        refine e_iload (pc := 98) d_M_code_98 rfl ?_
        refine e_if_eq (pc := 100) (tgt := 108) d_M_code_100 (by decide) (fun _ => ?_) (fun h9 => absurd (by decide) h9)
        refine e_iconst (pc := 108) (v := 2) d_M_code_108 (by decide) ?_
        refine e_goto (pc := 109) (tgt := 128) d_M_code_109 (by decide) ?_
        refine e_put (pc := 128) s_M_code_128 rfl (Nat.le_of_ble_eq_true rfl) zFit.int wTh ?_
        refine e_aload_n (pc := 131) d_M_code_131 rfl ?_
        refine e_get (pc := 132) s_M_code_132 rfl rfl ?_
        refine e_if_le (pc := 135) (tgt := 140) d_M_code_135 (by decide) (fun h9 => absurd h9 (by decide)) (fun _ => ?_)
        refine e_iconst (pc := 138) (v := 0) d_M_code_138 (by decide) ?_
        exact e_iret (pc := 139) d_M_code_139 rfl rfl (Nat.le_of_ble_eq_true rfl) (Nat.le_of_ble_eq_true rfl) (by simp [h28, h29, h30])
  · replace h28 := b1.mp h28
    refine e_iconst (pc := 28) (v := 1) d_M_code_28 (by decide) ?_
    refine e_goto (pc := 29) (tgt := 33) d_M_code_29 (by decide) ?_
    refine e_istore (pc := 33) d_M_code_33 (Nat.le_of_ble_eq_true rfl) ?_
    dsimp only [List.set]
    refine e_iload_n (pc := 35) d_M_code_35 rfl ?_
    refine e_if_eq (pc := 36) (tgt := 54) d_M_code_36 (by decide) (fun h9 => absurd h9 (by decide)) (fun _ => ?_)
    refine e_iload_n (pc := 39) d_M_code_39 rfl ?_
    refine e_iconst (pc := 40) (v := 1) d_M_code_40 (by decide) ?_
    refine e_icmp_eq (pc := 41) (tgt := 54) d_M_code_41 (by decide) (fun h9 => absurd h9 (by decide)) (fun _ => ?_)
    refine e_iload_n (pc := 44) d_M_code_44 rfl ?_
    refine e_iconst (pc := 45) (v := 3) d_M_code_45 (by decide) ?_
    refine e_icmp_eq (pc := 46) (tgt := 54) d_M_code_46 (by decide) (fun h9 => absurd h9 (by decide)) (fun _ => ?_)
    refine e_iload_n (pc := 49) d_M_code_49 rfl ?_
    refine e_iconst (pc := 50) (v := 4) d_M_code_50 (by decide) ?_
    refine e_icmp_ne (pc := 51) (tgt := 62) d_M_code_51 (by decide) (fun _ => ?_) (fun h9 => absurd h9 (by decide))
    refine e_iload_n (pc := 62) d_M_code_62 rfl ?_
    refine e_bipush (pc := 63) (v := 6) d_M_code_63 (by decide) ?_
    refine e_icmp_ne (pc := 65) (tgt := 80) d_M_code_65 (by decide) (fun h9 => absurd (by decide) h9) (fun _ => ?_)
    refine e_iload (pc := 68) d_M_code_68 rfl ?_
    refine e_if_lt (pc := 70) (tgt := 84) d_M_code_70 (by decide) (fun h31 => ?_) (fun h31 => ?_)
    · refine e_iconst (pc := 84) (v := 0) d_M_code_84 (by decide) ?_
      refine e_istore (pc := 85) d_M_code_85 (Nat.le_of_ble_eq_true rfl) ?_
      dsimp only [List.set]
      refine e_aload_n (pc := 87) d_M_code_87 rfl ?_
      refine e_iload_n (pc := 88) d_M_code_88 rfl ?_
      refine e_if_lt (pc := 89) (tgt := 108) d_M_code_89 (by decide) (fun h9 => absurd h9 (by decide)) (fun _ => ?_)
      refine e_iload_n (pc := 92) d_M_code_92 rfl ?_
      refine e_bipush (pc := 93) (v := 7) d_M_code_93 (by decide) ?_
      refine e_icmp_gt (pc := 95) (tgt := 108) d_M_code_95 (by decide) (fun h9 => absurd h9 (by decide)) (fun _ => ?_)
      refine e_iload (pc := 98) d_M_code_98 rfl ?_
      refine e_if_eq (pc := 100) (tgt := 108) d_M_code_100 (by decide) (fun h9 => absurd h9 (by decide)) (fun _ => ?_)
      refine e_iload (pc := 103) d_M_code_103 rfl ?_
      refine e_if_ne (pc := 105) (tgt := 112) d_M_code_105 (by decide) (fun h9 => absurd (by decide) h9) (fun _ => ?_)
      refine e_iconst (pc := 108) (v := 2) d_M_code_108 (by decide) ?_
      refine e_goto (pc := 109) (tgt := 128) d_M_code_109 (by decide) ?_
      refine e_put (pc := 128) s_M_code_128 rfl (Nat.le_of_ble_eq_true rfl) zFit.int wTh ?_
      refine e_aload_n (pc := 131) d_M_code_131 rfl ?_
      refine e_get (pc := 132) s_M_code_132 rfl rfl ?_
      refine e_if_le (pc := 135) (tgt := 140) d_M_code_135 (by decide) (fun h9 => absurd h9 (by decide)) (fun _ => ?_)
      refine e_iconst (pc := 138) (v := 0) d_M_code_138 (by decide) ?_
      exact e_iret (pc := 139) d_M_code_139 rfl rfl (Nat.le_of_ble_eq_true rfl) (Nat.le_of_ble_eq_true rfl) (by simp [h28, h31])
    · refine e_iload (pc := 73) d_M_code_73 rfl ?_
      refine e_bipush (pc := 75) (v := 15) d_M_code_75 (by decide) ?_
      refine e_icmp_gt (pc := 77) (tgt := 84) d_M_code_77 (by decide) (fun h32 => ?_) (fun h32 => ?_)
      · refine e_iconst (pc := 84) (v := 0) d_M_code_84 (by decide) ?_
        refine e_istore (pc := 85) d_M_code_85 (Nat.le_of_ble_eq_true rfl) ?_
        dsimp only [List.set]
        refine e_aload_n (pc := 87) d_M_code_87 rfl ?_
        refine e_iload_n (pc := 88) d_M_code_88 rfl ?_
        refine e_if_lt (pc := 89) (tgt := 108) d_M_code_89 (by decide) (fun h9 => absurd h9 (by decide)) (fun _ => ?_)
        refine e_iload_n (pc := 92) d_M_code_92 rfl ?_
        refine e_bipush (pc := 93) (v := 7) d_M_code_93 (by decide) ?_
        refine e_icmp_gt (pc := 95) (tgt := 108) d_M_code_95 (by decide) (fun h9 => absurd h9 (by decide)) (fun _ => ?_)
        refine e_iload (pc := 98) d_M_code_98 rfl ?_
        refine e_if_eq (pc := 100) (tgt := 108) d_M_code_100 (by decide) (fun h9 => absurd h9 (by decide)) (fun _ => ?_)
        refine e_iload (pc := 103) d_M_code_103 rfl ?_
        refine e_if_ne (pc := 105) (tgt := 112) d_M_code_105 (by decide) (fun h9 => absurd (by decide) h9) (fun _ => ?_)
        refine e_iconst (pc := 108) (v := 2) d_M_code_108 (by decide) ?_
        refine e_goto (pc := 109) (tgt := 128) d_M_code_109 (by decide) ?_
        refine e_put (pc := 128) s_M_code_128 rfl (Nat.le_of_ble_eq_true rfl) zFit.int wTh ?_
        refine e_aload_n (pc := 131) d_M_code_131 rfl ?_
        refine e_get (pc := 132) s_M_code_132 rfl rfl ?_
        refine e_if_le (pc := 135) (tgt := 140) d_M_code_135 (by decide) (fun h9 => absurd h9 (by decide)) (fun _ => ?_)
        refine e_iconst (pc := 138) (v := 0) d_M_code_138 (by decide) ?_
        exact e_iret (pc := 139) d_M_code_139 rfl rfl (Nat.le_of_ble_eq_true rfl) (Nat.le_of_ble_eq_true rfl) (by simp [h28, h31, h32])
      · refine e_iconst (pc := 80) (v := 1) d_M_code_80 (by decide) ?_
        refine e_goto (pc := 81) (tgt := 85) d_M_code_81 (by decide) ?_
        refine e_istore (pc := 85) d_M_code_85 (Nat.le_of_ble_eq_true rfl) ?_
        dsimp only [List.set]
        refine e_aload_n (pc := 87) d_M_code_87 rfl ?_
        refine e_iload_n (pc := 88) d_M_code_88 rfl ?_
        refine e_if_lt (pc := 89) (tgt := 108) d_M_code_89 (by decide) (fun h9 => absurd h9 (by decide)) (fun _ => ?_)
        refine e_iload_n (pc := 92) d_M_code_92 rfl ?_
        refine e_bipush (pc := 93) (v := 7) d_M_code_93 (by decide) ?_
        refine e_icmp_gt (pc := 95) (tgt := 108) d_M_code_95 (by decide) (fun h9 => absurd h9 (by decide)) (fun _ => ?_)
        refine e_iload (pc := 98) d_M_code_98 rfl ?_
        refine e_if_eq (pc := 100) (tgt := 108) d_M_code_100 (by decide) (fun h9 => absurd h9 (by decide)) (fun _ => ?_)
        refine e_iload (pc := 103) d_M_code_103 rfl ?_
        refine e_if_ne (pc := 105) (tgt := 112) d_M_code_105 (by decide) (fun _ => ?_) (fun h9 => absurd h9 (by decide))
        exact absurd hv (by simp [vB, ← gt15, h28, h31, h32])
set_option maxHeartbeats 4000000 in
set_option maxRecDepth 100000 in
theorem sM_codeX6_3 {l : Launch} {G : zGP} {K : Nat} {S T : St} {th : Int32} {fo : Nat → Int64} {c : Nat} (hc : c < 3) {a b : Int32} (hv : vB 6 a b = true) (h1 : T 1 c 0 = 16) : Rn l G m_M_code [.ref 45, .int (nI c), .int (nI 6), .int a, .int b] (hpA K S T th fo) (.inl (some (.int 0)), (hpA K S T 3 fo)) := by
  refine Rn.of (by decide) rfl rfl (Nat.le_of_ble_eq_true rfl) rfl ?_
  show Ev l G m_M_code 0 [.ref 45, .int (nI c), .int (nI 6), .int a, .int b, .double 0, .double 0, .double 0] [] (hpA K S T th fo) 0 0 _
  refine e_aload_n (pc := 0) d_M_code_0 rfl ?_
  refine e_iload_n (pc := 1) d_M_code_1 rfl ?_
  refine e_cV1 (pc := 2) s_M_code_2 (sM_core hc) rfl rfl rfl (Nat.le_of_ble_eq_true rfl) (Nat.le_of_ble_eq_true rfl) (Nat.le_of_ble_eq_true rfl) (zGo.v ?_)
  refine e_if_ne (pc := 5) (tgt := 10) d_M_code_5 (by decide) (fun _ => ?_) (fun h9 => absurd h9 (by decide))
  refine e_iload_n (pc := 10) d_M_code_10 rfl ?_
  refine e_iconst (pc := 11) (v := 2) d_M_code_11 (by decide) ?_
  refine e_icmp_eq (pc := 12) (tgt := 28) d_M_code_12 (by decide) (fun h9 => absurd h9 (by decide)) (fun _ => ?_)
  refine e_iload_n (pc := 15) d_M_code_15 rfl ?_
  refine e_bipush (pc := 16) (v := 7) d_M_code_16 (by decide) ?_
  refine e_icmp_eq (pc := 18) (tgt := 28) d_M_code_18 (by decide) (fun h9 => absurd h9 (by decide)) (fun _ => ?_)
  refine e_iload_n (pc := 21) d_M_code_21 rfl ?_
  refine e_cS1 (pc := 22) s_M_code_22 (sp_MisRegister) (Nat.le_of_ble_eq_true rfl) (Nat.le_of_ble_eq_true rfl) (Nat.le_of_ble_eq_true rfl) (zGo.v ?_)
  refine e_if_eq (pc := 25) (tgt := 32) d_M_code_25 (by decide) (fun h33 => ?_) (fun h33 => ?_)
  · replace h33 := b0.mp h33
    refine e_iconst (pc := 32) (v := 0) d_M_code_32 (by decide) ?_
    refine e_istore (pc := 33) d_M_code_33 (Nat.le_of_ble_eq_true rfl) ?_
    dsimp only [List.set]
    refine e_iload_n (pc := 35) d_M_code_35 rfl ?_
    refine e_if_eq (pc := 36) (tgt := 54) d_M_code_36 (by decide) (fun h9 => absurd h9 (by decide)) (fun _ => ?_)
    refine e_iload_n (pc := 39) d_M_code_39 rfl ?_
    refine e_iconst (pc := 40) (v := 1) d_M_code_40 (by decide) ?_
    refine e_icmp_eq (pc := 41) (tgt := 54) d_M_code_41 (by decide) (fun h9 => absurd h9 (by decide)) (fun _ => ?_)
    refine e_iload_n (pc := 44) d_M_code_44 rfl ?_
    refine e_iconst (pc := 45) (v := 3) d_M_code_45 (by decide) ?_
    refine e_icmp_eq (pc := 46) (tgt := 54) d_M_code_46 (by decide) (fun h9 => absurd h9 (by decide)) (fun _ => ?_)
    refine e_iload_n (pc := 49) d_M_code_49 rfl ?_
    refine e_iconst (pc := 50) (v := 4) d_M_code_50 (by decide) ?_
    refine e_icmp_ne (pc := 51) (tgt := 62) d_M_code_51 (by decide) (fun _ => ?_) (fun h9 => absurd h9 (by decide))
    refine e_iload_n (pc := 62) d_M_code_62 rfl ?_
    refine e_bipush (pc := 63) (v := 6) d_M_code_63 (by decide) ?_
    refine e_icmp_ne (pc := 65) (tgt := 80) d_M_code_65 (by decide) (fun h9 => absurd (by decide) h9) (fun _ => ?_)
    refine e_iload (pc := 68) d_M_code_68 rfl ?_
    refine e_if_lt (pc := 70) (tgt := 84) d_M_code_70 (by decide) (fun h34 => ?_) (fun h34 => ?_)
    · refine e_iconst (pc := 84) (v := 0) d_M_code_84 (by decide) ?_
      refine e_istore (pc := 85) d_M_code_85 (Nat.le_of_ble_eq_true rfl) ?_
      dsimp only [List.set]
      refine e_aload_n (pc := 87) d_M_code_87 rfl ?_
      refine e_iload_n (pc := 88) d_M_code_88 rfl ?_
      refine e_if_lt (pc := 89) (tgt := 108) d_M_code_89 (by decide) (fun h9 => absurd h9 (by decide)) (fun _ => ?_)
      refine e_iload_n (pc := 92) d_M_code_92 rfl ?_
      refine e_bipush (pc := 93) (v := 7) d_M_code_93 (by decide) ?_
      refine e_icmp_gt (pc := 95) (tgt := 108) d_M_code_95 (by decide) (fun h9 => absurd h9 (by decide)) (fun _ => ?_)
      refine e_iload (pc := 98) d_M_code_98 rfl ?_
      refine e_if_eq (pc := 100) (tgt := 108) d_M_code_100 (by decide) (fun _ => ?_) (fun h9 => absurd (by decide) h9)
      exact absurd hv (by simp [vB, ← gt15, h33, h34])
    · refine e_iload (pc := 73) d_M_code_73 rfl ?_
      refine e_bipush (pc := 75) (v := 15) d_M_code_75 (by decide) ?_
      refine e_icmp_gt (pc := 77) (tgt := 84) d_M_code_77 (by decide) (fun h35 => ?_) (fun h35 => ?_)
      · refine e_iconst (pc := 84) (v := 0) d_M_code_84 (by decide) ?_
        refine e_istore (pc := 85) d_M_code_85 (Nat.le_of_ble_eq_true rfl) ?_
        dsimp only [List.set]
        refine e_aload_n (pc := 87) d_M_code_87 rfl ?_
        refine e_iload_n (pc := 88) d_M_code_88 rfl ?_
        refine e_if_lt (pc := 89) (tgt := 108) d_M_code_89 (by decide) (fun h9 => absurd h9 (by decide)) (fun _ => ?_)
        refine e_iload_n (pc := 92) d_M_code_92 rfl ?_
        refine e_bipush (pc := 93) (v := 7) d_M_code_93 (by decide) ?_
        refine e_icmp_gt (pc := 95) (tgt := 108) d_M_code_95 (by decide) (fun h9 => absurd h9 (by decide)) (fun _ => ?_)
        refine e_iload (pc := 98) d_M_code_98 rfl ?_
        refine e_if_eq (pc := 100) (tgt := 108) d_M_code_100 (by decide) (fun _ => ?_) (fun h9 => absurd (by decide) h9)
        exact absurd hv (by simp [vB, ← gt15, h33, h34, h35])
      · refine e_iconst (pc := 80) (v := 1) d_M_code_80 (by decide) ?_
        refine e_goto (pc := 81) (tgt := 85) d_M_code_81 (by decide) ?_
        refine e_istore (pc := 85) d_M_code_85 (Nat.le_of_ble_eq_true rfl) ?_
        dsimp only [List.set]
        refine e_aload_n (pc := 87) d_M_code_87 rfl ?_
        refine e_iload_n (pc := 88) d_M_code_88 rfl ?_
        refine e_if_lt (pc := 89) (tgt := 108) d_M_code_89 (by decide) (fun h9 => absurd h9 (by decide)) (fun _ => ?_)
        refine e_iload_n (pc := 92) d_M_code_92 rfl ?_
        refine e_bipush (pc := 93) (v := 7) d_M_code_93 (by decide) ?_
        refine e_icmp_gt (pc := 95) (tgt := 108) d_M_code_95 (by decide) (fun h9 => absurd h9 (by decide)) (fun _ => ?_)
        refine e_iload (pc := 98) d_M_code_98 rfl ?_
        refine e_if_eq (pc := 100) (tgt := 108) d_M_code_100 (by decide) (fun _ => ?_) (fun h9 => absurd (by decide) h9)
        exact absurd hv (by simp [vB, ← gt15, h33, h34, h35])
  · replace h33 := b1.mp h33
    refine e_iconst (pc := 28) (v := 1) d_M_code_28 (by decide) ?_
    refine e_goto (pc := 29) (tgt := 33) d_M_code_29 (by decide) ?_
    refine e_istore (pc := 33) d_M_code_33 (Nat.le_of_ble_eq_true rfl) ?_
    dsimp only [List.set]
    refine e_iload_n (pc := 35) d_M_code_35 rfl ?_
    refine e_if_eq (pc := 36) (tgt := 54) d_M_code_36 (by decide) (fun h9 => absurd h9 (by decide)) (fun _ => ?_)
    refine e_iload_n (pc := 39) d_M_code_39 rfl ?_
    refine e_iconst (pc := 40) (v := 1) d_M_code_40 (by decide) ?_
    refine e_icmp_eq (pc := 41) (tgt := 54) d_M_code_41 (by decide) (fun h9 => absurd h9 (by decide)) (fun _ => ?_)
    refine e_iload_n (pc := 44) d_M_code_44 rfl ?_
    refine e_iconst (pc := 45) (v := 3) d_M_code_45 (by decide) ?_
    refine e_icmp_eq (pc := 46) (tgt := 54) d_M_code_46 (by decide) (fun h9 => absurd h9 (by decide)) (fun _ => ?_)
    refine e_iload_n (pc := 49) d_M_code_49 rfl ?_
    refine e_iconst (pc := 50) (v := 4) d_M_code_50 (by decide) ?_
    refine e_icmp_ne (pc := 51) (tgt := 62) d_M_code_51 (by decide) (fun _ => ?_) (fun h9 => absurd h9 (by decide))
    refine e_iload_n (pc := 62) d_M_code_62 rfl ?_
    refine e_bipush (pc := 63) (v := 6) d_M_code_63 (by decide) ?_
    refine e_icmp_ne (pc := 65) (tgt := 80) d_M_code_65 (by decide) (fun h9 => absurd (by decide) h9) (fun _ => ?_)
    refine e_iload (pc := 68) d_M_code_68 rfl ?_
    refine e_if_lt (pc := 70) (tgt := 84) d_M_code_70 (by decide) (fun h36 => ?_) (fun h36 => ?_)
    · refine e_iconst (pc := 84) (v := 0) d_M_code_84 (by decide) ?_
      refine e_istore (pc := 85) d_M_code_85 (Nat.le_of_ble_eq_true rfl) ?_
      dsimp only [List.set]
      refine e_aload_n (pc := 87) d_M_code_87 rfl ?_
      refine e_iload_n (pc := 88) d_M_code_88 rfl ?_
      refine e_if_lt (pc := 89) (tgt := 108) d_M_code_89 (by decide) (fun h9 => absurd h9 (by decide)) (fun _ => ?_)
      refine e_iload_n (pc := 92) d_M_code_92 rfl ?_
      refine e_bipush (pc := 93) (v := 7) d_M_code_93 (by decide) ?_
      refine e_icmp_gt (pc := 95) (tgt := 108) d_M_code_95 (by decide) (fun h9 => absurd h9 (by decide)) (fun _ => ?_)
      refine e_iload (pc := 98) d_M_code_98 rfl ?_
      refine e_if_eq (pc := 100) (tgt := 108) d_M_code_100 (by decide) (fun h9 => absurd h9 (by decide)) (fun _ => ?_)
      refine e_iload (pc := 103) d_M_code_103 rfl ?_
      refine e_if_ne (pc := 105) (tgt := 112) d_M_code_105 (by decide) (fun h9 => absurd (by decide) h9) (fun _ => ?_)
      exact absurd hv (by simp [vB, ← gt15, h33, h36])
    · refine e_iload (pc := 73) d_M_code_73 rfl ?_
      refine e_bipush (pc := 75) (v := 15) d_M_code_75 (by decide) ?_
      refine e_icmp_gt (pc := 77) (tgt := 84) d_M_code_77 (by decide) (fun h37 => ?_) (fun h37 => ?_)
      · refine e_iconst (pc := 84) (v := 0) d_M_code_84 (by decide) ?_
        refine e_istore (pc := 85) d_M_code_85 (Nat.le_of_ble_eq_true rfl) ?_
        dsimp only [List.set]
        refine e_aload_n (pc := 87) d_M_code_87 rfl ?_
        refine e_iload_n (pc := 88) d_M_code_88 rfl ?_
        refine e_if_lt (pc := 89) (tgt := 108) d_M_code_89 (by decide) (fun h9 => absurd h9 (by decide)) (fun _ => ?_)
        refine e_iload_n (pc := 92) d_M_code_92 rfl ?_
        refine e_bipush (pc := 93) (v := 7) d_M_code_93 (by decide) ?_
        refine e_icmp_gt (pc := 95) (tgt := 108) d_M_code_95 (by decide) (fun h9 => absurd h9 (by decide)) (fun _ => ?_)
        refine e_iload (pc := 98) d_M_code_98 rfl ?_
        refine e_if_eq (pc := 100) (tgt := 108) d_M_code_100 (by decide) (fun h9 => absurd h9 (by decide)) (fun _ => ?_)
        refine e_iload (pc := 103) d_M_code_103 rfl ?_
        refine e_if_ne (pc := 105) (tgt := 112) d_M_code_105 (by decide) (fun h9 => absurd (by decide) h9) (fun _ => ?_)
        exact absurd hv (by simp [vB, ← gt15, h33, h36, h37])
      · refine e_iconst (pc := 80) (v := 1) d_M_code_80 (by decide) ?_
        refine e_goto (pc := 81) (tgt := 85) d_M_code_81 (by decide) ?_
        refine e_istore (pc := 85) d_M_code_85 (Nat.le_of_ble_eq_true rfl) ?_
        dsimp only [List.set]
        refine e_aload_n (pc := 87) d_M_code_87 rfl ?_
        refine e_iload_n (pc := 88) d_M_code_88 rfl ?_
        refine e_if_lt (pc := 89) (tgt := 108) d_M_code_89 (by decide) (fun h9 => absurd h9 (by decide)) (fun _ => ?_)
        refine e_iload_n (pc := 92) d_M_code_92 rfl ?_
        refine e_bipush (pc := 93) (v := 7) d_M_code_93 (by decide) ?_
        refine e_icmp_gt (pc := 95) (tgt := 108) d_M_code_95 (by decide) (fun h9 => absurd h9 (by decide)) (fun _ => ?_)
        refine e_iload (pc := 98) d_M_code_98 rfl ?_
        refine e_if_eq (pc := 100) (tgt := 108) d_M_code_100 (by decide) (fun h9 => absurd h9 (by decide)) (fun _ => ?_)
        refine e_iload (pc := 103) d_M_code_103 rfl ?_
        refine e_if_ne (pc := 105) (tgt := 112) d_M_code_105 (by decide) (fun _ => ?_) (fun h9 => absurd h9 (by decide))
        refine e_aload_n (pc := 112) d_M_code_112 rfl ?_
        refine e_get (pc := 113) s_M_code_113 rfl rfl ?_
        refine e_iload_n (pc := 116) d_M_code_116 rfl ?_
        refine e_iald (pc := 117) d_M_code_117 rfl (vp_in_nI (by omega) (by decide)) ((fx1 (nI_clamp (by omega))).trans h1) ?_
        refine e_bipush (pc := 118) (v := 16) d_M_code_118 (by decide) ?_
        refine e_icmp_ne (pc := 120) (tgt := 127) d_M_code_120 (by decide) (fun h9 => absurd (rfl) h9) (fun _ => ?_)
        refine e_iconst (pc := 123) (v := 3) d_M_code_123 (by decide) ?_
        refine e_goto (pc := 124) (tgt := 128) d_M_code_124 (by decide) ?_
        refine e_put (pc := 128) s_M_code_128 rfl (Nat.le_of_ble_eq_true rfl) zFit.int wTh ?_
        refine e_aload_n (pc := 131) d_M_code_131 rfl ?_
        refine e_get (pc := 132) s_M_code_132 rfl rfl ?_
        refine e_if_le (pc := 135) (tgt := 140) d_M_code_135 (by decide) (fun h9 => absurd h9 (by decide)) (fun _ => ?_)
        refine e_iconst (pc := 138) (v := 0) d_M_code_138 (by decide) ?_
        exact e_iret (pc := 139) d_M_code_139 rfl rfl (Nat.le_of_ble_eq_true rfl) (Nat.le_of_ble_eq_true rfl) (by simp [h33, h36, h37])
set_option maxHeartbeats 4000000 in
set_option maxRecDepth 100000 in
theorem sM_code6 {l : Launch} {G : zGP} {K : Nat} {S T : St} {th : Int32} {fo : Nat → Int64} {c : Nat} (hc : c < 3) {q : Nat} {a b : Int32} (hq : q < 16) (hv : vB 6 a b = true) (h1 : T 1 c 0 = nI q) : Rn l G m_M_code [.ref 45, .int (nI c), .int (nI 6), .int a, .int b] (hpA K S T th fo) (.inl (some (.int (nI q + 1))), (hpA K S (su (su (su (su T 2 c q (nI 6)) 3 c q a) 4 c q b) 1 c 0 (nI q + 1)) 0 fo)) := by
  refine Rn.of (by decide) rfl rfl (Nat.le_of_ble_eq_true rfl) rfl ?_
  show Ev l G m_M_code 0 [.ref 45, .int (nI c), .int (nI 6), .int a, .int b, .double 0, .double 0, .double 0] [] (hpA K S T th fo) 0 0 _
  refine e_aload_n (pc := 0) d_M_code_0 rfl ?_
  refine e_iload_n (pc := 1) d_M_code_1 rfl ?_
  refine e_cV1 (pc := 2) s_M_code_2 (sM_core hc) rfl rfl rfl (Nat.le_of_ble_eq_true rfl) (Nat.le_of_ble_eq_true rfl) (Nat.le_of_ble_eq_true rfl) (zGo.v ?_)
  refine e_if_ne (pc := 5) (tgt := 10) d_M_code_5 (by decide) (fun _ => ?_) (fun h9 => absurd h9 (by decide))
  refine e_iload_n (pc := 10) d_M_code_10 rfl ?_
  refine e_iconst (pc := 11) (v := 2) d_M_code_11 (by decide) ?_
  refine e_icmp_eq (pc := 12) (tgt := 28) d_M_code_12 (by decide) (fun h9 => absurd h9 (by decide)) (fun _ => ?_)
  refine e_iload_n (pc := 15) d_M_code_15 rfl ?_
  refine e_bipush (pc := 16) (v := 7) d_M_code_16 (by decide) ?_
  refine e_icmp_eq (pc := 18) (tgt := 28) d_M_code_18 (by decide) (fun h9 => absurd h9 (by decide)) (fun _ => ?_)
  refine e_iload_n (pc := 21) d_M_code_21 rfl ?_
  refine e_cS1 (pc := 22) s_M_code_22 (sp_MisRegister) (Nat.le_of_ble_eq_true rfl) (Nat.le_of_ble_eq_true rfl) (Nat.le_of_ble_eq_true rfl) (zGo.v ?_)
  refine e_if_eq (pc := 25) (tgt := 32) d_M_code_25 (by decide) (fun h38 => ?_) (fun h38 => ?_)
  · replace h38 := b0.mp h38
    refine e_iconst (pc := 32) (v := 0) d_M_code_32 (by decide) ?_
    refine e_istore (pc := 33) d_M_code_33 (Nat.le_of_ble_eq_true rfl) ?_
    dsimp only [List.set]
    refine e_iload_n (pc := 35) d_M_code_35 rfl ?_
    refine e_if_eq (pc := 36) (tgt := 54) d_M_code_36 (by decide) (fun h9 => absurd h9 (by decide)) (fun _ => ?_)
    refine e_iload_n (pc := 39) d_M_code_39 rfl ?_
    refine e_iconst (pc := 40) (v := 1) d_M_code_40 (by decide) ?_
    refine e_icmp_eq (pc := 41) (tgt := 54) d_M_code_41 (by decide) (fun h9 => absurd h9 (by decide)) (fun _ => ?_)
    refine e_iload_n (pc := 44) d_M_code_44 rfl ?_
    refine e_iconst (pc := 45) (v := 3) d_M_code_45 (by decide) ?_
    refine e_icmp_eq (pc := 46) (tgt := 54) d_M_code_46 (by decide) (fun h9 => absurd h9 (by decide)) (fun _ => ?_)
    refine e_iload_n (pc := 49) d_M_code_49 rfl ?_
    refine e_iconst (pc := 50) (v := 4) d_M_code_50 (by decide) ?_
    refine e_icmp_ne (pc := 51) (tgt := 62) d_M_code_51 (by decide) (fun _ => ?_) (fun h9 => absurd h9 (by decide))
    refine e_iload_n (pc := 62) d_M_code_62 rfl ?_
    refine e_bipush (pc := 63) (v := 6) d_M_code_63 (by decide) ?_
    refine e_icmp_ne (pc := 65) (tgt := 80) d_M_code_65 (by decide) (fun h9 => absurd (by decide) h9) (fun _ => ?_)
    refine e_iload (pc := 68) d_M_code_68 rfl ?_
    refine e_if_lt (pc := 70) (tgt := 84) d_M_code_70 (by decide) (fun h39 => ?_) (fun h39 => ?_)
    · refine e_iconst (pc := 84) (v := 0) d_M_code_84 (by decide) ?_
      refine e_istore (pc := 85) d_M_code_85 (Nat.le_of_ble_eq_true rfl) ?_
      dsimp only [List.set]
      refine e_aload_n (pc := 87) d_M_code_87 rfl ?_
      refine e_iload_n (pc := 88) d_M_code_88 rfl ?_
      refine e_if_lt (pc := 89) (tgt := 108) d_M_code_89 (by decide) (fun h9 => absurd h9 (by decide)) (fun _ => ?_)
      refine e_iload_n (pc := 92) d_M_code_92 rfl ?_
      refine e_bipush (pc := 93) (v := 7) d_M_code_93 (by decide) ?_
      refine e_icmp_gt (pc := 95) (tgt := 108) d_M_code_95 (by decide) (fun h9 => absurd h9 (by decide)) (fun _ => ?_)
      refine e_iload (pc := 98) d_M_code_98 rfl ?_
      refine e_if_eq (pc := 100) (tgt := 108) d_M_code_100 (by decide) (fun _ => ?_) (fun h9 => absurd (by decide) h9)
      exact absurd hv (by simp [vB, ← gt15, h38, h39])
    · refine e_iload (pc := 73) d_M_code_73 rfl ?_
      refine e_bipush (pc := 75) (v := 15) d_M_code_75 (by decide) ?_
      refine e_icmp_gt (pc := 77) (tgt := 84) d_M_code_77 (by decide) (fun h40 => ?_) (fun h40 => ?_)
      · refine e_iconst (pc := 84) (v := 0) d_M_code_84 (by decide) ?_
        refine e_istore (pc := 85) d_M_code_85 (Nat.le_of_ble_eq_true rfl) ?_
        dsimp only [List.set]
        refine e_aload_n (pc := 87) d_M_code_87 rfl ?_
        refine e_iload_n (pc := 88) d_M_code_88 rfl ?_
        refine e_if_lt (pc := 89) (tgt := 108) d_M_code_89 (by decide) (fun h9 => absurd h9 (by decide)) (fun _ => ?_)
        refine e_iload_n (pc := 92) d_M_code_92 rfl ?_
        refine e_bipush (pc := 93) (v := 7) d_M_code_93 (by decide) ?_
        refine e_icmp_gt (pc := 95) (tgt := 108) d_M_code_95 (by decide) (fun h9 => absurd h9 (by decide)) (fun _ => ?_)
        refine e_iload (pc := 98) d_M_code_98 rfl ?_
        refine e_if_eq (pc := 100) (tgt := 108) d_M_code_100 (by decide) (fun _ => ?_) (fun h9 => absurd (by decide) h9)
        exact absurd hv (by simp [vB, ← gt15, h38, h39, h40])
      · refine e_iconst (pc := 80) (v := 1) d_M_code_80 (by decide) ?_
        refine e_goto (pc := 81) (tgt := 85) d_M_code_81 (by decide) ?_
        refine e_istore (pc := 85) d_M_code_85 (Nat.le_of_ble_eq_true rfl) ?_
        dsimp only [List.set]
        refine e_aload_n (pc := 87) d_M_code_87 rfl ?_
        refine e_iload_n (pc := 88) d_M_code_88 rfl ?_
        refine e_if_lt (pc := 89) (tgt := 108) d_M_code_89 (by decide) (fun h9 => absurd h9 (by decide)) (fun _ => ?_)
        refine e_iload_n (pc := 92) d_M_code_92 rfl ?_
        refine e_bipush (pc := 93) (v := 7) d_M_code_93 (by decide) ?_
        refine e_icmp_gt (pc := 95) (tgt := 108) d_M_code_95 (by decide) (fun h9 => absurd h9 (by decide)) (fun _ => ?_)
        refine e_iload (pc := 98) d_M_code_98 rfl ?_
        refine e_if_eq (pc := 100) (tgt := 108) d_M_code_100 (by decide) (fun _ => ?_) (fun h9 => absurd (by decide) h9)
        exact absurd hv (by simp [vB, ← gt15, h38, h39, h40])
  · replace h38 := b1.mp h38
    refine e_iconst (pc := 28) (v := 1) d_M_code_28 (by decide) ?_
    refine e_goto (pc := 29) (tgt := 33) d_M_code_29 (by decide) ?_
    refine e_istore (pc := 33) d_M_code_33 (Nat.le_of_ble_eq_true rfl) ?_
    dsimp only [List.set]
    refine e_iload_n (pc := 35) d_M_code_35 rfl ?_
    refine e_if_eq (pc := 36) (tgt := 54) d_M_code_36 (by decide) (fun h9 => absurd h9 (by decide)) (fun _ => ?_)
    refine e_iload_n (pc := 39) d_M_code_39 rfl ?_
    refine e_iconst (pc := 40) (v := 1) d_M_code_40 (by decide) ?_
    refine e_icmp_eq (pc := 41) (tgt := 54) d_M_code_41 (by decide) (fun h9 => absurd h9 (by decide)) (fun _ => ?_)
    refine e_iload_n (pc := 44) d_M_code_44 rfl ?_
    refine e_iconst (pc := 45) (v := 3) d_M_code_45 (by decide) ?_
    refine e_icmp_eq (pc := 46) (tgt := 54) d_M_code_46 (by decide) (fun h9 => absurd h9 (by decide)) (fun _ => ?_)
    refine e_iload_n (pc := 49) d_M_code_49 rfl ?_
    refine e_iconst (pc := 50) (v := 4) d_M_code_50 (by decide) ?_
    refine e_icmp_ne (pc := 51) (tgt := 62) d_M_code_51 (by decide) (fun _ => ?_) (fun h9 => absurd h9 (by decide))
    refine e_iload_n (pc := 62) d_M_code_62 rfl ?_
    refine e_bipush (pc := 63) (v := 6) d_M_code_63 (by decide) ?_
    refine e_icmp_ne (pc := 65) (tgt := 80) d_M_code_65 (by decide) (fun h9 => absurd (by decide) h9) (fun _ => ?_)
    refine e_iload (pc := 68) d_M_code_68 rfl ?_
    refine e_if_lt (pc := 70) (tgt := 84) d_M_code_70 (by decide) (fun h41 => ?_) (fun h41 => ?_)
    · refine e_iconst (pc := 84) (v := 0) d_M_code_84 (by decide) ?_
      refine e_istore (pc := 85) d_M_code_85 (Nat.le_of_ble_eq_true rfl) ?_
      dsimp only [List.set]
      refine e_aload_n (pc := 87) d_M_code_87 rfl ?_
      refine e_iload_n (pc := 88) d_M_code_88 rfl ?_
      refine e_if_lt (pc := 89) (tgt := 108) d_M_code_89 (by decide) (fun h9 => absurd h9 (by decide)) (fun _ => ?_)
      refine e_iload_n (pc := 92) d_M_code_92 rfl ?_
      refine e_bipush (pc := 93) (v := 7) d_M_code_93 (by decide) ?_
      refine e_icmp_gt (pc := 95) (tgt := 108) d_M_code_95 (by decide) (fun h9 => absurd h9 (by decide)) (fun _ => ?_)
      refine e_iload (pc := 98) d_M_code_98 rfl ?_
      refine e_if_eq (pc := 100) (tgt := 108) d_M_code_100 (by decide) (fun h9 => absurd h9 (by decide)) (fun _ => ?_)
      refine e_iload (pc := 103) d_M_code_103 rfl ?_
      refine e_if_ne (pc := 105) (tgt := 112) d_M_code_105 (by decide) (fun h9 => absurd (by decide) h9) (fun _ => ?_)
      exact absurd hv (by simp [vB, ← gt15, h38, h41])
    · refine e_iload (pc := 73) d_M_code_73 rfl ?_
      refine e_bipush (pc := 75) (v := 15) d_M_code_75 (by decide) ?_
      refine e_icmp_gt (pc := 77) (tgt := 84) d_M_code_77 (by decide) (fun h42 => ?_) (fun h42 => ?_)
      · refine e_iconst (pc := 84) (v := 0) d_M_code_84 (by decide) ?_
        refine e_istore (pc := 85) d_M_code_85 (Nat.le_of_ble_eq_true rfl) ?_
        dsimp only [List.set]
        refine e_aload_n (pc := 87) d_M_code_87 rfl ?_
        refine e_iload_n (pc := 88) d_M_code_88 rfl ?_
        refine e_if_lt (pc := 89) (tgt := 108) d_M_code_89 (by decide) (fun h9 => absurd h9 (by decide)) (fun _ => ?_)
        refine e_iload_n (pc := 92) d_M_code_92 rfl ?_
        refine e_bipush (pc := 93) (v := 7) d_M_code_93 (by decide) ?_
        refine e_icmp_gt (pc := 95) (tgt := 108) d_M_code_95 (by decide) (fun h9 => absurd h9 (by decide)) (fun _ => ?_)
        refine e_iload (pc := 98) d_M_code_98 rfl ?_
        refine e_if_eq (pc := 100) (tgt := 108) d_M_code_100 (by decide) (fun h9 => absurd h9 (by decide)) (fun _ => ?_)
        refine e_iload (pc := 103) d_M_code_103 rfl ?_
        refine e_if_ne (pc := 105) (tgt := 112) d_M_code_105 (by decide) (fun h9 => absurd (by decide) h9) (fun _ => ?_)
        exact absurd hv (by simp [vB, ← gt15, h38, h41, h42])
      · refine e_iconst (pc := 80) (v := 1) d_M_code_80 (by decide) ?_
        refine e_goto (pc := 81) (tgt := 85) d_M_code_81 (by decide) ?_
        refine e_istore (pc := 85) d_M_code_85 (Nat.le_of_ble_eq_true rfl) ?_
        dsimp only [List.set]
        refine e_aload_n (pc := 87) d_M_code_87 rfl ?_
        refine e_iload_n (pc := 88) d_M_code_88 rfl ?_
        refine e_if_lt (pc := 89) (tgt := 108) d_M_code_89 (by decide) (fun h9 => absurd h9 (by decide)) (fun _ => ?_)
        refine e_iload_n (pc := 92) d_M_code_92 rfl ?_
        refine e_bipush (pc := 93) (v := 7) d_M_code_93 (by decide) ?_
        refine e_icmp_gt (pc := 95) (tgt := 108) d_M_code_95 (by decide) (fun h9 => absurd h9 (by decide)) (fun _ => ?_)
        refine e_iload (pc := 98) d_M_code_98 rfl ?_
        refine e_if_eq (pc := 100) (tgt := 108) d_M_code_100 (by decide) (fun h9 => absurd h9 (by decide)) (fun _ => ?_)
        refine e_iload (pc := 103) d_M_code_103 rfl ?_
        refine e_if_ne (pc := 105) (tgt := 112) d_M_code_105 (by decide) (fun _ => ?_) (fun h9 => absurd h9 (by decide))
        refine e_aload_n (pc := 112) d_M_code_112 rfl ?_
        refine e_get (pc := 113) s_M_code_113 rfl rfl ?_
        refine e_iload_n (pc := 116) d_M_code_116 rfl ?_
        refine e_iald (pc := 117) d_M_code_117 rfl (vp_in_nI (by omega) (by decide)) ((fx1 (nI_clamp (by omega))).trans h1) ?_
        refine e_bipush (pc := 118) (v := 16) d_M_code_118 (by decide) ?_
        refine e_icmp_ne (pc := 120) (tgt := 127) d_M_code_120 (by decide) (fun _ => ?_) (fun h9 => absurd h9 (fun q9 => absurd ((nI_eq (b := 16) (by omega) (by decide)).mp q9) (by omega)))
        refine e_iconst (pc := 127) (v := 0) d_M_code_127 (by decide) ?_
        refine e_put (pc := 128) s_M_code_128 rfl (Nat.le_of_ble_eq_true rfl) zFit.int wTh ?_
        refine e_aload_n (pc := 131) d_M_code_131 rfl ?_
        refine e_get (pc := 132) s_M_code_132 rfl rfl ?_
        refine e_if_le (pc := 135) (tgt := 140) d_M_code_135 (by decide) (fun _ => ?_) (fun h9 => absurd (by decide) h9)
        refine e_bipush (pc := 140) (v := 16) d_M_code_140 (by decide) ?_
        refine e_iload_n (pc := 142) d_M_code_142 rfl ?_
        refine e_imul (pc := 143) d_M_code_143 ?_
        refine e_aload_n (pc := 144) d_M_code_144 rfl ?_
        refine e_get (pc := 145) s_M_code_145 rfl rfl ?_
        refine e_iload_n (pc := 148) d_M_code_148 rfl ?_
        refine e_iald (pc := 149) d_M_code_149 rfl (vp_in_nI (by omega) (by decide)) ((fx1 (nI_clamp (by omega))).trans h1) ?_
        refine e_iadd (pc := 150) d_M_code_150 ?_
        refine e_topi (y := nI (16 * c + q)) (ixM 16 c q) ?_
        refine e_istore (pc := 151) d_M_code_151 (Nat.le_of_ble_eq_true rfl) ?_
        dsimp only [List.set]
        refine e_aload_n (pc := 153) d_M_code_153 rfl ?_
        refine e_get (pc := 154) s_M_code_154 rfl rfl ?_
        refine e_iload (pc := 157) d_M_code_157 rfl ?_
        refine e_iload_n (pc := 159) d_M_code_159 rfl ?_
        refine e_iast (pc := 160) d_M_code_160 rfl (vp_in_nI (by omega) (by decide)) (vOp (nI_clamp (by omega)) hq) ?_
        refine e_aload_n (pc := 161) d_M_code_161 rfl ?_
        refine e_get (pc := 162) s_M_code_162 rfl rfl ?_
        refine e_iload (pc := 165) d_M_code_165 rfl ?_
        refine e_iload_n (pc := 167) d_M_code_167 rfl ?_
        refine e_iast (pc := 168) d_M_code_168 rfl (vp_in_nI (by omega) (by decide)) (vAs (nI_clamp (by omega)) hq) ?_
        refine e_aload_n (pc := 169) d_M_code_169 rfl ?_
        refine e_get (pc := 170) s_M_code_170 rfl rfl ?_
        refine e_iload (pc := 173) d_M_code_173 rfl ?_
        refine e_iload (pc := 175) d_M_code_175 rfl ?_
        refine e_iast (pc := 177) d_M_code_177 rfl (vp_in_nI (by omega) (by decide)) (vBs (nI_clamp (by omega)) hq) ?_
        refine e_aload_n (pc := 178) d_M_code_178 rfl ?_
        refine e_get (pc := 179) s_M_code_179 rfl rfl ?_
        refine e_iload_n (pc := 182) d_M_code_182 rfl ?_
        refine e_dup2 (pc := 183) d_M_code_183 rfl rfl ?_
        refine e_iald (pc := 184) d_M_code_184 rfl (vp_in_nI (by omega) (by decide)) ((fx1 (nI_clamp (by omega))).trans h1) ?_
        refine e_iconst (pc := 185) (v := 1) d_M_code_185 (by decide) ?_
        refine e_iadd (pc := 186) d_M_code_186 ?_
        refine e_iast (pc := 187) d_M_code_187 rfl (vp_in_nI (by omega) (by decide)) (vLen (nI_clamp (by omega))) ?_
        refine e_aload_n (pc := 188) d_M_code_188 rfl ?_
        refine e_get (pc := 189) s_M_code_189 rfl rfl ?_
        refine e_iload_n (pc := 192) d_M_code_192 rfl ?_
        refine e_iald (pc := 193) d_M_code_193 rfl (vp_in_nI (by omega) (by decide)) ((fx1 (nI_clamp (by omega))).trans (su_at _ _ _ _ _)) ?_
        exact e_iret (pc := 194) d_M_code_194 rfl rfl (Nat.le_of_ble_eq_true rfl) (Nat.le_of_ble_eq_true rfl) rfl
set_option maxHeartbeats 4000000 in
set_option maxRecDepth 100000 in
theorem sM_codeX7_2 {l : Launch} {G : zGP} {K : Nat} {S T : St} {th : Int32} {fo : Nat → Int64} {c : Nat} (hc : c < 3) {a b : Int32} (hv : vB 7 a b = false) : Rn l G m_M_code [.ref 45, .int (nI c), .int (nI 7), .int a, .int b] (hpA K S T th fo) (.inl (some (.int 0)), (hpA K S T 2 fo)) := by
  refine Rn.of (by decide) rfl rfl (Nat.le_of_ble_eq_true rfl) rfl ?_
  show Ev l G m_M_code 0 [.ref 45, .int (nI c), .int (nI 7), .int a, .int b, .double 0, .double 0, .double 0] [] (hpA K S T th fo) 0 0 _
  refine e_aload_n (pc := 0) d_M_code_0 rfl ?_
  refine e_iload_n (pc := 1) d_M_code_1 rfl ?_
  refine e_cV1 (pc := 2) s_M_code_2 (sM_core hc) rfl rfl rfl (Nat.le_of_ble_eq_true rfl) (Nat.le_of_ble_eq_true rfl) (Nat.le_of_ble_eq_true rfl) (zGo.v ?_)
  refine e_if_ne (pc := 5) (tgt := 10) d_M_code_5 (by decide) (fun _ => ?_) (fun h9 => absurd h9 (by decide))
  refine e_iload_n (pc := 10) d_M_code_10 rfl ?_
  refine e_iconst (pc := 11) (v := 2) d_M_code_11 (by decide) ?_
  refine e_icmp_eq (pc := 12) (tgt := 28) d_M_code_12 (by decide) (fun h9 => absurd h9 (by decide)) (fun _ => ?_)
  refine e_iload_n (pc := 15) d_M_code_15 rfl ?_
  refine e_bipush (pc := 16) (v := 7) d_M_code_16 (by decide) ?_
  refine e_icmp_eq (pc := 18) (tgt := 28) d_M_code_18 (by decide) (fun _ => ?_) (fun h9 => absurd (by decide) h9)
  refine e_iconst (pc := 28) (v := 1) d_M_code_28 (by decide) ?_
  refine e_goto (pc := 29) (tgt := 33) d_M_code_29 (by decide) ?_
  refine e_istore (pc := 33) d_M_code_33 (Nat.le_of_ble_eq_true rfl) ?_
  dsimp only [List.set]
  refine e_iload_n (pc := 35) d_M_code_35 rfl ?_
  refine e_if_eq (pc := 36) (tgt := 54) d_M_code_36 (by decide) (fun h9 => absurd h9 (by decide)) (fun _ => ?_)
  refine e_iload_n (pc := 39) d_M_code_39 rfl ?_
  refine e_iconst (pc := 40) (v := 1) d_M_code_40 (by decide) ?_
  refine e_icmp_eq (pc := 41) (tgt := 54) d_M_code_41 (by decide) (fun h9 => absurd h9 (by decide)) (fun _ => ?_)
  refine e_iload_n (pc := 44) d_M_code_44 rfl ?_
  refine e_iconst (pc := 45) (v := 3) d_M_code_45 (by decide) ?_
  refine e_icmp_eq (pc := 46) (tgt := 54) d_M_code_46 (by decide) (fun h9 => absurd h9 (by decide)) (fun _ => ?_)
  refine e_iload_n (pc := 49) d_M_code_49 rfl ?_
  refine e_iconst (pc := 50) (v := 4) d_M_code_50 (by decide) ?_
  refine e_icmp_ne (pc := 51) (tgt := 62) d_M_code_51 (by decide) (fun _ => ?_) (fun h9 => absurd h9 (by decide))
  refine e_iload_n (pc := 62) d_M_code_62 rfl ?_
  refine e_bipush (pc := 63) (v := 6) d_M_code_63 (by decide) ?_
  refine e_icmp_ne (pc := 65) (tgt := 80) d_M_code_65 (by decide) (fun _ => ?_) (fun h9 => absurd h9 (by decide))
  refine e_iconst (pc := 80) (v := 1) d_M_code_80 (by decide) ?_
  refine e_goto (pc := 81) (tgt := 85) d_M_code_81 (by decide) ?_
  refine e_istore (pc := 85) d_M_code_85 (Nat.le_of_ble_eq_true rfl) ?_
  dsimp only [List.set]
  refine e_aload_n (pc := 87) d_M_code_87 rfl ?_
  refine e_iload_n (pc := 88) d_M_code_88 rfl ?_
  refine e_if_lt (pc := 89) (tgt := 108) d_M_code_89 (by decide) (fun h9 => absurd h9 (by decide)) (fun _ => ?_)
  refine e_iload_n (pc := 92) d_M_code_92 rfl ?_
  refine e_bipush (pc := 93) (v := 7) d_M_code_93 (by decide) ?_
  refine e_icmp_gt (pc := 95) (tgt := 108) d_M_code_95 (by decide) (fun h9 => absurd h9 (by decide)) (fun _ => ?_)
  refine e_iload (pc := 98) d_M_code_98 rfl ?_
  refine e_if_eq (pc := 100) (tgt := 108) d_M_code_100 (by decide) (fun h9 => absurd h9 (by decide)) (fun _ => ?_)
  refine e_iload (pc := 103) d_M_code_103 rfl ?_
  refine e_if_ne (pc := 105) (tgt := 112) d_M_code_105 (by decide) (fun _ => ?_) (fun h9 => absurd h9 (by decide))
  exact absurd hv (by simp [vB, ← gt15, ])
set_option maxHeartbeats 4000000 in
set_option maxRecDepth 100000 in
theorem sM_codeX7_3 {l : Launch} {G : zGP} {K : Nat} {S T : St} {th : Int32} {fo : Nat → Int64} {c : Nat} (hc : c < 3) {a b : Int32} (hv : vB 7 a b = true) (h1 : T 1 c 0 = 16) : Rn l G m_M_code [.ref 45, .int (nI c), .int (nI 7), .int a, .int b] (hpA K S T th fo) (.inl (some (.int 0)), (hpA K S T 3 fo)) := by
  refine Rn.of (by decide) rfl rfl (Nat.le_of_ble_eq_true rfl) rfl ?_
  show Ev l G m_M_code 0 [.ref 45, .int (nI c), .int (nI 7), .int a, .int b, .double 0, .double 0, .double 0] [] (hpA K S T th fo) 0 0 _
  refine e_aload_n (pc := 0) d_M_code_0 rfl ?_
  refine e_iload_n (pc := 1) d_M_code_1 rfl ?_
  refine e_cV1 (pc := 2) s_M_code_2 (sM_core hc) rfl rfl rfl (Nat.le_of_ble_eq_true rfl) (Nat.le_of_ble_eq_true rfl) (Nat.le_of_ble_eq_true rfl) (zGo.v ?_)
  refine e_if_ne (pc := 5) (tgt := 10) d_M_code_5 (by decide) (fun _ => ?_) (fun h9 => absurd h9 (by decide))
  refine e_iload_n (pc := 10) d_M_code_10 rfl ?_
  refine e_iconst (pc := 11) (v := 2) d_M_code_11 (by decide) ?_
  refine e_icmp_eq (pc := 12) (tgt := 28) d_M_code_12 (by decide) (fun h9 => absurd h9 (by decide)) (fun _ => ?_)
  refine e_iload_n (pc := 15) d_M_code_15 rfl ?_
  refine e_bipush (pc := 16) (v := 7) d_M_code_16 (by decide) ?_
  refine e_icmp_eq (pc := 18) (tgt := 28) d_M_code_18 (by decide) (fun _ => ?_) (fun h9 => absurd (by decide) h9)
  refine e_iconst (pc := 28) (v := 1) d_M_code_28 (by decide) ?_
  refine e_goto (pc := 29) (tgt := 33) d_M_code_29 (by decide) ?_
  refine e_istore (pc := 33) d_M_code_33 (Nat.le_of_ble_eq_true rfl) ?_
  dsimp only [List.set]
  refine e_iload_n (pc := 35) d_M_code_35 rfl ?_
  refine e_if_eq (pc := 36) (tgt := 54) d_M_code_36 (by decide) (fun h9 => absurd h9 (by decide)) (fun _ => ?_)
  refine e_iload_n (pc := 39) d_M_code_39 rfl ?_
  refine e_iconst (pc := 40) (v := 1) d_M_code_40 (by decide) ?_
  refine e_icmp_eq (pc := 41) (tgt := 54) d_M_code_41 (by decide) (fun h9 => absurd h9 (by decide)) (fun _ => ?_)
  refine e_iload_n (pc := 44) d_M_code_44 rfl ?_
  refine e_iconst (pc := 45) (v := 3) d_M_code_45 (by decide) ?_
  refine e_icmp_eq (pc := 46) (tgt := 54) d_M_code_46 (by decide) (fun h9 => absurd h9 (by decide)) (fun _ => ?_)
  refine e_iload_n (pc := 49) d_M_code_49 rfl ?_
  refine e_iconst (pc := 50) (v := 4) d_M_code_50 (by decide) ?_
  refine e_icmp_ne (pc := 51) (tgt := 62) d_M_code_51 (by decide) (fun _ => ?_) (fun h9 => absurd h9 (by decide))
  refine e_iload_n (pc := 62) d_M_code_62 rfl ?_
  refine e_bipush (pc := 63) (v := 6) d_M_code_63 (by decide) ?_
  refine e_icmp_ne (pc := 65) (tgt := 80) d_M_code_65 (by decide) (fun _ => ?_) (fun h9 => absurd h9 (by decide))
  refine e_iconst (pc := 80) (v := 1) d_M_code_80 (by decide) ?_
  refine e_goto (pc := 81) (tgt := 85) d_M_code_81 (by decide) ?_
  refine e_istore (pc := 85) d_M_code_85 (Nat.le_of_ble_eq_true rfl) ?_
  dsimp only [List.set]
  refine e_aload_n (pc := 87) d_M_code_87 rfl ?_
  refine e_iload_n (pc := 88) d_M_code_88 rfl ?_
  refine e_if_lt (pc := 89) (tgt := 108) d_M_code_89 (by decide) (fun h9 => absurd h9 (by decide)) (fun _ => ?_)
  refine e_iload_n (pc := 92) d_M_code_92 rfl ?_
  refine e_bipush (pc := 93) (v := 7) d_M_code_93 (by decide) ?_
  refine e_icmp_gt (pc := 95) (tgt := 108) d_M_code_95 (by decide) (fun h9 => absurd h9 (by decide)) (fun _ => ?_)
  refine e_iload (pc := 98) d_M_code_98 rfl ?_
  refine e_if_eq (pc := 100) (tgt := 108) d_M_code_100 (by decide) (fun h9 => absurd h9 (by decide)) (fun _ => ?_)
  refine e_iload (pc := 103) d_M_code_103 rfl ?_
  refine e_if_ne (pc := 105) (tgt := 112) d_M_code_105 (by decide) (fun _ => ?_) (fun h9 => absurd h9 (by decide))
  refine e_aload_n (pc := 112) d_M_code_112 rfl ?_
  refine e_get (pc := 113) s_M_code_113 rfl rfl ?_
  refine e_iload_n (pc := 116) d_M_code_116 rfl ?_
  refine e_iald (pc := 117) d_M_code_117 rfl (vp_in_nI (by omega) (by decide)) ((fx1 (nI_clamp (by omega))).trans h1) ?_
  refine e_bipush (pc := 118) (v := 16) d_M_code_118 (by decide) ?_
  refine e_icmp_ne (pc := 120) (tgt := 127) d_M_code_120 (by decide) (fun h9 => absurd (rfl) h9) (fun _ => ?_)
  refine e_iconst (pc := 123) (v := 3) d_M_code_123 (by decide) ?_
  refine e_goto (pc := 124) (tgt := 128) d_M_code_124 (by decide) ?_
  refine e_put (pc := 128) s_M_code_128 rfl (Nat.le_of_ble_eq_true rfl) zFit.int wTh ?_
  refine e_aload_n (pc := 131) d_M_code_131 rfl ?_
  refine e_get (pc := 132) s_M_code_132 rfl rfl ?_
  refine e_if_le (pc := 135) (tgt := 140) d_M_code_135 (by decide) (fun h9 => absurd h9 (by decide)) (fun _ => ?_)
  refine e_iconst (pc := 138) (v := 0) d_M_code_138 (by decide) ?_
  exact e_iret (pc := 139) d_M_code_139 rfl rfl (Nat.le_of_ble_eq_true rfl) (Nat.le_of_ble_eq_true rfl) rfl
set_option maxHeartbeats 4000000 in
set_option maxRecDepth 100000 in
theorem sM_code7 {l : Launch} {G : zGP} {K : Nat} {S T : St} {th : Int32} {fo : Nat → Int64} {c : Nat} (hc : c < 3) {q : Nat} {a b : Int32} (hq : q < 16) (hv : vB 7 a b = true) (h1 : T 1 c 0 = nI q) : Rn l G m_M_code [.ref 45, .int (nI c), .int (nI 7), .int a, .int b] (hpA K S T th fo) (.inl (some (.int (nI q + 1))), (hpA K S (su (su (su (su T 2 c q (nI 7)) 3 c q a) 4 c q b) 1 c 0 (nI q + 1)) 0 fo)) := by
  refine Rn.of (by decide) rfl rfl (Nat.le_of_ble_eq_true rfl) rfl ?_
  show Ev l G m_M_code 0 [.ref 45, .int (nI c), .int (nI 7), .int a, .int b, .double 0, .double 0, .double 0] [] (hpA K S T th fo) 0 0 _
  refine e_aload_n (pc := 0) d_M_code_0 rfl ?_
  refine e_iload_n (pc := 1) d_M_code_1 rfl ?_
  refine e_cV1 (pc := 2) s_M_code_2 (sM_core hc) rfl rfl rfl (Nat.le_of_ble_eq_true rfl) (Nat.le_of_ble_eq_true rfl) (Nat.le_of_ble_eq_true rfl) (zGo.v ?_)
  refine e_if_ne (pc := 5) (tgt := 10) d_M_code_5 (by decide) (fun _ => ?_) (fun h9 => absurd h9 (by decide))
  refine e_iload_n (pc := 10) d_M_code_10 rfl ?_
  refine e_iconst (pc := 11) (v := 2) d_M_code_11 (by decide) ?_
  refine e_icmp_eq (pc := 12) (tgt := 28) d_M_code_12 (by decide) (fun h9 => absurd h9 (by decide)) (fun _ => ?_)
  refine e_iload_n (pc := 15) d_M_code_15 rfl ?_
  refine e_bipush (pc := 16) (v := 7) d_M_code_16 (by decide) ?_
  refine e_icmp_eq (pc := 18) (tgt := 28) d_M_code_18 (by decide) (fun _ => ?_) (fun h9 => absurd (by decide) h9)
  refine e_iconst (pc := 28) (v := 1) d_M_code_28 (by decide) ?_
  refine e_goto (pc := 29) (tgt := 33) d_M_code_29 (by decide) ?_
  refine e_istore (pc := 33) d_M_code_33 (Nat.le_of_ble_eq_true rfl) ?_
  dsimp only [List.set]
  refine e_iload_n (pc := 35) d_M_code_35 rfl ?_
  refine e_if_eq (pc := 36) (tgt := 54) d_M_code_36 (by decide) (fun h9 => absurd h9 (by decide)) (fun _ => ?_)
  refine e_iload_n (pc := 39) d_M_code_39 rfl ?_
  refine e_iconst (pc := 40) (v := 1) d_M_code_40 (by decide) ?_
  refine e_icmp_eq (pc := 41) (tgt := 54) d_M_code_41 (by decide) (fun h9 => absurd h9 (by decide)) (fun _ => ?_)
  refine e_iload_n (pc := 44) d_M_code_44 rfl ?_
  refine e_iconst (pc := 45) (v := 3) d_M_code_45 (by decide) ?_
  refine e_icmp_eq (pc := 46) (tgt := 54) d_M_code_46 (by decide) (fun h9 => absurd h9 (by decide)) (fun _ => ?_)
  refine e_iload_n (pc := 49) d_M_code_49 rfl ?_
  refine e_iconst (pc := 50) (v := 4) d_M_code_50 (by decide) ?_
  refine e_icmp_ne (pc := 51) (tgt := 62) d_M_code_51 (by decide) (fun _ => ?_) (fun h9 => absurd h9 (by decide))
  refine e_iload_n (pc := 62) d_M_code_62 rfl ?_
  refine e_bipush (pc := 63) (v := 6) d_M_code_63 (by decide) ?_
  refine e_icmp_ne (pc := 65) (tgt := 80) d_M_code_65 (by decide) (fun _ => ?_) (fun h9 => absurd h9 (by decide))
  refine e_iconst (pc := 80) (v := 1) d_M_code_80 (by decide) ?_
  refine e_goto (pc := 81) (tgt := 85) d_M_code_81 (by decide) ?_
  refine e_istore (pc := 85) d_M_code_85 (Nat.le_of_ble_eq_true rfl) ?_
  dsimp only [List.set]
  refine e_aload_n (pc := 87) d_M_code_87 rfl ?_
  refine e_iload_n (pc := 88) d_M_code_88 rfl ?_
  refine e_if_lt (pc := 89) (tgt := 108) d_M_code_89 (by decide) (fun h9 => absurd h9 (by decide)) (fun _ => ?_)
  refine e_iload_n (pc := 92) d_M_code_92 rfl ?_
  refine e_bipush (pc := 93) (v := 7) d_M_code_93 (by decide) ?_
  refine e_icmp_gt (pc := 95) (tgt := 108) d_M_code_95 (by decide) (fun h9 => absurd h9 (by decide)) (fun _ => ?_)
  refine e_iload (pc := 98) d_M_code_98 rfl ?_
  refine e_if_eq (pc := 100) (tgt := 108) d_M_code_100 (by decide) (fun h9 => absurd h9 (by decide)) (fun _ => ?_)
  refine e_iload (pc := 103) d_M_code_103 rfl ?_
  refine e_if_ne (pc := 105) (tgt := 112) d_M_code_105 (by decide) (fun _ => ?_) (fun h9 => absurd h9 (by decide))
  refine e_aload_n (pc := 112) d_M_code_112 rfl ?_
  refine e_get (pc := 113) s_M_code_113 rfl rfl ?_
  refine e_iload_n (pc := 116) d_M_code_116 rfl ?_
  refine e_iald (pc := 117) d_M_code_117 rfl (vp_in_nI (by omega) (by decide)) ((fx1 (nI_clamp (by omega))).trans h1) ?_
  refine e_bipush (pc := 118) (v := 16) d_M_code_118 (by decide) ?_
  refine e_icmp_ne (pc := 120) (tgt := 127) d_M_code_120 (by decide) (fun _ => ?_) (fun h9 => absurd h9 (fun q9 => absurd ((nI_eq (b := 16) (by omega) (by decide)).mp q9) (by omega)))
  refine e_iconst (pc := 127) (v := 0) d_M_code_127 (by decide) ?_
  refine e_put (pc := 128) s_M_code_128 rfl (Nat.le_of_ble_eq_true rfl) zFit.int wTh ?_
  refine e_aload_n (pc := 131) d_M_code_131 rfl ?_
  refine e_get (pc := 132) s_M_code_132 rfl rfl ?_
  refine e_if_le (pc := 135) (tgt := 140) d_M_code_135 (by decide) (fun _ => ?_) (fun h9 => absurd (by decide) h9)
  refine e_bipush (pc := 140) (v := 16) d_M_code_140 (by decide) ?_
  refine e_iload_n (pc := 142) d_M_code_142 rfl ?_
  refine e_imul (pc := 143) d_M_code_143 ?_
  refine e_aload_n (pc := 144) d_M_code_144 rfl ?_
  refine e_get (pc := 145) s_M_code_145 rfl rfl ?_
  refine e_iload_n (pc := 148) d_M_code_148 rfl ?_
  refine e_iald (pc := 149) d_M_code_149 rfl (vp_in_nI (by omega) (by decide)) ((fx1 (nI_clamp (by omega))).trans h1) ?_
  refine e_iadd (pc := 150) d_M_code_150 ?_
  refine e_topi (y := nI (16 * c + q)) (ixM 16 c q) ?_
  refine e_istore (pc := 151) d_M_code_151 (Nat.le_of_ble_eq_true rfl) ?_
  dsimp only [List.set]
  refine e_aload_n (pc := 153) d_M_code_153 rfl ?_
  refine e_get (pc := 154) s_M_code_154 rfl rfl ?_
  refine e_iload (pc := 157) d_M_code_157 rfl ?_
  refine e_iload_n (pc := 159) d_M_code_159 rfl ?_
  refine e_iast (pc := 160) d_M_code_160 rfl (vp_in_nI (by omega) (by decide)) (vOp (nI_clamp (by omega)) hq) ?_
  refine e_aload_n (pc := 161) d_M_code_161 rfl ?_
  refine e_get (pc := 162) s_M_code_162 rfl rfl ?_
  refine e_iload (pc := 165) d_M_code_165 rfl ?_
  refine e_iload_n (pc := 167) d_M_code_167 rfl ?_
  refine e_iast (pc := 168) d_M_code_168 rfl (vp_in_nI (by omega) (by decide)) (vAs (nI_clamp (by omega)) hq) ?_
  refine e_aload_n (pc := 169) d_M_code_169 rfl ?_
  refine e_get (pc := 170) s_M_code_170 rfl rfl ?_
  refine e_iload (pc := 173) d_M_code_173 rfl ?_
  refine e_iload (pc := 175) d_M_code_175 rfl ?_
  refine e_iast (pc := 177) d_M_code_177 rfl (vp_in_nI (by omega) (by decide)) (vBs (nI_clamp (by omega)) hq) ?_
  refine e_aload_n (pc := 178) d_M_code_178 rfl ?_
  refine e_get (pc := 179) s_M_code_179 rfl rfl ?_
  refine e_iload_n (pc := 182) d_M_code_182 rfl ?_
  refine e_dup2 (pc := 183) d_M_code_183 rfl rfl ?_
  refine e_iald (pc := 184) d_M_code_184 rfl (vp_in_nI (by omega) (by decide)) ((fx1 (nI_clamp (by omega))).trans h1) ?_
  refine e_iconst (pc := 185) (v := 1) d_M_code_185 (by decide) ?_
  refine e_iadd (pc := 186) d_M_code_186 ?_
  refine e_iast (pc := 187) d_M_code_187 rfl (vp_in_nI (by omega) (by decide)) (vLen (nI_clamp (by omega))) ?_
  refine e_aload_n (pc := 188) d_M_code_188 rfl ?_
  refine e_get (pc := 189) s_M_code_189 rfl rfl ?_
  refine e_iload_n (pc := 192) d_M_code_192 rfl ?_
  refine e_iald (pc := 193) d_M_code_193 rfl (vp_in_nI (by omega) (by decide)) ((fx1 (nI_clamp (by omega))).trans (su_at _ _ _ _ _)) ?_
  exact e_iret (pc := 194) d_M_code_194 rfl rfl (Nat.le_of_ble_eq_true rfl) (Nat.le_of_ble_eq_true rfl) rfl
set_option maxHeartbeats 4000000 in
set_option maxRecDepth 100000 in
theorem sM_codeX1a {l : Launch} {G : zGP} {K : Nat} {S T : St} {th : Int32} {fo : Nat → Int64} {c : Nat} (hc : c < 3) {op a b : Int32} (ho : op < 0) : Rn l G m_M_code [.ref 45, .int (nI c), .int op, .int a, .int b] (hpA K S T th fo) (.inl (some (.int 0)), (hpA K S T 2 fo)) := by
  refine Rn.of (by decide) rfl rfl (Nat.le_of_ble_eq_true rfl) rfl ?_
  show Ev l G m_M_code 0 [.ref 45, .int (nI c), .int op, .int a, .int b, .double 0, .double 0, .double 0] [] (hpA K S T th fo) 0 0 _
  refine e_aload_n (pc := 0) d_M_code_0 rfl ?_
  refine e_iload_n (pc := 1) d_M_code_1 rfl ?_
  refine e_cV1 (pc := 2) s_M_code_2 (sM_core hc) rfl rfl rfl (Nat.le_of_ble_eq_true rfl) (Nat.le_of_ble_eq_true rfl) (Nat.le_of_ble_eq_true rfl) (zGo.v ?_)
  refine e_if_ne (pc := 5) (tgt := 10) d_M_code_5 (by decide) (fun _ => ?_) (fun h9 => absurd h9 (by decide))
  refine e_iload_n (pc := 10) d_M_code_10 rfl ?_
  refine e_iconst (pc := 11) (v := 2) d_M_code_11 (by decide) ?_
  refine e_icmp_eq (pc := 12) (tgt := 28) d_M_code_12 (by decide) (fun h9 => absurd h9 (by rintro rfl; revert ho; decide)) (fun _ => ?_)
  refine e_iload_n (pc := 15) d_M_code_15 rfl ?_
  refine e_bipush (pc := 16) (v := 7) d_M_code_16 (by decide) ?_
  refine e_icmp_eq (pc := 18) (tgt := 28) d_M_code_18 (by decide) (fun h9 => absurd h9 (by rintro rfl; revert ho; decide)) (fun _ => ?_)
  refine e_iload_n (pc := 21) d_M_code_21 rfl ?_
  refine e_cS1 (pc := 22) s_M_code_22 (sp_MisRegister) (Nat.le_of_ble_eq_true rfl) (Nat.le_of_ble_eq_true rfl) (Nat.le_of_ble_eq_true rfl) (zGo.v ?_)
  refine e_if_eq (pc := 25) (tgt := 32) d_M_code_25 (by decide) (fun h43 => ?_) (fun h43 => ?_)
  · replace h43 := b0.mp h43
    refine e_iconst (pc := 32) (v := 0) d_M_code_32 (by decide) ?_
    refine e_istore (pc := 33) d_M_code_33 (Nat.le_of_ble_eq_true rfl) ?_
    dsimp only [List.set]
    refine e_iload_n (pc := 35) d_M_code_35 rfl ?_
    refine e_if_eq (pc := 36) (tgt := 54) d_M_code_36 (by decide) (fun h9 => absurd h9 (by rintro rfl; revert ho; decide)) (fun _ => ?_)
    refine e_iload_n (pc := 39) d_M_code_39 rfl ?_
    refine e_iconst (pc := 40) (v := 1) d_M_code_40 (by decide) ?_
    refine e_icmp_eq (pc := 41) (tgt := 54) d_M_code_41 (by decide) (fun h9 => absurd h9 (by rintro rfl; revert ho; decide)) (fun _ => ?_)
    refine e_iload_n (pc := 44) d_M_code_44 rfl ?_
    refine e_iconst (pc := 45) (v := 3) d_M_code_45 (by decide) ?_
    refine e_icmp_eq (pc := 46) (tgt := 54) d_M_code_46 (by decide) (fun h9 => absurd h9 (by rintro rfl; revert ho; decide)) (fun _ => ?_)
    refine e_iload_n (pc := 49) d_M_code_49 rfl ?_
    refine e_iconst (pc := 50) (v := 4) d_M_code_50 (by decide) ?_
    refine e_icmp_ne (pc := 51) (tgt := 62) d_M_code_51 (by decide) (fun _ => ?_) (fun h9 => absurd h9 (by rintro rfl; revert ho; decide))
    refine e_iload_n (pc := 62) d_M_code_62 rfl ?_
    refine e_bipush (pc := 63) (v := 6) d_M_code_63 (by decide) ?_
    refine e_icmp_ne (pc := 65) (tgt := 80) d_M_code_65 (by decide) (fun _ => ?_) (fun h9 => absurd h9 (by rintro rfl; revert ho; decide))
    refine e_iconst (pc := 80) (v := 1) d_M_code_80 (by decide) ?_
    refine e_goto (pc := 81) (tgt := 85) d_M_code_81 (by decide) ?_
    refine e_istore (pc := 85) d_M_code_85 (Nat.le_of_ble_eq_true rfl) ?_
    dsimp only [List.set]
    refine e_aload_n (pc := 87) d_M_code_87 rfl ?_
    refine e_iload_n (pc := 88) d_M_code_88 rfl ?_
    refine e_if_lt (pc := 89) (tgt := 108) d_M_code_89 (by decide) (fun _ => ?_) (fun h9 => absurd (ho) h9)
    refine e_iconst (pc := 108) (v := 2) d_M_code_108 (by decide) ?_
    refine e_goto (pc := 109) (tgt := 128) d_M_code_109 (by decide) ?_
    refine e_put (pc := 128) s_M_code_128 rfl (Nat.le_of_ble_eq_true rfl) zFit.int wTh ?_
    refine e_aload_n (pc := 131) d_M_code_131 rfl ?_
    refine e_get (pc := 132) s_M_code_132 rfl rfl ?_
    refine e_if_le (pc := 135) (tgt := 140) d_M_code_135 (by decide) (fun h9 => absurd h9 (by decide)) (fun _ => ?_)
    refine e_iconst (pc := 138) (v := 0) d_M_code_138 (by decide) ?_
    exact e_iret (pc := 139) d_M_code_139 rfl rfl (Nat.le_of_ble_eq_true rfl) (Nat.le_of_ble_eq_true rfl) (by simp [h43])
  · replace h43 := b1.mp h43
    refine e_iconst (pc := 28) (v := 1) d_M_code_28 (by decide) ?_
    refine e_goto (pc := 29) (tgt := 33) d_M_code_29 (by decide) ?_
    refine e_istore (pc := 33) d_M_code_33 (Nat.le_of_ble_eq_true rfl) ?_
    dsimp only [List.set]
    refine e_iload_n (pc := 35) d_M_code_35 rfl ?_
    refine e_if_eq (pc := 36) (tgt := 54) d_M_code_36 (by decide) (fun h9 => absurd h9 (by rintro rfl; revert ho; decide)) (fun _ => ?_)
    refine e_iload_n (pc := 39) d_M_code_39 rfl ?_
    refine e_iconst (pc := 40) (v := 1) d_M_code_40 (by decide) ?_
    refine e_icmp_eq (pc := 41) (tgt := 54) d_M_code_41 (by decide) (fun h9 => absurd h9 (by rintro rfl; revert ho; decide)) (fun _ => ?_)
    refine e_iload_n (pc := 44) d_M_code_44 rfl ?_
    refine e_iconst (pc := 45) (v := 3) d_M_code_45 (by decide) ?_
    refine e_icmp_eq (pc := 46) (tgt := 54) d_M_code_46 (by decide) (fun h9 => absurd h9 (by rintro rfl; revert ho; decide)) (fun _ => ?_)
    refine e_iload_n (pc := 49) d_M_code_49 rfl ?_
    refine e_iconst (pc := 50) (v := 4) d_M_code_50 (by decide) ?_
    refine e_icmp_ne (pc := 51) (tgt := 62) d_M_code_51 (by decide) (fun _ => ?_) (fun h9 => absurd h9 (by rintro rfl; revert ho; decide))
    refine e_iload_n (pc := 62) d_M_code_62 rfl ?_
    refine e_bipush (pc := 63) (v := 6) d_M_code_63 (by decide) ?_
    refine e_icmp_ne (pc := 65) (tgt := 80) d_M_code_65 (by decide) (fun _ => ?_) (fun h9 => absurd h9 (by rintro rfl; revert ho; decide))
    refine e_iconst (pc := 80) (v := 1) d_M_code_80 (by decide) ?_
    refine e_goto (pc := 81) (tgt := 85) d_M_code_81 (by decide) ?_
    refine e_istore (pc := 85) d_M_code_85 (Nat.le_of_ble_eq_true rfl) ?_
    dsimp only [List.set]
    refine e_aload_n (pc := 87) d_M_code_87 rfl ?_
    refine e_iload_n (pc := 88) d_M_code_88 rfl ?_
    refine e_if_lt (pc := 89) (tgt := 108) d_M_code_89 (by decide) (fun _ => ?_) (fun h9 => absurd (ho) h9)
    refine e_iconst (pc := 108) (v := 2) d_M_code_108 (by decide) ?_
    refine e_goto (pc := 109) (tgt := 128) d_M_code_109 (by decide) ?_
    refine e_put (pc := 128) s_M_code_128 rfl (Nat.le_of_ble_eq_true rfl) zFit.int wTh ?_
    refine e_aload_n (pc := 131) d_M_code_131 rfl ?_
    refine e_get (pc := 132) s_M_code_132 rfl rfl ?_
    refine e_if_le (pc := 135) (tgt := 140) d_M_code_135 (by decide) (fun h9 => absurd h9 (by decide)) (fun _ => ?_)
    refine e_iconst (pc := 138) (v := 0) d_M_code_138 (by decide) ?_
    exact e_iret (pc := 139) d_M_code_139 rfl rfl (Nat.le_of_ble_eq_true rfl) (Nat.le_of_ble_eq_true rfl) (by simp [h43])
set_option maxHeartbeats 4000000 in
set_option maxRecDepth 100000 in
theorem sM_codeX1b {l : Launch} {G : zGP} {K : Nat} {S T : St} {th : Int32} {fo : Nat → Int64} {c : Nat} (hc : c < 3) {op a b : Int32} (ho : 8 ≤ op) : Rn l G m_M_code [.ref 45, .int (nI c), .int op, .int a, .int b] (hpA K S T th fo) (.inl (some (.int 0)), (hpA K S T 2 fo)) := by
  refine Rn.of (by decide) rfl rfl (Nat.le_of_ble_eq_true rfl) rfl ?_
  show Ev l G m_M_code 0 [.ref 45, .int (nI c), .int op, .int a, .int b, .double 0, .double 0, .double 0] [] (hpA K S T th fo) 0 0 _
  refine e_aload_n (pc := 0) d_M_code_0 rfl ?_
  refine e_iload_n (pc := 1) d_M_code_1 rfl ?_
  refine e_cV1 (pc := 2) s_M_code_2 (sM_core hc) rfl rfl rfl (Nat.le_of_ble_eq_true rfl) (Nat.le_of_ble_eq_true rfl) (Nat.le_of_ble_eq_true rfl) (zGo.v ?_)
  refine e_if_ne (pc := 5) (tgt := 10) d_M_code_5 (by decide) (fun _ => ?_) (fun h9 => absurd h9 (by decide))
  refine e_iload_n (pc := 10) d_M_code_10 rfl ?_
  refine e_iconst (pc := 11) (v := 2) d_M_code_11 (by decide) ?_
  refine e_icmp_eq (pc := 12) (tgt := 28) d_M_code_12 (by decide) (fun h9 => absurd h9 (by rintro rfl; revert ho; decide)) (fun _ => ?_)
  refine e_iload_n (pc := 15) d_M_code_15 rfl ?_
  refine e_bipush (pc := 16) (v := 7) d_M_code_16 (by decide) ?_
  refine e_icmp_eq (pc := 18) (tgt := 28) d_M_code_18 (by decide) (fun h9 => absurd h9 (by rintro rfl; revert ho; decide)) (fun _ => ?_)
  refine e_iload_n (pc := 21) d_M_code_21 rfl ?_
  refine e_cS1 (pc := 22) s_M_code_22 (sp_MisRegister) (Nat.le_of_ble_eq_true rfl) (Nat.le_of_ble_eq_true rfl) (Nat.le_of_ble_eq_true rfl) (zGo.v ?_)
  refine e_if_eq (pc := 25) (tgt := 32) d_M_code_25 (by decide) (fun h44 => ?_) (fun h44 => ?_)
  · replace h44 := b0.mp h44
    refine e_iconst (pc := 32) (v := 0) d_M_code_32 (by decide) ?_
    refine e_istore (pc := 33) d_M_code_33 (Nat.le_of_ble_eq_true rfl) ?_
    dsimp only [List.set]
    refine e_iload_n (pc := 35) d_M_code_35 rfl ?_
    refine e_if_eq (pc := 36) (tgt := 54) d_M_code_36 (by decide) (fun h9 => absurd h9 (by rintro rfl; revert ho; decide)) (fun _ => ?_)
    refine e_iload_n (pc := 39) d_M_code_39 rfl ?_
    refine e_iconst (pc := 40) (v := 1) d_M_code_40 (by decide) ?_
    refine e_icmp_eq (pc := 41) (tgt := 54) d_M_code_41 (by decide) (fun h9 => absurd h9 (by rintro rfl; revert ho; decide)) (fun _ => ?_)
    refine e_iload_n (pc := 44) d_M_code_44 rfl ?_
    refine e_iconst (pc := 45) (v := 3) d_M_code_45 (by decide) ?_
    refine e_icmp_eq (pc := 46) (tgt := 54) d_M_code_46 (by decide) (fun h9 => absurd h9 (by rintro rfl; revert ho; decide)) (fun _ => ?_)
    refine e_iload_n (pc := 49) d_M_code_49 rfl ?_
    refine e_iconst (pc := 50) (v := 4) d_M_code_50 (by decide) ?_
    refine e_icmp_ne (pc := 51) (tgt := 62) d_M_code_51 (by decide) (fun _ => ?_) (fun h9 => absurd h9 (by rintro rfl; revert ho; decide))
    refine e_iload_n (pc := 62) d_M_code_62 rfl ?_
    refine e_bipush (pc := 63) (v := 6) d_M_code_63 (by decide) ?_
    refine e_icmp_ne (pc := 65) (tgt := 80) d_M_code_65 (by decide) (fun _ => ?_) (fun h9 => absurd h9 (by rintro rfl; revert ho; decide))
    refine e_iconst (pc := 80) (v := 1) d_M_code_80 (by decide) ?_
    refine e_goto (pc := 81) (tgt := 85) d_M_code_81 (by decide) ?_
    refine e_istore (pc := 85) d_M_code_85 (Nat.le_of_ble_eq_true rfl) ?_
    dsimp only [List.set]
    refine e_aload_n (pc := 87) d_M_code_87 rfl ?_
    refine e_iload_n (pc := 88) d_M_code_88 rfl ?_
    refine e_if_lt (pc := 89) (tgt := 108) d_M_code_89 (by decide) (fun h9 => absurd h9 (fun z => Int32.lt_irrefl (Int32.lt_of_lt_of_le z (Int32.le_trans (by decide : (0 : Int32) ≤ 8) ho)))) (fun _ => ?_)
    refine e_iload_n (pc := 92) d_M_code_92 rfl ?_
    refine e_bipush (pc := 93) (v := 7) d_M_code_93 (by decide) ?_
    refine e_icmp_gt (pc := 95) (tgt := 108) d_M_code_95 (by decide) (fun _ => ?_) (fun h9 => absurd (Int32.lt_of_lt_of_le (by decide : (7 : Int32) < 8) ho) h9)
    refine e_iconst (pc := 108) (v := 2) d_M_code_108 (by decide) ?_
    refine e_goto (pc := 109) (tgt := 128) d_M_code_109 (by decide) ?_
    refine e_put (pc := 128) s_M_code_128 rfl (Nat.le_of_ble_eq_true rfl) zFit.int wTh ?_
    refine e_aload_n (pc := 131) d_M_code_131 rfl ?_
    refine e_get (pc := 132) s_M_code_132 rfl rfl ?_
    refine e_if_le (pc := 135) (tgt := 140) d_M_code_135 (by decide) (fun h9 => absurd h9 (by decide)) (fun _ => ?_)
    refine e_iconst (pc := 138) (v := 0) d_M_code_138 (by decide) ?_
    exact e_iret (pc := 139) d_M_code_139 rfl rfl (Nat.le_of_ble_eq_true rfl) (Nat.le_of_ble_eq_true rfl) (by simp [h44])
  · replace h44 := b1.mp h44
    refine e_iconst (pc := 28) (v := 1) d_M_code_28 (by decide) ?_
    refine e_goto (pc := 29) (tgt := 33) d_M_code_29 (by decide) ?_
    refine e_istore (pc := 33) d_M_code_33 (Nat.le_of_ble_eq_true rfl) ?_
    dsimp only [List.set]
    refine e_iload_n (pc := 35) d_M_code_35 rfl ?_
    refine e_if_eq (pc := 36) (tgt := 54) d_M_code_36 (by decide) (fun h9 => absurd h9 (by rintro rfl; revert ho; decide)) (fun _ => ?_)
    refine e_iload_n (pc := 39) d_M_code_39 rfl ?_
    refine e_iconst (pc := 40) (v := 1) d_M_code_40 (by decide) ?_
    refine e_icmp_eq (pc := 41) (tgt := 54) d_M_code_41 (by decide) (fun h9 => absurd h9 (by rintro rfl; revert ho; decide)) (fun _ => ?_)
    refine e_iload_n (pc := 44) d_M_code_44 rfl ?_
    refine e_iconst (pc := 45) (v := 3) d_M_code_45 (by decide) ?_
    refine e_icmp_eq (pc := 46) (tgt := 54) d_M_code_46 (by decide) (fun h9 => absurd h9 (by rintro rfl; revert ho; decide)) (fun _ => ?_)
    refine e_iload_n (pc := 49) d_M_code_49 rfl ?_
    refine e_iconst (pc := 50) (v := 4) d_M_code_50 (by decide) ?_
    refine e_icmp_ne (pc := 51) (tgt := 62) d_M_code_51 (by decide) (fun _ => ?_) (fun h9 => absurd h9 (by rintro rfl; revert ho; decide))
    refine e_iload_n (pc := 62) d_M_code_62 rfl ?_
    refine e_bipush (pc := 63) (v := 6) d_M_code_63 (by decide) ?_
    refine e_icmp_ne (pc := 65) (tgt := 80) d_M_code_65 (by decide) (fun _ => ?_) (fun h9 => absurd h9 (by rintro rfl; revert ho; decide))
    refine e_iconst (pc := 80) (v := 1) d_M_code_80 (by decide) ?_
    refine e_goto (pc := 81) (tgt := 85) d_M_code_81 (by decide) ?_
    refine e_istore (pc := 85) d_M_code_85 (Nat.le_of_ble_eq_true rfl) ?_
    dsimp only [List.set]
    refine e_aload_n (pc := 87) d_M_code_87 rfl ?_
    refine e_iload_n (pc := 88) d_M_code_88 rfl ?_
    refine e_if_lt (pc := 89) (tgt := 108) d_M_code_89 (by decide) (fun h9 => absurd h9 (fun z => Int32.lt_irrefl (Int32.lt_of_lt_of_le z (Int32.le_trans (by decide : (0 : Int32) ≤ 8) ho)))) (fun _ => ?_)
    refine e_iload_n (pc := 92) d_M_code_92 rfl ?_
    refine e_bipush (pc := 93) (v := 7) d_M_code_93 (by decide) ?_
    refine e_icmp_gt (pc := 95) (tgt := 108) d_M_code_95 (by decide) (fun _ => ?_) (fun h9 => absurd (Int32.lt_of_lt_of_le (by decide : (7 : Int32) < 8) ho) h9)
    refine e_iconst (pc := 108) (v := 2) d_M_code_108 (by decide) ?_
    refine e_goto (pc := 109) (tgt := 128) d_M_code_109 (by decide) ?_
    refine e_put (pc := 128) s_M_code_128 rfl (Nat.le_of_ble_eq_true rfl) zFit.int wTh ?_
    refine e_aload_n (pc := 131) d_M_code_131 rfl ?_
    refine e_get (pc := 132) s_M_code_132 rfl rfl ?_
    refine e_if_le (pc := 135) (tgt := 140) d_M_code_135 (by decide) (fun h9 => absurd h9 (by decide)) (fun _ => ?_)
    refine e_iconst (pc := 138) (v := 0) d_M_code_138 (by decide) ?_
    exact e_iret (pc := 139) d_M_code_139 rfl rfl (Nat.le_of_ble_eq_true rfl) (Nat.le_of_ble_eq_true rfl) (by simp [h44])
set_option maxHeartbeats 4000000 in
set_option maxRecDepth 100000 in
theorem sM_codeX1 {l : Launch} {G : zGP} {K : Nat} {S T : St} {th : Int32} {fo : Nat → Int64} {c : Nat} (hc : c < 3) {op a b : Int32} (ho : op < 0 ∨ 8 ≤ op) : Rn l G m_M_code [.ref 45, .int (nI c), .int op, .int a, .int b] (hpA K S T th fo) (.inl (some (.int 0)), (hpA K S T 2 fo)) := by
  rcases ho with ho | ho
  · exact sM_codeX1a hc ho
  · exact sM_codeX1b hc ho
