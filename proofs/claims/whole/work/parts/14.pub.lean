/-! ===== the class's public methods ===== -/
set_option maxHeartbeats 4000000 in
set_option maxRecDepth 100000 in
theorem sX_code {l : Launch} {G : zGP} {K : Nat} {S T : St} {th : Int32} {fo : Nat → Int64} {x : Int32} (hx : ¬ (0 ≤ x ∧ x < 3)) {y0 y1 y2 : Int32} : Rn l G m_B_code [.ref 0, .int x, .int y0, .int y1, .int y2] (hpA K S T th fo) (.inr "java/lang/IndexOutOfBoundsException", (hpA K S T th fo)) := by
  refine Rn.of (by decide) rfl rfl (Nat.le_of_ble_eq_true rfl) rfl ?_
  show Ev l G m_B_code 0 [.ref 0, .int x, .int y0, .int y1, .int y2, .double 0] [] (hpA K S T th fo) 0 0 _
  refine e_aload_n (pc := 0) d_B_code_0 rfl ?_
  refine e_iload_n (pc := 1) d_B_code_1 rfl ?_
  exact e_cV1 (pc := 2) s_B_code_2 (sX_coreAt hx) rfl rfl rfl (Nat.le_of_ble_eq_true rfl) (Nat.le_of_ble_eq_true rfl) (Nat.le_of_ble_eq_true rfl) (zGo.t rfl (Nat.le_of_ble_eq_true rfl) (Nat.le_of_ble_eq_true rfl) rfl)
set_option maxHeartbeats 4000000 in
set_option maxRecDepth 100000 in
theorem sX_step {l : Launch} {G : zGP} {K : Nat} {S T : St} {th : Int32} {fo : Nat → Int64} {x : Int32} (hx : ¬ (0 ≤ x ∧ x < 3)) : Rn l G m_B_step [.ref 0, .int x] (hpA K S T th fo) (.inr "java/lang/IndexOutOfBoundsException", (hpA K S T th fo)) := by
  refine Rn.of (by decide) rfl rfl (Nat.le_of_ble_eq_true rfl) rfl ?_
  show Ev l G m_B_step 0 [.ref 0, .int x, .double 0, .double 0, .double 0] [] (hpA K S T th fo) 0 0 _
  refine e_aload_n (pc := 0) d_B_step_0 rfl ?_
  refine e_iload_n (pc := 1) d_B_step_1 rfl ?_
  exact e_cV1 (pc := 2) s_B_step_2 (sX_coreAt hx) rfl rfl rfl (Nat.le_of_ble_eq_true rfl) (Nat.le_of_ble_eq_true rfl) (Nat.le_of_ble_eq_true rfl) (zGo.t rfl (Nat.le_of_ble_eq_true rfl) (Nat.le_of_ble_eq_true rfl) rfl)
set_option maxHeartbeats 4000000 in
set_option maxRecDepth 100000 in
theorem sX_drain {l : Launch} {G : zGP} {K : Nat} {S T : St} {th : Int32} {fo : Nat → Int64} {x : Int32} (hx : ¬ (0 ≤ x ∧ x < 3)) : Rn l G m_B_drain [.ref 0, .int x] (hpA K S T th fo) (.inr "java/lang/IndexOutOfBoundsException", (hpA K S T th fo)) := by
  refine Rn.of (by decide) rfl rfl (Nat.le_of_ble_eq_true rfl) rfl ?_
  show Ev l G m_B_drain 0 [.ref 0, .int x, .double 0, .double 0, .double 0, .double 0] [] (hpA K S T th fo) 0 0 _
  refine e_aload_n (pc := 0) d_B_drain_0 rfl ?_
  refine e_iload_n (pc := 1) d_B_drain_1 rfl ?_
  exact e_cV1 (pc := 2) s_B_drain_2 (sX_coreAt hx) rfl rfl rfl (Nat.le_of_ble_eq_true rfl) (Nat.le_of_ble_eq_true rfl) (Nat.le_of_ble_eq_true rfl) (zGo.t rfl (Nat.le_of_ble_eq_true rfl) (Nat.le_of_ble_eq_true rfl) rfl)
set_option maxHeartbeats 4000000 in
set_option maxRecDepth 100000 in
theorem sX_grant {l : Launch} {G : zGP} {K : Nat} {S T : St} {th : Int32} {fo : Nat → Int64} {x : Int32} (hx : ¬ (0 ≤ x ∧ x < 3)) : Rn l G m_B_grant [.ref 0, .int x] (hpA K S T th fo) (.inr "java/lang/IndexOutOfBoundsException", (hpA K S T th fo)) := by
  refine Rn.of (by decide) rfl rfl (Nat.le_of_ble_eq_true rfl) rfl ?_
  show Ev l G m_B_grant 0 [.ref 0, .int x, .double 0, .double 0, .double 0, .double 0, .double 0] [] (hpA K S T th fo) 0 0 _
  refine e_aload_n (pc := 0) d_B_grant_0 rfl ?_
  refine e_iload_n (pc := 1) d_B_grant_1 rfl ?_
  exact e_cV1 (pc := 2) s_B_grant_2 (sX_coreAt hx) rfl rfl rfl (Nat.le_of_ble_eq_true rfl) (Nat.le_of_ble_eq_true rfl) (Nat.le_of_ble_eq_true rfl) (zGo.t rfl (Nat.le_of_ble_eq_true rfl) (Nat.le_of_ble_eq_true rfl) rfl)
set_option maxHeartbeats 4000000 in
set_option maxRecDepth 100000 in
theorem sX_fill {l : Launch} {G : zGP} {K : Nat} {S T : St} {th : Int32} {fo : Nat → Int64} {x : Int32} (hx : ¬ (0 ≤ x ∧ x < 3)) : Rn l G m_B_fill [.ref 0, .int x] (hpA K S T th fo) (.inr "java/lang/IndexOutOfBoundsException", (hpA K S T th fo)) := by
  refine Rn.of (by decide) rfl rfl (Nat.le_of_ble_eq_true rfl) rfl ?_
  show Ev l G m_B_fill 0 [.ref 0, .int x, .double 0, .double 0, .double 0, .double 0] [] (hpA K S T th fo) 0 0 _
  refine e_aload_n (pc := 0) d_B_fill_0 rfl ?_
  refine e_iload_n (pc := 1) d_B_fill_1 rfl ?_
  exact e_cV1 (pc := 2) s_B_fill_2 (sX_coreAt hx) rfl rfl rfl (Nat.le_of_ble_eq_true rfl) (Nat.le_of_ble_eq_true rfl) (Nat.le_of_ble_eq_true rfl) (zGo.t rfl (Nat.le_of_ble_eq_true rfl) (Nat.le_of_ble_eq_true rfl) rfl)
set_option maxHeartbeats 4000000 in
set_option maxRecDepth 100000 in
theorem sX_register {l : Launch} {G : zGP} {K : Nat} {S T : St} {th : Int32} {fo : Nat → Int64} {x : Int32} (hx : ¬ (0 ≤ x ∧ x < 3)) {y0 : Int32} : Rn l G m_B_register [.ref 0, .int x, .int y0] (hpA K S T th fo) (.inr "java/lang/IndexOutOfBoundsException", (hpA K S T th fo)) := by
  refine Rn.of (by decide) rfl rfl (Nat.le_of_ble_eq_true rfl) rfl ?_
  show Ev l G m_B_register 0 [.ref 0, .int x, .int y0, .double 0] [] (hpA K S T th fo) 0 0 _
  refine e_aload_n (pc := 0) d_B_register_0 rfl ?_
  refine e_iload_n (pc := 1) d_B_register_1 rfl ?_
  exact e_cV1 (pc := 2) s_B_register_2 (sX_coreAt hx) rfl rfl rfl (Nat.le_of_ble_eq_true rfl) (Nat.le_of_ble_eq_true rfl) (Nat.le_of_ble_eq_true rfl) (zGo.t rfl (Nat.le_of_ble_eq_true rfl) (Nat.le_of_ble_eq_true rfl) rfl)
set_option maxHeartbeats 4000000 in
set_option maxRecDepth 100000 in
theorem sX_place {l : Launch} {G : zGP} {K : Nat} {S T : St} {th : Int32} {fo : Nat → Int64} {x : Int32} (hx : ¬ (0 ≤ x ∧ x < 3)) : Rn l G m_B_place [.ref 0, .int x] (hpA K S T th fo) (.inr "java/lang/IndexOutOfBoundsException", (hpA K S T th fo)) := by
  refine Rn.of (by decide) rfl rfl (Nat.le_of_ble_eq_true rfl) rfl ?_
  show Ev l G m_B_place 0 [.ref 0, .int x] [] (hpA K S T th fo) 0 0 _
  refine e_aload_n (pc := 0) d_B_place_0 rfl ?_
  refine e_iload_n (pc := 1) d_B_place_1 rfl ?_
  exact e_cV1 (pc := 2) s_B_place_2 (sX_coreAt hx) rfl rfl rfl (Nat.le_of_ble_eq_true rfl) (Nat.le_of_ble_eq_true rfl) (Nat.le_of_ble_eq_true rfl) (zGo.t rfl (Nat.le_of_ble_eq_true rfl) (Nat.le_of_ble_eq_true rfl) rfl)
set_option maxHeartbeats 4000000 in
set_option maxRecDepth 100000 in
theorem sX_buffered {l : Launch} {G : zGP} {K : Nat} {S T : St} {th : Int32} {fo : Nat → Int64} {x : Int32} (hx : ¬ (0 ≤ x ∧ x < 3)) : Rn l G m_B_buffered [.ref 0, .int x] (hpA K S T th fo) (.inr "java/lang/IndexOutOfBoundsException", (hpA K S T th fo)) := by
  refine Rn.of (by decide) rfl rfl (Nat.le_of_ble_eq_true rfl) rfl ?_
  show Ev l G m_B_buffered 0 [.ref 0, .int x] [] (hpA K S T th fo) 0 0 _
  refine e_aload_n (pc := 0) d_B_buffered_0 rfl ?_
  refine e_iload_n (pc := 1) d_B_buffered_1 rfl ?_
  exact e_cV1 (pc := 2) s_B_buffered_2 (sX_coreAt hx) rfl rfl rfl (Nat.le_of_ble_eq_true rfl) (Nat.le_of_ble_eq_true rfl) (Nat.le_of_ble_eq_true rfl) (zGo.t rfl (Nat.le_of_ble_eq_true rfl) (Nat.le_of_ble_eq_true rfl) rfl)
set_option maxHeartbeats 4000000 in
set_option maxRecDepth 100000 in
theorem sX_storeAddress {l : Launch} {G : zGP} {K : Nat} {S T : St} {th : Int32} {fo : Nat → Int64} {x : Int32} (hx : ¬ (0 ≤ x ∧ x < 3)) {y0 : Int32} : Rn l G m_B_storeAddress [.ref 0, .int x, .int y0] (hpA K S T th fo) (.inr "java/lang/IndexOutOfBoundsException", (hpA K S T th fo)) := by
  refine Rn.of (by decide) rfl rfl (Nat.le_of_ble_eq_true rfl) rfl ?_
  show Ev l G m_B_storeAddress 0 [.ref 0, .int x, .int y0, .double 0] [] (hpA K S T th fo) 0 0 _
  refine e_aload_n (pc := 0) d_B_storeAddress_0 rfl ?_
  refine e_iload_n (pc := 1) d_B_storeAddress_1 rfl ?_
  exact e_cV1 (pc := 2) s_B_storeAddress_2 (sX_coreAt hx) rfl rfl rfl (Nat.le_of_ble_eq_true rfl) (Nat.le_of_ble_eq_true rfl) (Nat.le_of_ble_eq_true rfl) (zGo.t rfl (Nat.le_of_ble_eq_true rfl) (Nat.le_of_ble_eq_true rfl) rfl)
set_option maxHeartbeats 4000000 in
set_option maxRecDepth 100000 in
theorem sX_storeValue {l : Launch} {G : zGP} {K : Nat} {S T : St} {th : Int32} {fo : Nat → Int64} {x : Int32} (hx : ¬ (0 ≤ x ∧ x < 3)) {y0 : Int32} : Rn l G m_B_storeValue [.ref 0, .int x, .int y0] (hpA K S T th fo) (.inr "java/lang/IndexOutOfBoundsException", (hpA K S T th fo)) := by
  refine Rn.of (by decide) rfl rfl (Nat.le_of_ble_eq_true rfl) rfl ?_
  show Ev l G m_B_storeValue 0 [.ref 0, .int x, .int y0, .double 0] [] (hpA K S T th fo) 0 0 _
  refine e_aload_n (pc := 0) d_B_storeValue_0 rfl ?_
  refine e_iload_n (pc := 1) d_B_storeValue_1 rfl ?_
  exact e_cV1 (pc := 2) s_B_storeValue_2 (sX_coreAt hx) rfl rfl rfl (Nat.le_of_ble_eq_true rfl) (Nat.le_of_ble_eq_true rfl) (Nat.le_of_ble_eq_true rfl) (zGo.t rfl (Nat.le_of_ble_eq_true rfl) (Nat.le_of_ble_eq_true rfl) rfl)
set_option maxHeartbeats 4000000 in
set_option maxRecDepth 100000 in
theorem sX_line {l : Launch} {G : zGP} {K : Nat} {S T : St} {th : Int32} {fo : Nat → Int64} {x : Int32} (hx : ¬ (0 ≤ x ∧ x < 3)) {y0 : Int32} : Rn l G m_B_line [.ref 0, .int x, .int y0] (hpA K S T th fo) (.inr "java/lang/IndexOutOfBoundsException", (hpA K S T th fo)) := by
  refine Rn.of (by decide) rfl rfl (Nat.le_of_ble_eq_true rfl) rfl ?_
  show Ev l G m_B_line 0 [.ref 0, .int x, .int y0, .double 0, .double 0] [] (hpA K S T th fo) 0 0 _
  refine e_aload_n (pc := 0) d_B_line_0 rfl ?_
  refine e_iload_n (pc := 1) d_B_line_1 rfl ?_
  exact e_cV1 (pc := 2) s_B_line_2 (sX_coreAt hx) rfl rfl rfl (Nat.le_of_ble_eq_true rfl) (Nat.le_of_ble_eq_true rfl) (Nat.le_of_ble_eq_true rfl) (zGo.t rfl (Nat.le_of_ble_eq_true rfl) (Nat.le_of_ble_eq_true rfl) rfl)
set_option maxHeartbeats 4000000 in
set_option maxRecDepth 100000 in
theorem sX_cached {l : Launch} {G : zGP} {K : Nat} {S T : St} {th : Int32} {fo : Nat → Int64} {x : Int32} (hx : ¬ (0 ≤ x ∧ x < 3)) {y0 : Int32} : Rn l G m_B_cached [.ref 0, .int x, .int y0] (hpA K S T th fo) (.inr "java/lang/IndexOutOfBoundsException", (hpA K S T th fo)) := by
  refine Rn.of (by decide) rfl rfl (Nat.le_of_ble_eq_true rfl) rfl ?_
  show Ev l G m_B_cached 0 [.ref 0, .int x, .int y0, .double 0, .double 0] [] (hpA K S T th fo) 0 0 _
  refine e_aload_n (pc := 0) d_B_cached_0 rfl ?_
  refine e_iload_n (pc := 1) d_B_cached_1 rfl ?_
  exact e_cV1 (pc := 2) s_B_cached_2 (sX_coreAt hx) rfl rfl rfl (Nat.le_of_ble_eq_true rfl) (Nat.le_of_ble_eq_true rfl) (Nat.le_of_ble_eq_true rfl) (zGo.t rfl (Nat.le_of_ble_eq_true rfl) (Nat.le_of_ble_eq_true rfl) rfl)
set_option maxHeartbeats 4000000 in
set_option maxRecDepth 100000 in
theorem sX_request {l : Launch} {G : zGP} {K : Nat} {S T : St} {th : Int32} {fo : Nat → Int64} {x : Int32} (hx : ¬ (0 ≤ x ∧ x < 3)) : Rn l G m_B_request [.ref 0, .int x] (hpA K S T th fo) (.inr "java/lang/IndexOutOfBoundsException", (hpA K S T th fo)) := by
  refine Rn.of (by decide) rfl rfl (Nat.le_of_ble_eq_true rfl) rfl ?_
  show Ev l G m_B_request 0 [.ref 0, .int x, .double 0] [] (hpA K S T th fo) 0 0 _
  refine e_aload_n (pc := 0) d_B_request_0 rfl ?_
  refine e_iload_n (pc := 1) d_B_request_1 rfl ?_
  exact e_cV1 (pc := 2) s_B_request_2 (sX_coreAt hx) rfl rfl rfl (Nat.le_of_ble_eq_true rfl) (Nat.le_of_ble_eq_true rfl) (Nat.le_of_ble_eq_true rfl) (zGo.t rfl (Nat.le_of_ble_eq_true rfl) (Nat.le_of_ble_eq_true rfl) rfl)
set_option maxHeartbeats 4000000 in
set_option maxRecDepth 100000 in
theorem sA_codeX1 {l : Launch} {G : zGP} {K : Nat} {S T : St} {th : Int32} {fo : Nat → Int64} {c : Nat} (hc : c < 3) {op a b : Int32} (ho : op < 0 ∨ 8 ≤ op) : Rn l G m_B_code [.ref 0, .int (nI c), .int op, .int a, .int b] (hpA K S T th fo) (.inr "java/lang/IllegalArgumentException", (hpA K S T th fo)) := by
  refine Rn.of (by decide) rfl rfl (Nat.le_of_ble_eq_true rfl) rfl ?_
  show Ev l G m_B_code 0 [.ref 0, .int (nI c), .int op, .int a, .int b, .double 0] [] (hpA K S T th fo) 0 0 _
  refine e_aload_n (pc := 0) d_B_code_0 rfl ?_
  refine e_iload_n (pc := 1) d_B_code_1 rfl ?_
  refine e_cV1 (pc := 2) s_B_code_2 (sA_coreAt hc) rfl rfl rfl (Nat.le_of_ble_eq_true rfl) (Nat.le_of_ble_eq_true rfl) (Nat.le_of_ble_eq_true rfl) (zGo.v ?_)
  refine e_get (pc := 5) s_B_code_5 (rC hc) rfl ?_
  refine e_astore (pc := 8) d_B_code_8 (Nat.le_of_ble_eq_true rfl) ?_
  dsimp only [List.set]
  refine e_iload_n (pc := 10) d_B_code_10 rfl ?_
  refine e_iload_n (pc := 11) d_B_code_11 rfl ?_
  refine e_iload (pc := 12) d_B_code_12 rfl ?_
  refine e_cS3 (pc := 14) s_B_code_14 (sX_isIns ho) (Nat.le_of_ble_eq_true rfl) (Nat.le_of_ble_eq_true rfl) (Nat.le_of_ble_eq_true rfl) (zGo.v ?_)
  refine e_if_ne (pc := 17) (tgt := 30) d_B_code_17 (by decide) (fun h9 => absurd (by decide) h9) (fun _ => ?_)
  exact e_thr (pc := 20) s_B_code_20 (Nat.le_of_ble_eq_true rfl) (Nat.le_of_ble_eq_true rfl) (Nat.le_of_ble_eq_true rfl) rfl
set_option maxHeartbeats 4000000 in
set_option maxRecDepth 100000 in
theorem sA_codeX0_2 {l : Launch} {G : zGP} {K : Nat} {S T : St} {th : Int32} {fo : Nat → Int64} {c : Nat} (hc : c < 3) {a b : Int32} (hv : vB 0 a b = false) : Rn l G m_B_code [.ref 0, .int (nI c), .int (nI 0), .int a, .int b] (hpA K S T th fo) (.inr "java/lang/IllegalArgumentException", (hpA K S T th fo)) := by
  refine Rn.of (by decide) rfl rfl (Nat.le_of_ble_eq_true rfl) rfl ?_
  show Ev l G m_B_code 0 [.ref 0, .int (nI c), .int (nI 0), .int a, .int b, .double 0] [] (hpA K S T th fo) 0 0 _
  refine e_aload_n (pc := 0) d_B_code_0 rfl ?_
  refine e_iload_n (pc := 1) d_B_code_1 rfl ?_
  refine e_cV1 (pc := 2) s_B_code_2 (sA_coreAt hc) rfl rfl rfl (Nat.le_of_ble_eq_true rfl) (Nat.le_of_ble_eq_true rfl) (Nat.le_of_ble_eq_true rfl) (zGo.v ?_)
  refine e_get (pc := 5) s_B_code_5 (rC hc) rfl ?_
  refine e_astore (pc := 8) d_B_code_8 (Nat.le_of_ble_eq_true rfl) ?_
  dsimp only [List.set]
  refine e_iload_n (pc := 10) d_B_code_10 rfl ?_
  refine e_iload_n (pc := 11) d_B_code_11 rfl ?_
  refine e_iload (pc := 12) d_B_code_12 rfl ?_
  refine e_cS3 (pc := 14) s_B_code_14 (sA_isIns0) (Nat.le_of_ble_eq_true rfl) (Nat.le_of_ble_eq_true rfl) (Nat.le_of_ble_eq_true rfl) (zGo.v ?_)
  refine e_topi (y := 0) (by rw [hv]; rfl) ?_
  refine e_if_ne (pc := 17) (tgt := 30) d_B_code_17 (by decide) (fun h9 => absurd (rfl) h9) (fun _ => ?_)
  exact e_thr (pc := 20) s_B_code_20 (Nat.le_of_ble_eq_true rfl) (Nat.le_of_ble_eq_true rfl) (Nat.le_of_ble_eq_true rfl) rfl
set_option maxHeartbeats 4000000 in
set_option maxRecDepth 100000 in
theorem sA_codeX0_3 {l : Launch} {G : zGP} {K : Nat} {S T : St} {th : Int32} {fo : Nat → Int64} {c : Nat} (hc : c < 3) {a b : Int32} (hv : vB 0 a b = true) (h1 : S 1 c 0 = 16) : Rn l G m_B_code [.ref 0, .int (nI c), .int (nI 0), .int a, .int b] (hpA K S T th fo) (.inr "java/lang/IllegalStateException", (hpA K S T th fo)) := by
  refine Rn.of (by decide) rfl rfl (Nat.le_of_ble_eq_true rfl) rfl ?_
  show Ev l G m_B_code 0 [.ref 0, .int (nI c), .int (nI 0), .int a, .int b, .double 0] [] (hpA K S T th fo) 0 0 _
  refine e_aload_n (pc := 0) d_B_code_0 rfl ?_
  refine e_iload_n (pc := 1) d_B_code_1 rfl ?_
  refine e_cV1 (pc := 2) s_B_code_2 (sA_coreAt hc) rfl rfl rfl (Nat.le_of_ble_eq_true rfl) (Nat.le_of_ble_eq_true rfl) (Nat.le_of_ble_eq_true rfl) (zGo.v ?_)
  refine e_get (pc := 5) s_B_code_5 (rC hc) rfl ?_
  refine e_astore (pc := 8) d_B_code_8 (Nat.le_of_ble_eq_true rfl) ?_
  dsimp only [List.set]
  refine e_iload_n (pc := 10) d_B_code_10 rfl ?_
  refine e_iload_n (pc := 11) d_B_code_11 rfl ?_
  refine e_iload (pc := 12) d_B_code_12 rfl ?_
  refine e_cS3 (pc := 14) s_B_code_14 (sA_isIns0) (Nat.le_of_ble_eq_true rfl) (Nat.le_of_ble_eq_true rfl) (Nat.le_of_ble_eq_true rfl) (zGo.v ?_)
  refine e_topi (y := 1) (by rw [hv]; rfl) ?_
  refine e_if_ne (pc := 17) (tgt := 30) d_B_code_17 (by decide) (fun _ => ?_) (fun h9 => absurd h9 (by decide))
  refine e_aload (pc := 30) d_B_code_30 rfl ?_
  refine e_get (pc := 32) s_B_code_32 (rPr hc) rfl ?_
  refine e_bipush (pc := 35) (v := 16) d_B_code_35 (by decide) ?_
  refine e_icmp_ne (pc := 37) (tgt := 50) d_B_code_37 (by decide) (fun h9 => absurd (h1) h9) (fun _ => ?_)
  exact e_thr (pc := 40) s_B_code_40 (Nat.le_of_ble_eq_true rfl) (Nat.le_of_ble_eq_true rfl) (Nat.le_of_ble_eq_true rfl) rfl
set_option maxHeartbeats 4000000 in
set_option maxRecDepth 100000 in
theorem sA_code0 {l : Launch} {G : zGP} {K : Nat} {S T : St} {th : Int32} {fo : Nat → Int64} {c : Nat} (hc : c < 3) {q : Nat} {a b : Int32} (hq : q < 16) (hv : vB 0 a b = true) (h1 : S 1 c 0 = nI q) : Rn l G m_B_code [.ref 0, .int (nI c), .int (nI 0), .int a, .int b] (hpA K S T th fo) (.inl (some (.int (nI q + 1))), (hpA K (su (su (su (su S 2 c q (nI 0)) 3 c q a) 4 c q b) 1 c 0 (nI q + 1)) T th fo)) := by
  refine Rn.of (by decide) rfl rfl (Nat.le_of_ble_eq_true rfl) rfl ?_
  show Ev l G m_B_code 0 [.ref 0, .int (nI c), .int (nI 0), .int a, .int b, .double 0] [] (hpA K S T th fo) 0 0 _
  refine e_aload_n (pc := 0) d_B_code_0 rfl ?_
  refine e_iload_n (pc := 1) d_B_code_1 rfl ?_
  refine e_cV1 (pc := 2) s_B_code_2 (sA_coreAt hc) rfl rfl rfl (Nat.le_of_ble_eq_true rfl) (Nat.le_of_ble_eq_true rfl) (Nat.le_of_ble_eq_true rfl) (zGo.v ?_)
  refine e_get (pc := 5) s_B_code_5 (rC hc) rfl ?_
  refine e_astore (pc := 8) d_B_code_8 (Nat.le_of_ble_eq_true rfl) ?_
  dsimp only [List.set]
  refine e_iload_n (pc := 10) d_B_code_10 rfl ?_
  refine e_iload_n (pc := 11) d_B_code_11 rfl ?_
  refine e_iload (pc := 12) d_B_code_12 rfl ?_
  refine e_cS3 (pc := 14) s_B_code_14 (sA_isIns0) (Nat.le_of_ble_eq_true rfl) (Nat.le_of_ble_eq_true rfl) (Nat.le_of_ble_eq_true rfl) (zGo.v ?_)
  refine e_topi (y := 1) (by rw [hv]; rfl) ?_
  refine e_if_ne (pc := 17) (tgt := 30) d_B_code_17 (by decide) (fun _ => ?_) (fun h9 => absurd h9 (by decide))
  refine e_aload (pc := 30) d_B_code_30 rfl ?_
  refine e_get (pc := 32) s_B_code_32 (rPr hc) rfl ?_
  refine e_bipush (pc := 35) (v := 16) d_B_code_35 (by decide) ?_
  refine e_icmp_ne (pc := 37) (tgt := 50) d_B_code_37 (by decide) (fun _ => ?_) (fun h9 => absurd h9 (by rw [h1]; exact fun q9 => absurd ((nI_eq (b := 16) (by omega) (by decide)).mp q9) (by omega)))
  refine e_aload (pc := 50) d_B_code_50 rfl ?_
  refine e_iload_n (pc := 52) d_B_code_52 rfl ?_
  refine e_iload_n (pc := 53) d_B_code_53 rfl ?_
  refine e_iload (pc := 54) d_B_code_54 rfl ?_
  refine e_cV3 (pc := 56) s_B_code_56 (sA_append hc hq h1) (rPr hc) rfl rfl (Nat.le_of_ble_eq_true rfl) (Nat.le_of_ble_eq_true rfl) (Nat.le_of_ble_eq_true rfl) (zGo.n ?_)
  refine e_aload (pc := 59) d_B_code_59 rfl ?_
  refine e_get (pc := 61) s_B_code_61 (rPr hc) rfl ?_
  refine e_topi (y := nI q + 1) (su_at _ _ _ _ _) ?_
  exact e_iret (pc := 64) d_B_code_64 rfl rfl (Nat.le_of_ble_eq_true rfl) (Nat.le_of_ble_eq_true rfl) rfl
set_option maxHeartbeats 4000000 in
set_option maxRecDepth 100000 in
theorem sA_codeX1_2 {l : Launch} {G : zGP} {K : Nat} {S T : St} {th : Int32} {fo : Nat → Int64} {c : Nat} (hc : c < 3) {a b : Int32} (hv : vB 1 a b = false) : Rn l G m_B_code [.ref 0, .int (nI c), .int (nI 1), .int a, .int b] (hpA K S T th fo) (.inr "java/lang/IllegalArgumentException", (hpA K S T th fo)) := by
  refine Rn.of (by decide) rfl rfl (Nat.le_of_ble_eq_true rfl) rfl ?_
  show Ev l G m_B_code 0 [.ref 0, .int (nI c), .int (nI 1), .int a, .int b, .double 0] [] (hpA K S T th fo) 0 0 _
  refine e_aload_n (pc := 0) d_B_code_0 rfl ?_
  refine e_iload_n (pc := 1) d_B_code_1 rfl ?_
  refine e_cV1 (pc := 2) s_B_code_2 (sA_coreAt hc) rfl rfl rfl (Nat.le_of_ble_eq_true rfl) (Nat.le_of_ble_eq_true rfl) (Nat.le_of_ble_eq_true rfl) (zGo.v ?_)
  refine e_get (pc := 5) s_B_code_5 (rC hc) rfl ?_
  refine e_astore (pc := 8) d_B_code_8 (Nat.le_of_ble_eq_true rfl) ?_
  dsimp only [List.set]
  refine e_iload_n (pc := 10) d_B_code_10 rfl ?_
  refine e_iload_n (pc := 11) d_B_code_11 rfl ?_
  refine e_iload (pc := 12) d_B_code_12 rfl ?_
  refine e_cS3 (pc := 14) s_B_code_14 (sA_isIns1) (Nat.le_of_ble_eq_true rfl) (Nat.le_of_ble_eq_true rfl) (Nat.le_of_ble_eq_true rfl) (zGo.v ?_)
  refine e_topi (y := 0) (by rw [hv]; rfl) ?_
  refine e_if_ne (pc := 17) (tgt := 30) d_B_code_17 (by decide) (fun h9 => absurd (rfl) h9) (fun _ => ?_)
  exact e_thr (pc := 20) s_B_code_20 (Nat.le_of_ble_eq_true rfl) (Nat.le_of_ble_eq_true rfl) (Nat.le_of_ble_eq_true rfl) rfl
set_option maxHeartbeats 4000000 in
set_option maxRecDepth 100000 in
theorem sA_codeX1_3 {l : Launch} {G : zGP} {K : Nat} {S T : St} {th : Int32} {fo : Nat → Int64} {c : Nat} (hc : c < 3) {a b : Int32} (hv : vB 1 a b = true) (h1 : S 1 c 0 = 16) : Rn l G m_B_code [.ref 0, .int (nI c), .int (nI 1), .int a, .int b] (hpA K S T th fo) (.inr "java/lang/IllegalStateException", (hpA K S T th fo)) := by
  refine Rn.of (by decide) rfl rfl (Nat.le_of_ble_eq_true rfl) rfl ?_
  show Ev l G m_B_code 0 [.ref 0, .int (nI c), .int (nI 1), .int a, .int b, .double 0] [] (hpA K S T th fo) 0 0 _
  refine e_aload_n (pc := 0) d_B_code_0 rfl ?_
  refine e_iload_n (pc := 1) d_B_code_1 rfl ?_
  refine e_cV1 (pc := 2) s_B_code_2 (sA_coreAt hc) rfl rfl rfl (Nat.le_of_ble_eq_true rfl) (Nat.le_of_ble_eq_true rfl) (Nat.le_of_ble_eq_true rfl) (zGo.v ?_)
  refine e_get (pc := 5) s_B_code_5 (rC hc) rfl ?_
  refine e_astore (pc := 8) d_B_code_8 (Nat.le_of_ble_eq_true rfl) ?_
  dsimp only [List.set]
  refine e_iload_n (pc := 10) d_B_code_10 rfl ?_
  refine e_iload_n (pc := 11) d_B_code_11 rfl ?_
  refine e_iload (pc := 12) d_B_code_12 rfl ?_
  refine e_cS3 (pc := 14) s_B_code_14 (sA_isIns1) (Nat.le_of_ble_eq_true rfl) (Nat.le_of_ble_eq_true rfl) (Nat.le_of_ble_eq_true rfl) (zGo.v ?_)
  refine e_topi (y := 1) (by rw [hv]; rfl) ?_
  refine e_if_ne (pc := 17) (tgt := 30) d_B_code_17 (by decide) (fun _ => ?_) (fun h9 => absurd h9 (by decide))
  refine e_aload (pc := 30) d_B_code_30 rfl ?_
  refine e_get (pc := 32) s_B_code_32 (rPr hc) rfl ?_
  refine e_bipush (pc := 35) (v := 16) d_B_code_35 (by decide) ?_
  refine e_icmp_ne (pc := 37) (tgt := 50) d_B_code_37 (by decide) (fun h9 => absurd (h1) h9) (fun _ => ?_)
  exact e_thr (pc := 40) s_B_code_40 (Nat.le_of_ble_eq_true rfl) (Nat.le_of_ble_eq_true rfl) (Nat.le_of_ble_eq_true rfl) rfl
set_option maxHeartbeats 4000000 in
set_option maxRecDepth 100000 in
theorem sA_code1 {l : Launch} {G : zGP} {K : Nat} {S T : St} {th : Int32} {fo : Nat → Int64} {c : Nat} (hc : c < 3) {q : Nat} {a b : Int32} (hq : q < 16) (hv : vB 1 a b = true) (h1 : S 1 c 0 = nI q) : Rn l G m_B_code [.ref 0, .int (nI c), .int (nI 1), .int a, .int b] (hpA K S T th fo) (.inl (some (.int (nI q + 1))), (hpA K (su (su (su (su S 2 c q (nI 1)) 3 c q a) 4 c q b) 1 c 0 (nI q + 1)) T th fo)) := by
  refine Rn.of (by decide) rfl rfl (Nat.le_of_ble_eq_true rfl) rfl ?_
  show Ev l G m_B_code 0 [.ref 0, .int (nI c), .int (nI 1), .int a, .int b, .double 0] [] (hpA K S T th fo) 0 0 _
  refine e_aload_n (pc := 0) d_B_code_0 rfl ?_
  refine e_iload_n (pc := 1) d_B_code_1 rfl ?_
  refine e_cV1 (pc := 2) s_B_code_2 (sA_coreAt hc) rfl rfl rfl (Nat.le_of_ble_eq_true rfl) (Nat.le_of_ble_eq_true rfl) (Nat.le_of_ble_eq_true rfl) (zGo.v ?_)
  refine e_get (pc := 5) s_B_code_5 (rC hc) rfl ?_
  refine e_astore (pc := 8) d_B_code_8 (Nat.le_of_ble_eq_true rfl) ?_
  dsimp only [List.set]
  refine e_iload_n (pc := 10) d_B_code_10 rfl ?_
  refine e_iload_n (pc := 11) d_B_code_11 rfl ?_
  refine e_iload (pc := 12) d_B_code_12 rfl ?_
  refine e_cS3 (pc := 14) s_B_code_14 (sA_isIns1) (Nat.le_of_ble_eq_true rfl) (Nat.le_of_ble_eq_true rfl) (Nat.le_of_ble_eq_true rfl) (zGo.v ?_)
  refine e_topi (y := 1) (by rw [hv]; rfl) ?_
  refine e_if_ne (pc := 17) (tgt := 30) d_B_code_17 (by decide) (fun _ => ?_) (fun h9 => absurd h9 (by decide))
  refine e_aload (pc := 30) d_B_code_30 rfl ?_
  refine e_get (pc := 32) s_B_code_32 (rPr hc) rfl ?_
  refine e_bipush (pc := 35) (v := 16) d_B_code_35 (by decide) ?_
  refine e_icmp_ne (pc := 37) (tgt := 50) d_B_code_37 (by decide) (fun _ => ?_) (fun h9 => absurd h9 (by rw [h1]; exact fun q9 => absurd ((nI_eq (b := 16) (by omega) (by decide)).mp q9) (by omega)))
  refine e_aload (pc := 50) d_B_code_50 rfl ?_
  refine e_iload_n (pc := 52) d_B_code_52 rfl ?_
  refine e_iload_n (pc := 53) d_B_code_53 rfl ?_
  refine e_iload (pc := 54) d_B_code_54 rfl ?_
  refine e_cV3 (pc := 56) s_B_code_56 (sA_append hc hq h1) (rPr hc) rfl rfl (Nat.le_of_ble_eq_true rfl) (Nat.le_of_ble_eq_true rfl) (Nat.le_of_ble_eq_true rfl) (zGo.n ?_)
  refine e_aload (pc := 59) d_B_code_59 rfl ?_
  refine e_get (pc := 61) s_B_code_61 (rPr hc) rfl ?_
  refine e_topi (y := nI q + 1) (su_at _ _ _ _ _) ?_
  exact e_iret (pc := 64) d_B_code_64 rfl rfl (Nat.le_of_ble_eq_true rfl) (Nat.le_of_ble_eq_true rfl) rfl
set_option maxHeartbeats 4000000 in
set_option maxRecDepth 100000 in
theorem sA_codeX2_2 {l : Launch} {G : zGP} {K : Nat} {S T : St} {th : Int32} {fo : Nat → Int64} {c : Nat} (hc : c < 3) {a b : Int32} (hv : vB 2 a b = false) : Rn l G m_B_code [.ref 0, .int (nI c), .int (nI 2), .int a, .int b] (hpA K S T th fo) (.inr "java/lang/IllegalArgumentException", (hpA K S T th fo)) := by
  refine Rn.of (by decide) rfl rfl (Nat.le_of_ble_eq_true rfl) rfl ?_
  show Ev l G m_B_code 0 [.ref 0, .int (nI c), .int (nI 2), .int a, .int b, .double 0] [] (hpA K S T th fo) 0 0 _
  refine e_aload_n (pc := 0) d_B_code_0 rfl ?_
  refine e_iload_n (pc := 1) d_B_code_1 rfl ?_
  refine e_cV1 (pc := 2) s_B_code_2 (sA_coreAt hc) rfl rfl rfl (Nat.le_of_ble_eq_true rfl) (Nat.le_of_ble_eq_true rfl) (Nat.le_of_ble_eq_true rfl) (zGo.v ?_)
  refine e_get (pc := 5) s_B_code_5 (rC hc) rfl ?_
  refine e_astore (pc := 8) d_B_code_8 (Nat.le_of_ble_eq_true rfl) ?_
  dsimp only [List.set]
  refine e_iload_n (pc := 10) d_B_code_10 rfl ?_
  refine e_iload_n (pc := 11) d_B_code_11 rfl ?_
  refine e_iload (pc := 12) d_B_code_12 rfl ?_
  refine e_cS3 (pc := 14) s_B_code_14 (sA_isIns2) (Nat.le_of_ble_eq_true rfl) (Nat.le_of_ble_eq_true rfl) (Nat.le_of_ble_eq_true rfl) (zGo.v ?_)
  refine e_topi (y := 0) (by rw [hv]; rfl) ?_
  refine e_if_ne (pc := 17) (tgt := 30) d_B_code_17 (by decide) (fun h9 => absurd (rfl) h9) (fun _ => ?_)
  exact e_thr (pc := 20) s_B_code_20 (Nat.le_of_ble_eq_true rfl) (Nat.le_of_ble_eq_true rfl) (Nat.le_of_ble_eq_true rfl) rfl
set_option maxHeartbeats 4000000 in
set_option maxRecDepth 100000 in
theorem sA_codeX2_3 {l : Launch} {G : zGP} {K : Nat} {S T : St} {th : Int32} {fo : Nat → Int64} {c : Nat} (hc : c < 3) {a b : Int32} (hv : vB 2 a b = true) (h1 : S 1 c 0 = 16) : Rn l G m_B_code [.ref 0, .int (nI c), .int (nI 2), .int a, .int b] (hpA K S T th fo) (.inr "java/lang/IllegalStateException", (hpA K S T th fo)) := by
  refine Rn.of (by decide) rfl rfl (Nat.le_of_ble_eq_true rfl) rfl ?_
  show Ev l G m_B_code 0 [.ref 0, .int (nI c), .int (nI 2), .int a, .int b, .double 0] [] (hpA K S T th fo) 0 0 _
  refine e_aload_n (pc := 0) d_B_code_0 rfl ?_
  refine e_iload_n (pc := 1) d_B_code_1 rfl ?_
  refine e_cV1 (pc := 2) s_B_code_2 (sA_coreAt hc) rfl rfl rfl (Nat.le_of_ble_eq_true rfl) (Nat.le_of_ble_eq_true rfl) (Nat.le_of_ble_eq_true rfl) (zGo.v ?_)
  refine e_get (pc := 5) s_B_code_5 (rC hc) rfl ?_
  refine e_astore (pc := 8) d_B_code_8 (Nat.le_of_ble_eq_true rfl) ?_
  dsimp only [List.set]
  refine e_iload_n (pc := 10) d_B_code_10 rfl ?_
  refine e_iload_n (pc := 11) d_B_code_11 rfl ?_
  refine e_iload (pc := 12) d_B_code_12 rfl ?_
  refine e_cS3 (pc := 14) s_B_code_14 (sA_isIns2) (Nat.le_of_ble_eq_true rfl) (Nat.le_of_ble_eq_true rfl) (Nat.le_of_ble_eq_true rfl) (zGo.v ?_)
  refine e_topi (y := 1) (by rw [hv]; rfl) ?_
  refine e_if_ne (pc := 17) (tgt := 30) d_B_code_17 (by decide) (fun _ => ?_) (fun h9 => absurd h9 (by decide))
  refine e_aload (pc := 30) d_B_code_30 rfl ?_
  refine e_get (pc := 32) s_B_code_32 (rPr hc) rfl ?_
  refine e_bipush (pc := 35) (v := 16) d_B_code_35 (by decide) ?_
  refine e_icmp_ne (pc := 37) (tgt := 50) d_B_code_37 (by decide) (fun h9 => absurd (h1) h9) (fun _ => ?_)
  exact e_thr (pc := 40) s_B_code_40 (Nat.le_of_ble_eq_true rfl) (Nat.le_of_ble_eq_true rfl) (Nat.le_of_ble_eq_true rfl) rfl
set_option maxHeartbeats 4000000 in
set_option maxRecDepth 100000 in
theorem sA_code2 {l : Launch} {G : zGP} {K : Nat} {S T : St} {th : Int32} {fo : Nat → Int64} {c : Nat} (hc : c < 3) {q : Nat} {a b : Int32} (hq : q < 16) (hv : vB 2 a b = true) (h1 : S 1 c 0 = nI q) : Rn l G m_B_code [.ref 0, .int (nI c), .int (nI 2), .int a, .int b] (hpA K S T th fo) (.inl (some (.int (nI q + 1))), (hpA K (su (su (su (su S 2 c q (nI 2)) 3 c q a) 4 c q b) 1 c 0 (nI q + 1)) T th fo)) := by
  refine Rn.of (by decide) rfl rfl (Nat.le_of_ble_eq_true rfl) rfl ?_
  show Ev l G m_B_code 0 [.ref 0, .int (nI c), .int (nI 2), .int a, .int b, .double 0] [] (hpA K S T th fo) 0 0 _
  refine e_aload_n (pc := 0) d_B_code_0 rfl ?_
  refine e_iload_n (pc := 1) d_B_code_1 rfl ?_
  refine e_cV1 (pc := 2) s_B_code_2 (sA_coreAt hc) rfl rfl rfl (Nat.le_of_ble_eq_true rfl) (Nat.le_of_ble_eq_true rfl) (Nat.le_of_ble_eq_true rfl) (zGo.v ?_)
  refine e_get (pc := 5) s_B_code_5 (rC hc) rfl ?_
  refine e_astore (pc := 8) d_B_code_8 (Nat.le_of_ble_eq_true rfl) ?_
  dsimp only [List.set]
  refine e_iload_n (pc := 10) d_B_code_10 rfl ?_
  refine e_iload_n (pc := 11) d_B_code_11 rfl ?_
  refine e_iload (pc := 12) d_B_code_12 rfl ?_
  refine e_cS3 (pc := 14) s_B_code_14 (sA_isIns2) (Nat.le_of_ble_eq_true rfl) (Nat.le_of_ble_eq_true rfl) (Nat.le_of_ble_eq_true rfl) (zGo.v ?_)
  refine e_topi (y := 1) (by rw [hv]; rfl) ?_
  refine e_if_ne (pc := 17) (tgt := 30) d_B_code_17 (by decide) (fun _ => ?_) (fun h9 => absurd h9 (by decide))
  refine e_aload (pc := 30) d_B_code_30 rfl ?_
  refine e_get (pc := 32) s_B_code_32 (rPr hc) rfl ?_
  refine e_bipush (pc := 35) (v := 16) d_B_code_35 (by decide) ?_
  refine e_icmp_ne (pc := 37) (tgt := 50) d_B_code_37 (by decide) (fun _ => ?_) (fun h9 => absurd h9 (by rw [h1]; exact fun q9 => absurd ((nI_eq (b := 16) (by omega) (by decide)).mp q9) (by omega)))
  refine e_aload (pc := 50) d_B_code_50 rfl ?_
  refine e_iload_n (pc := 52) d_B_code_52 rfl ?_
  refine e_iload_n (pc := 53) d_B_code_53 rfl ?_
  refine e_iload (pc := 54) d_B_code_54 rfl ?_
  refine e_cV3 (pc := 56) s_B_code_56 (sA_append hc hq h1) (rPr hc) rfl rfl (Nat.le_of_ble_eq_true rfl) (Nat.le_of_ble_eq_true rfl) (Nat.le_of_ble_eq_true rfl) (zGo.n ?_)
  refine e_aload (pc := 59) d_B_code_59 rfl ?_
  refine e_get (pc := 61) s_B_code_61 (rPr hc) rfl ?_
  refine e_topi (y := nI q + 1) (su_at _ _ _ _ _) ?_
  exact e_iret (pc := 64) d_B_code_64 rfl rfl (Nat.le_of_ble_eq_true rfl) (Nat.le_of_ble_eq_true rfl) rfl
set_option maxHeartbeats 4000000 in
set_option maxRecDepth 100000 in
theorem sA_codeX3_2 {l : Launch} {G : zGP} {K : Nat} {S T : St} {th : Int32} {fo : Nat → Int64} {c : Nat} (hc : c < 3) {a b : Int32} (hv : vB 3 a b = false) : Rn l G m_B_code [.ref 0, .int (nI c), .int (nI 3), .int a, .int b] (hpA K S T th fo) (.inr "java/lang/IllegalArgumentException", (hpA K S T th fo)) := by
  refine Rn.of (by decide) rfl rfl (Nat.le_of_ble_eq_true rfl) rfl ?_
  show Ev l G m_B_code 0 [.ref 0, .int (nI c), .int (nI 3), .int a, .int b, .double 0] [] (hpA K S T th fo) 0 0 _
  refine e_aload_n (pc := 0) d_B_code_0 rfl ?_
  refine e_iload_n (pc := 1) d_B_code_1 rfl ?_
  refine e_cV1 (pc := 2) s_B_code_2 (sA_coreAt hc) rfl rfl rfl (Nat.le_of_ble_eq_true rfl) (Nat.le_of_ble_eq_true rfl) (Nat.le_of_ble_eq_true rfl) (zGo.v ?_)
  refine e_get (pc := 5) s_B_code_5 (rC hc) rfl ?_
  refine e_astore (pc := 8) d_B_code_8 (Nat.le_of_ble_eq_true rfl) ?_
  dsimp only [List.set]
  refine e_iload_n (pc := 10) d_B_code_10 rfl ?_
  refine e_iload_n (pc := 11) d_B_code_11 rfl ?_
  refine e_iload (pc := 12) d_B_code_12 rfl ?_
  refine e_cS3 (pc := 14) s_B_code_14 (sA_isIns3) (Nat.le_of_ble_eq_true rfl) (Nat.le_of_ble_eq_true rfl) (Nat.le_of_ble_eq_true rfl) (zGo.v ?_)
  refine e_topi (y := 0) (by rw [hv]; rfl) ?_
  refine e_if_ne (pc := 17) (tgt := 30) d_B_code_17 (by decide) (fun h9 => absurd (rfl) h9) (fun _ => ?_)
  exact e_thr (pc := 20) s_B_code_20 (Nat.le_of_ble_eq_true rfl) (Nat.le_of_ble_eq_true rfl) (Nat.le_of_ble_eq_true rfl) rfl
set_option maxHeartbeats 4000000 in
set_option maxRecDepth 100000 in
theorem sA_codeX3_3 {l : Launch} {G : zGP} {K : Nat} {S T : St} {th : Int32} {fo : Nat → Int64} {c : Nat} (hc : c < 3) {a b : Int32} (hv : vB 3 a b = true) (h1 : S 1 c 0 = 16) : Rn l G m_B_code [.ref 0, .int (nI c), .int (nI 3), .int a, .int b] (hpA K S T th fo) (.inr "java/lang/IllegalStateException", (hpA K S T th fo)) := by
  refine Rn.of (by decide) rfl rfl (Nat.le_of_ble_eq_true rfl) rfl ?_
  show Ev l G m_B_code 0 [.ref 0, .int (nI c), .int (nI 3), .int a, .int b, .double 0] [] (hpA K S T th fo) 0 0 _
  refine e_aload_n (pc := 0) d_B_code_0 rfl ?_
  refine e_iload_n (pc := 1) d_B_code_1 rfl ?_
  refine e_cV1 (pc := 2) s_B_code_2 (sA_coreAt hc) rfl rfl rfl (Nat.le_of_ble_eq_true rfl) (Nat.le_of_ble_eq_true rfl) (Nat.le_of_ble_eq_true rfl) (zGo.v ?_)
  refine e_get (pc := 5) s_B_code_5 (rC hc) rfl ?_
  refine e_astore (pc := 8) d_B_code_8 (Nat.le_of_ble_eq_true rfl) ?_
  dsimp only [List.set]
  refine e_iload_n (pc := 10) d_B_code_10 rfl ?_
  refine e_iload_n (pc := 11) d_B_code_11 rfl ?_
  refine e_iload (pc := 12) d_B_code_12 rfl ?_
  refine e_cS3 (pc := 14) s_B_code_14 (sA_isIns3) (Nat.le_of_ble_eq_true rfl) (Nat.le_of_ble_eq_true rfl) (Nat.le_of_ble_eq_true rfl) (zGo.v ?_)
  refine e_topi (y := 1) (by rw [hv]; rfl) ?_
  refine e_if_ne (pc := 17) (tgt := 30) d_B_code_17 (by decide) (fun _ => ?_) (fun h9 => absurd h9 (by decide))
  refine e_aload (pc := 30) d_B_code_30 rfl ?_
  refine e_get (pc := 32) s_B_code_32 (rPr hc) rfl ?_
  refine e_bipush (pc := 35) (v := 16) d_B_code_35 (by decide) ?_
  refine e_icmp_ne (pc := 37) (tgt := 50) d_B_code_37 (by decide) (fun h9 => absurd (h1) h9) (fun _ => ?_)
  exact e_thr (pc := 40) s_B_code_40 (Nat.le_of_ble_eq_true rfl) (Nat.le_of_ble_eq_true rfl) (Nat.le_of_ble_eq_true rfl) rfl
set_option maxHeartbeats 4000000 in
set_option maxRecDepth 100000 in
theorem sA_code3 {l : Launch} {G : zGP} {K : Nat} {S T : St} {th : Int32} {fo : Nat → Int64} {c : Nat} (hc : c < 3) {q : Nat} {a b : Int32} (hq : q < 16) (hv : vB 3 a b = true) (h1 : S 1 c 0 = nI q) : Rn l G m_B_code [.ref 0, .int (nI c), .int (nI 3), .int a, .int b] (hpA K S T th fo) (.inl (some (.int (nI q + 1))), (hpA K (su (su (su (su S 2 c q (nI 3)) 3 c q a) 4 c q b) 1 c 0 (nI q + 1)) T th fo)) := by
  refine Rn.of (by decide) rfl rfl (Nat.le_of_ble_eq_true rfl) rfl ?_
  show Ev l G m_B_code 0 [.ref 0, .int (nI c), .int (nI 3), .int a, .int b, .double 0] [] (hpA K S T th fo) 0 0 _
  refine e_aload_n (pc := 0) d_B_code_0 rfl ?_
  refine e_iload_n (pc := 1) d_B_code_1 rfl ?_
  refine e_cV1 (pc := 2) s_B_code_2 (sA_coreAt hc) rfl rfl rfl (Nat.le_of_ble_eq_true rfl) (Nat.le_of_ble_eq_true rfl) (Nat.le_of_ble_eq_true rfl) (zGo.v ?_)
  refine e_get (pc := 5) s_B_code_5 (rC hc) rfl ?_
  refine e_astore (pc := 8) d_B_code_8 (Nat.le_of_ble_eq_true rfl) ?_
  dsimp only [List.set]
  refine e_iload_n (pc := 10) d_B_code_10 rfl ?_
  refine e_iload_n (pc := 11) d_B_code_11 rfl ?_
  refine e_iload (pc := 12) d_B_code_12 rfl ?_
  refine e_cS3 (pc := 14) s_B_code_14 (sA_isIns3) (Nat.le_of_ble_eq_true rfl) (Nat.le_of_ble_eq_true rfl) (Nat.le_of_ble_eq_true rfl) (zGo.v ?_)
  refine e_topi (y := 1) (by rw [hv]; rfl) ?_
  refine e_if_ne (pc := 17) (tgt := 30) d_B_code_17 (by decide) (fun _ => ?_) (fun h9 => absurd h9 (by decide))
  refine e_aload (pc := 30) d_B_code_30 rfl ?_
  refine e_get (pc := 32) s_B_code_32 (rPr hc) rfl ?_
  refine e_bipush (pc := 35) (v := 16) d_B_code_35 (by decide) ?_
  refine e_icmp_ne (pc := 37) (tgt := 50) d_B_code_37 (by decide) (fun _ => ?_) (fun h9 => absurd h9 (by rw [h1]; exact fun q9 => absurd ((nI_eq (b := 16) (by omega) (by decide)).mp q9) (by omega)))
  refine e_aload (pc := 50) d_B_code_50 rfl ?_
  refine e_iload_n (pc := 52) d_B_code_52 rfl ?_
  refine e_iload_n (pc := 53) d_B_code_53 rfl ?_
  refine e_iload (pc := 54) d_B_code_54 rfl ?_
  refine e_cV3 (pc := 56) s_B_code_56 (sA_append hc hq h1) (rPr hc) rfl rfl (Nat.le_of_ble_eq_true rfl) (Nat.le_of_ble_eq_true rfl) (Nat.le_of_ble_eq_true rfl) (zGo.n ?_)
  refine e_aload (pc := 59) d_B_code_59 rfl ?_
  refine e_get (pc := 61) s_B_code_61 (rPr hc) rfl ?_
  refine e_topi (y := nI q + 1) (su_at _ _ _ _ _) ?_
  exact e_iret (pc := 64) d_B_code_64 rfl rfl (Nat.le_of_ble_eq_true rfl) (Nat.le_of_ble_eq_true rfl) rfl
set_option maxHeartbeats 4000000 in
set_option maxRecDepth 100000 in
theorem sA_codeX4_2 {l : Launch} {G : zGP} {K : Nat} {S T : St} {th : Int32} {fo : Nat → Int64} {c : Nat} (hc : c < 3) {a b : Int32} (hv : vB 4 a b = false) : Rn l G m_B_code [.ref 0, .int (nI c), .int (nI 4), .int a, .int b] (hpA K S T th fo) (.inr "java/lang/IllegalArgumentException", (hpA K S T th fo)) := by
  refine Rn.of (by decide) rfl rfl (Nat.le_of_ble_eq_true rfl) rfl ?_
  show Ev l G m_B_code 0 [.ref 0, .int (nI c), .int (nI 4), .int a, .int b, .double 0] [] (hpA K S T th fo) 0 0 _
  refine e_aload_n (pc := 0) d_B_code_0 rfl ?_
  refine e_iload_n (pc := 1) d_B_code_1 rfl ?_
  refine e_cV1 (pc := 2) s_B_code_2 (sA_coreAt hc) rfl rfl rfl (Nat.le_of_ble_eq_true rfl) (Nat.le_of_ble_eq_true rfl) (Nat.le_of_ble_eq_true rfl) (zGo.v ?_)
  refine e_get (pc := 5) s_B_code_5 (rC hc) rfl ?_
  refine e_astore (pc := 8) d_B_code_8 (Nat.le_of_ble_eq_true rfl) ?_
  dsimp only [List.set]
  refine e_iload_n (pc := 10) d_B_code_10 rfl ?_
  refine e_iload_n (pc := 11) d_B_code_11 rfl ?_
  refine e_iload (pc := 12) d_B_code_12 rfl ?_
  refine e_cS3 (pc := 14) s_B_code_14 (sA_isIns4) (Nat.le_of_ble_eq_true rfl) (Nat.le_of_ble_eq_true rfl) (Nat.le_of_ble_eq_true rfl) (zGo.v ?_)
  refine e_topi (y := 0) (by rw [hv]; rfl) ?_
  refine e_if_ne (pc := 17) (tgt := 30) d_B_code_17 (by decide) (fun h9 => absurd (rfl) h9) (fun _ => ?_)
  exact e_thr (pc := 20) s_B_code_20 (Nat.le_of_ble_eq_true rfl) (Nat.le_of_ble_eq_true rfl) (Nat.le_of_ble_eq_true rfl) rfl
set_option maxHeartbeats 4000000 in
set_option maxRecDepth 100000 in
theorem sA_codeX4_3 {l : Launch} {G : zGP} {K : Nat} {S T : St} {th : Int32} {fo : Nat → Int64} {c : Nat} (hc : c < 3) {a b : Int32} (hv : vB 4 a b = true) (h1 : S 1 c 0 = 16) : Rn l G m_B_code [.ref 0, .int (nI c), .int (nI 4), .int a, .int b] (hpA K S T th fo) (.inr "java/lang/IllegalStateException", (hpA K S T th fo)) := by
  refine Rn.of (by decide) rfl rfl (Nat.le_of_ble_eq_true rfl) rfl ?_
  show Ev l G m_B_code 0 [.ref 0, .int (nI c), .int (nI 4), .int a, .int b, .double 0] [] (hpA K S T th fo) 0 0 _
  refine e_aload_n (pc := 0) d_B_code_0 rfl ?_
  refine e_iload_n (pc := 1) d_B_code_1 rfl ?_
  refine e_cV1 (pc := 2) s_B_code_2 (sA_coreAt hc) rfl rfl rfl (Nat.le_of_ble_eq_true rfl) (Nat.le_of_ble_eq_true rfl) (Nat.le_of_ble_eq_true rfl) (zGo.v ?_)
  refine e_get (pc := 5) s_B_code_5 (rC hc) rfl ?_
  refine e_astore (pc := 8) d_B_code_8 (Nat.le_of_ble_eq_true rfl) ?_
  dsimp only [List.set]
  refine e_iload_n (pc := 10) d_B_code_10 rfl ?_
  refine e_iload_n (pc := 11) d_B_code_11 rfl ?_
  refine e_iload (pc := 12) d_B_code_12 rfl ?_
  refine e_cS3 (pc := 14) s_B_code_14 (sA_isIns4) (Nat.le_of_ble_eq_true rfl) (Nat.le_of_ble_eq_true rfl) (Nat.le_of_ble_eq_true rfl) (zGo.v ?_)
  refine e_topi (y := 1) (by rw [hv]; rfl) ?_
  refine e_if_ne (pc := 17) (tgt := 30) d_B_code_17 (by decide) (fun _ => ?_) (fun h9 => absurd h9 (by decide))
  refine e_aload (pc := 30) d_B_code_30 rfl ?_
  refine e_get (pc := 32) s_B_code_32 (rPr hc) rfl ?_
  refine e_bipush (pc := 35) (v := 16) d_B_code_35 (by decide) ?_
  refine e_icmp_ne (pc := 37) (tgt := 50) d_B_code_37 (by decide) (fun h9 => absurd (h1) h9) (fun _ => ?_)
  exact e_thr (pc := 40) s_B_code_40 (Nat.le_of_ble_eq_true rfl) (Nat.le_of_ble_eq_true rfl) (Nat.le_of_ble_eq_true rfl) rfl
set_option maxHeartbeats 4000000 in
set_option maxRecDepth 100000 in
theorem sA_code4 {l : Launch} {G : zGP} {K : Nat} {S T : St} {th : Int32} {fo : Nat → Int64} {c : Nat} (hc : c < 3) {q : Nat} {a b : Int32} (hq : q < 16) (hv : vB 4 a b = true) (h1 : S 1 c 0 = nI q) : Rn l G m_B_code [.ref 0, .int (nI c), .int (nI 4), .int a, .int b] (hpA K S T th fo) (.inl (some (.int (nI q + 1))), (hpA K (su (su (su (su S 2 c q (nI 4)) 3 c q a) 4 c q b) 1 c 0 (nI q + 1)) T th fo)) := by
  refine Rn.of (by decide) rfl rfl (Nat.le_of_ble_eq_true rfl) rfl ?_
  show Ev l G m_B_code 0 [.ref 0, .int (nI c), .int (nI 4), .int a, .int b, .double 0] [] (hpA K S T th fo) 0 0 _
  refine e_aload_n (pc := 0) d_B_code_0 rfl ?_
  refine e_iload_n (pc := 1) d_B_code_1 rfl ?_
  refine e_cV1 (pc := 2) s_B_code_2 (sA_coreAt hc) rfl rfl rfl (Nat.le_of_ble_eq_true rfl) (Nat.le_of_ble_eq_true rfl) (Nat.le_of_ble_eq_true rfl) (zGo.v ?_)
  refine e_get (pc := 5) s_B_code_5 (rC hc) rfl ?_
  refine e_astore (pc := 8) d_B_code_8 (Nat.le_of_ble_eq_true rfl) ?_
  dsimp only [List.set]
  refine e_iload_n (pc := 10) d_B_code_10 rfl ?_
  refine e_iload_n (pc := 11) d_B_code_11 rfl ?_
  refine e_iload (pc := 12) d_B_code_12 rfl ?_
  refine e_cS3 (pc := 14) s_B_code_14 (sA_isIns4) (Nat.le_of_ble_eq_true rfl) (Nat.le_of_ble_eq_true rfl) (Nat.le_of_ble_eq_true rfl) (zGo.v ?_)
  refine e_topi (y := 1) (by rw [hv]; rfl) ?_
  refine e_if_ne (pc := 17) (tgt := 30) d_B_code_17 (by decide) (fun _ => ?_) (fun h9 => absurd h9 (by decide))
  refine e_aload (pc := 30) d_B_code_30 rfl ?_
  refine e_get (pc := 32) s_B_code_32 (rPr hc) rfl ?_
  refine e_bipush (pc := 35) (v := 16) d_B_code_35 (by decide) ?_
  refine e_icmp_ne (pc := 37) (tgt := 50) d_B_code_37 (by decide) (fun _ => ?_) (fun h9 => absurd h9 (by rw [h1]; exact fun q9 => absurd ((nI_eq (b := 16) (by omega) (by decide)).mp q9) (by omega)))
  refine e_aload (pc := 50) d_B_code_50 rfl ?_
  refine e_iload_n (pc := 52) d_B_code_52 rfl ?_
  refine e_iload_n (pc := 53) d_B_code_53 rfl ?_
  refine e_iload (pc := 54) d_B_code_54 rfl ?_
  refine e_cV3 (pc := 56) s_B_code_56 (sA_append hc hq h1) (rPr hc) rfl rfl (Nat.le_of_ble_eq_true rfl) (Nat.le_of_ble_eq_true rfl) (Nat.le_of_ble_eq_true rfl) (zGo.n ?_)
  refine e_aload (pc := 59) d_B_code_59 rfl ?_
  refine e_get (pc := 61) s_B_code_61 (rPr hc) rfl ?_
  refine e_topi (y := nI q + 1) (su_at _ _ _ _ _) ?_
  exact e_iret (pc := 64) d_B_code_64 rfl rfl (Nat.le_of_ble_eq_true rfl) (Nat.le_of_ble_eq_true rfl) rfl
set_option maxHeartbeats 4000000 in
set_option maxRecDepth 100000 in
theorem sA_codeX5_2 {l : Launch} {G : zGP} {K : Nat} {S T : St} {th : Int32} {fo : Nat → Int64} {c : Nat} (hc : c < 3) {a b : Int32} (hv : vB 5 a b = false) : Rn l G m_B_code [.ref 0, .int (nI c), .int (nI 5), .int a, .int b] (hpA K S T th fo) (.inr "java/lang/IllegalArgumentException", (hpA K S T th fo)) := by
  refine Rn.of (by decide) rfl rfl (Nat.le_of_ble_eq_true rfl) rfl ?_
  show Ev l G m_B_code 0 [.ref 0, .int (nI c), .int (nI 5), .int a, .int b, .double 0] [] (hpA K S T th fo) 0 0 _
  refine e_aload_n (pc := 0) d_B_code_0 rfl ?_
  refine e_iload_n (pc := 1) d_B_code_1 rfl ?_
  refine e_cV1 (pc := 2) s_B_code_2 (sA_coreAt hc) rfl rfl rfl (Nat.le_of_ble_eq_true rfl) (Nat.le_of_ble_eq_true rfl) (Nat.le_of_ble_eq_true rfl) (zGo.v ?_)
  refine e_get (pc := 5) s_B_code_5 (rC hc) rfl ?_
  refine e_astore (pc := 8) d_B_code_8 (Nat.le_of_ble_eq_true rfl) ?_
  dsimp only [List.set]
  refine e_iload_n (pc := 10) d_B_code_10 rfl ?_
  refine e_iload_n (pc := 11) d_B_code_11 rfl ?_
  refine e_iload (pc := 12) d_B_code_12 rfl ?_
  refine e_cS3 (pc := 14) s_B_code_14 (sA_isIns5) (Nat.le_of_ble_eq_true rfl) (Nat.le_of_ble_eq_true rfl) (Nat.le_of_ble_eq_true rfl) (zGo.v ?_)
  refine e_topi (y := 0) (by rw [hv]; rfl) ?_
  refine e_if_ne (pc := 17) (tgt := 30) d_B_code_17 (by decide) (fun h9 => absurd (rfl) h9) (fun _ => ?_)
  exact e_thr (pc := 20) s_B_code_20 (Nat.le_of_ble_eq_true rfl) (Nat.le_of_ble_eq_true rfl) (Nat.le_of_ble_eq_true rfl) rfl
set_option maxHeartbeats 4000000 in
set_option maxRecDepth 100000 in
theorem sA_codeX5_3 {l : Launch} {G : zGP} {K : Nat} {S T : St} {th : Int32} {fo : Nat → Int64} {c : Nat} (hc : c < 3) {a b : Int32} (hv : vB 5 a b = true) (h1 : S 1 c 0 = 16) : Rn l G m_B_code [.ref 0, .int (nI c), .int (nI 5), .int a, .int b] (hpA K S T th fo) (.inr "java/lang/IllegalStateException", (hpA K S T th fo)) := by
  refine Rn.of (by decide) rfl rfl (Nat.le_of_ble_eq_true rfl) rfl ?_
  show Ev l G m_B_code 0 [.ref 0, .int (nI c), .int (nI 5), .int a, .int b, .double 0] [] (hpA K S T th fo) 0 0 _
  refine e_aload_n (pc := 0) d_B_code_0 rfl ?_
  refine e_iload_n (pc := 1) d_B_code_1 rfl ?_
  refine e_cV1 (pc := 2) s_B_code_2 (sA_coreAt hc) rfl rfl rfl (Nat.le_of_ble_eq_true rfl) (Nat.le_of_ble_eq_true rfl) (Nat.le_of_ble_eq_true rfl) (zGo.v ?_)
  refine e_get (pc := 5) s_B_code_5 (rC hc) rfl ?_
  refine e_astore (pc := 8) d_B_code_8 (Nat.le_of_ble_eq_true rfl) ?_
  dsimp only [List.set]
  refine e_iload_n (pc := 10) d_B_code_10 rfl ?_
  refine e_iload_n (pc := 11) d_B_code_11 rfl ?_
  refine e_iload (pc := 12) d_B_code_12 rfl ?_
  refine e_cS3 (pc := 14) s_B_code_14 (sA_isIns5) (Nat.le_of_ble_eq_true rfl) (Nat.le_of_ble_eq_true rfl) (Nat.le_of_ble_eq_true rfl) (zGo.v ?_)
  refine e_topi (y := 1) (by rw [hv]; rfl) ?_
  refine e_if_ne (pc := 17) (tgt := 30) d_B_code_17 (by decide) (fun _ => ?_) (fun h9 => absurd h9 (by decide))
  refine e_aload (pc := 30) d_B_code_30 rfl ?_
  refine e_get (pc := 32) s_B_code_32 (rPr hc) rfl ?_
  refine e_bipush (pc := 35) (v := 16) d_B_code_35 (by decide) ?_
  refine e_icmp_ne (pc := 37) (tgt := 50) d_B_code_37 (by decide) (fun h9 => absurd (h1) h9) (fun _ => ?_)
  exact e_thr (pc := 40) s_B_code_40 (Nat.le_of_ble_eq_true rfl) (Nat.le_of_ble_eq_true rfl) (Nat.le_of_ble_eq_true rfl) rfl
set_option maxHeartbeats 4000000 in
set_option maxRecDepth 100000 in
theorem sA_code5 {l : Launch} {G : zGP} {K : Nat} {S T : St} {th : Int32} {fo : Nat → Int64} {c : Nat} (hc : c < 3) {q : Nat} {a b : Int32} (hq : q < 16) (hv : vB 5 a b = true) (h1 : S 1 c 0 = nI q) : Rn l G m_B_code [.ref 0, .int (nI c), .int (nI 5), .int a, .int b] (hpA K S T th fo) (.inl (some (.int (nI q + 1))), (hpA K (su (su (su (su S 2 c q (nI 5)) 3 c q a) 4 c q b) 1 c 0 (nI q + 1)) T th fo)) := by
  refine Rn.of (by decide) rfl rfl (Nat.le_of_ble_eq_true rfl) rfl ?_
  show Ev l G m_B_code 0 [.ref 0, .int (nI c), .int (nI 5), .int a, .int b, .double 0] [] (hpA K S T th fo) 0 0 _
  refine e_aload_n (pc := 0) d_B_code_0 rfl ?_
  refine e_iload_n (pc := 1) d_B_code_1 rfl ?_
  refine e_cV1 (pc := 2) s_B_code_2 (sA_coreAt hc) rfl rfl rfl (Nat.le_of_ble_eq_true rfl) (Nat.le_of_ble_eq_true rfl) (Nat.le_of_ble_eq_true rfl) (zGo.v ?_)
  refine e_get (pc := 5) s_B_code_5 (rC hc) rfl ?_
  refine e_astore (pc := 8) d_B_code_8 (Nat.le_of_ble_eq_true rfl) ?_
  dsimp only [List.set]
  refine e_iload_n (pc := 10) d_B_code_10 rfl ?_
  refine e_iload_n (pc := 11) d_B_code_11 rfl ?_
  refine e_iload (pc := 12) d_B_code_12 rfl ?_
  refine e_cS3 (pc := 14) s_B_code_14 (sA_isIns5) (Nat.le_of_ble_eq_true rfl) (Nat.le_of_ble_eq_true rfl) (Nat.le_of_ble_eq_true rfl) (zGo.v ?_)
  refine e_topi (y := 1) (by rw [hv]; rfl) ?_
  refine e_if_ne (pc := 17) (tgt := 30) d_B_code_17 (by decide) (fun _ => ?_) (fun h9 => absurd h9 (by decide))
  refine e_aload (pc := 30) d_B_code_30 rfl ?_
  refine e_get (pc := 32) s_B_code_32 (rPr hc) rfl ?_
  refine e_bipush (pc := 35) (v := 16) d_B_code_35 (by decide) ?_
  refine e_icmp_ne (pc := 37) (tgt := 50) d_B_code_37 (by decide) (fun _ => ?_) (fun h9 => absurd h9 (by rw [h1]; exact fun q9 => absurd ((nI_eq (b := 16) (by omega) (by decide)).mp q9) (by omega)))
  refine e_aload (pc := 50) d_B_code_50 rfl ?_
  refine e_iload_n (pc := 52) d_B_code_52 rfl ?_
  refine e_iload_n (pc := 53) d_B_code_53 rfl ?_
  refine e_iload (pc := 54) d_B_code_54 rfl ?_
  refine e_cV3 (pc := 56) s_B_code_56 (sA_append hc hq h1) (rPr hc) rfl rfl (Nat.le_of_ble_eq_true rfl) (Nat.le_of_ble_eq_true rfl) (Nat.le_of_ble_eq_true rfl) (zGo.n ?_)
  refine e_aload (pc := 59) d_B_code_59 rfl ?_
  refine e_get (pc := 61) s_B_code_61 (rPr hc) rfl ?_
  refine e_topi (y := nI q + 1) (su_at _ _ _ _ _) ?_
  exact e_iret (pc := 64) d_B_code_64 rfl rfl (Nat.le_of_ble_eq_true rfl) (Nat.le_of_ble_eq_true rfl) rfl
set_option maxHeartbeats 4000000 in
set_option maxRecDepth 100000 in
theorem sA_codeX6_2 {l : Launch} {G : zGP} {K : Nat} {S T : St} {th : Int32} {fo : Nat → Int64} {c : Nat} (hc : c < 3) {a b : Int32} (hv : vB 6 a b = false) : Rn l G m_B_code [.ref 0, .int (nI c), .int (nI 6), .int a, .int b] (hpA K S T th fo) (.inr "java/lang/IllegalArgumentException", (hpA K S T th fo)) := by
  refine Rn.of (by decide) rfl rfl (Nat.le_of_ble_eq_true rfl) rfl ?_
  show Ev l G m_B_code 0 [.ref 0, .int (nI c), .int (nI 6), .int a, .int b, .double 0] [] (hpA K S T th fo) 0 0 _
  refine e_aload_n (pc := 0) d_B_code_0 rfl ?_
  refine e_iload_n (pc := 1) d_B_code_1 rfl ?_
  refine e_cV1 (pc := 2) s_B_code_2 (sA_coreAt hc) rfl rfl rfl (Nat.le_of_ble_eq_true rfl) (Nat.le_of_ble_eq_true rfl) (Nat.le_of_ble_eq_true rfl) (zGo.v ?_)
  refine e_get (pc := 5) s_B_code_5 (rC hc) rfl ?_
  refine e_astore (pc := 8) d_B_code_8 (Nat.le_of_ble_eq_true rfl) ?_
  dsimp only [List.set]
  refine e_iload_n (pc := 10) d_B_code_10 rfl ?_
  refine e_iload_n (pc := 11) d_B_code_11 rfl ?_
  refine e_iload (pc := 12) d_B_code_12 rfl ?_
  refine e_cS3 (pc := 14) s_B_code_14 (sA_isIns6) (Nat.le_of_ble_eq_true rfl) (Nat.le_of_ble_eq_true rfl) (Nat.le_of_ble_eq_true rfl) (zGo.v ?_)
  refine e_topi (y := 0) (by rw [hv]; rfl) ?_
  refine e_if_ne (pc := 17) (tgt := 30) d_B_code_17 (by decide) (fun h9 => absurd (rfl) h9) (fun _ => ?_)
  exact e_thr (pc := 20) s_B_code_20 (Nat.le_of_ble_eq_true rfl) (Nat.le_of_ble_eq_true rfl) (Nat.le_of_ble_eq_true rfl) rfl
set_option maxHeartbeats 4000000 in
set_option maxRecDepth 100000 in
theorem sA_codeX6_3 {l : Launch} {G : zGP} {K : Nat} {S T : St} {th : Int32} {fo : Nat → Int64} {c : Nat} (hc : c < 3) {a b : Int32} (hv : vB 6 a b = true) (h1 : S 1 c 0 = 16) : Rn l G m_B_code [.ref 0, .int (nI c), .int (nI 6), .int a, .int b] (hpA K S T th fo) (.inr "java/lang/IllegalStateException", (hpA K S T th fo)) := by
  refine Rn.of (by decide) rfl rfl (Nat.le_of_ble_eq_true rfl) rfl ?_
  show Ev l G m_B_code 0 [.ref 0, .int (nI c), .int (nI 6), .int a, .int b, .double 0] [] (hpA K S T th fo) 0 0 _
  refine e_aload_n (pc := 0) d_B_code_0 rfl ?_
  refine e_iload_n (pc := 1) d_B_code_1 rfl ?_
  refine e_cV1 (pc := 2) s_B_code_2 (sA_coreAt hc) rfl rfl rfl (Nat.le_of_ble_eq_true rfl) (Nat.le_of_ble_eq_true rfl) (Nat.le_of_ble_eq_true rfl) (zGo.v ?_)
  refine e_get (pc := 5) s_B_code_5 (rC hc) rfl ?_
  refine e_astore (pc := 8) d_B_code_8 (Nat.le_of_ble_eq_true rfl) ?_
  dsimp only [List.set]
  refine e_iload_n (pc := 10) d_B_code_10 rfl ?_
  refine e_iload_n (pc := 11) d_B_code_11 rfl ?_
  refine e_iload (pc := 12) d_B_code_12 rfl ?_
  refine e_cS3 (pc := 14) s_B_code_14 (sA_isIns6) (Nat.le_of_ble_eq_true rfl) (Nat.le_of_ble_eq_true rfl) (Nat.le_of_ble_eq_true rfl) (zGo.v ?_)
  refine e_topi (y := 1) (by rw [hv]; rfl) ?_
  refine e_if_ne (pc := 17) (tgt := 30) d_B_code_17 (by decide) (fun _ => ?_) (fun h9 => absurd h9 (by decide))
  refine e_aload (pc := 30) d_B_code_30 rfl ?_
  refine e_get (pc := 32) s_B_code_32 (rPr hc) rfl ?_
  refine e_bipush (pc := 35) (v := 16) d_B_code_35 (by decide) ?_
  refine e_icmp_ne (pc := 37) (tgt := 50) d_B_code_37 (by decide) (fun h9 => absurd (h1) h9) (fun _ => ?_)
  exact e_thr (pc := 40) s_B_code_40 (Nat.le_of_ble_eq_true rfl) (Nat.le_of_ble_eq_true rfl) (Nat.le_of_ble_eq_true rfl) rfl
set_option maxHeartbeats 4000000 in
set_option maxRecDepth 100000 in
theorem sA_code6 {l : Launch} {G : zGP} {K : Nat} {S T : St} {th : Int32} {fo : Nat → Int64} {c : Nat} (hc : c < 3) {q : Nat} {a b : Int32} (hq : q < 16) (hv : vB 6 a b = true) (h1 : S 1 c 0 = nI q) : Rn l G m_B_code [.ref 0, .int (nI c), .int (nI 6), .int a, .int b] (hpA K S T th fo) (.inl (some (.int (nI q + 1))), (hpA K (su (su (su (su S 2 c q (nI 6)) 3 c q a) 4 c q b) 1 c 0 (nI q + 1)) T th fo)) := by
  refine Rn.of (by decide) rfl rfl (Nat.le_of_ble_eq_true rfl) rfl ?_
  show Ev l G m_B_code 0 [.ref 0, .int (nI c), .int (nI 6), .int a, .int b, .double 0] [] (hpA K S T th fo) 0 0 _
  refine e_aload_n (pc := 0) d_B_code_0 rfl ?_
  refine e_iload_n (pc := 1) d_B_code_1 rfl ?_
  refine e_cV1 (pc := 2) s_B_code_2 (sA_coreAt hc) rfl rfl rfl (Nat.le_of_ble_eq_true rfl) (Nat.le_of_ble_eq_true rfl) (Nat.le_of_ble_eq_true rfl) (zGo.v ?_)
  refine e_get (pc := 5) s_B_code_5 (rC hc) rfl ?_
  refine e_astore (pc := 8) d_B_code_8 (Nat.le_of_ble_eq_true rfl) ?_
  dsimp only [List.set]
  refine e_iload_n (pc := 10) d_B_code_10 rfl ?_
  refine e_iload_n (pc := 11) d_B_code_11 rfl ?_
  refine e_iload (pc := 12) d_B_code_12 rfl ?_
  refine e_cS3 (pc := 14) s_B_code_14 (sA_isIns6) (Nat.le_of_ble_eq_true rfl) (Nat.le_of_ble_eq_true rfl) (Nat.le_of_ble_eq_true rfl) (zGo.v ?_)
  refine e_topi (y := 1) (by rw [hv]; rfl) ?_
  refine e_if_ne (pc := 17) (tgt := 30) d_B_code_17 (by decide) (fun _ => ?_) (fun h9 => absurd h9 (by decide))
  refine e_aload (pc := 30) d_B_code_30 rfl ?_
  refine e_get (pc := 32) s_B_code_32 (rPr hc) rfl ?_
  refine e_bipush (pc := 35) (v := 16) d_B_code_35 (by decide) ?_
  refine e_icmp_ne (pc := 37) (tgt := 50) d_B_code_37 (by decide) (fun _ => ?_) (fun h9 => absurd h9 (by rw [h1]; exact fun q9 => absurd ((nI_eq (b := 16) (by omega) (by decide)).mp q9) (by omega)))
  refine e_aload (pc := 50) d_B_code_50 rfl ?_
  refine e_iload_n (pc := 52) d_B_code_52 rfl ?_
  refine e_iload_n (pc := 53) d_B_code_53 rfl ?_
  refine e_iload (pc := 54) d_B_code_54 rfl ?_
  refine e_cV3 (pc := 56) s_B_code_56 (sA_append hc hq h1) (rPr hc) rfl rfl (Nat.le_of_ble_eq_true rfl) (Nat.le_of_ble_eq_true rfl) (Nat.le_of_ble_eq_true rfl) (zGo.n ?_)
  refine e_aload (pc := 59) d_B_code_59 rfl ?_
  refine e_get (pc := 61) s_B_code_61 (rPr hc) rfl ?_
  refine e_topi (y := nI q + 1) (su_at _ _ _ _ _) ?_
  exact e_iret (pc := 64) d_B_code_64 rfl rfl (Nat.le_of_ble_eq_true rfl) (Nat.le_of_ble_eq_true rfl) rfl
set_option maxHeartbeats 4000000 in
set_option maxRecDepth 100000 in
theorem sA_codeX7_2 {l : Launch} {G : zGP} {K : Nat} {S T : St} {th : Int32} {fo : Nat → Int64} {c : Nat} (hc : c < 3) {a b : Int32} (hv : vB 7 a b = false) : Rn l G m_B_code [.ref 0, .int (nI c), .int (nI 7), .int a, .int b] (hpA K S T th fo) (.inr "java/lang/IllegalArgumentException", (hpA K S T th fo)) := by
  refine Rn.of (by decide) rfl rfl (Nat.le_of_ble_eq_true rfl) rfl ?_
  show Ev l G m_B_code 0 [.ref 0, .int (nI c), .int (nI 7), .int a, .int b, .double 0] [] (hpA K S T th fo) 0 0 _
  refine e_aload_n (pc := 0) d_B_code_0 rfl ?_
  refine e_iload_n (pc := 1) d_B_code_1 rfl ?_
  refine e_cV1 (pc := 2) s_B_code_2 (sA_coreAt hc) rfl rfl rfl (Nat.le_of_ble_eq_true rfl) (Nat.le_of_ble_eq_true rfl) (Nat.le_of_ble_eq_true rfl) (zGo.v ?_)
  refine e_get (pc := 5) s_B_code_5 (rC hc) rfl ?_
  refine e_astore (pc := 8) d_B_code_8 (Nat.le_of_ble_eq_true rfl) ?_
  dsimp only [List.set]
  refine e_iload_n (pc := 10) d_B_code_10 rfl ?_
  refine e_iload_n (pc := 11) d_B_code_11 rfl ?_
  refine e_iload (pc := 12) d_B_code_12 rfl ?_
  refine e_cS3 (pc := 14) s_B_code_14 (sA_isIns7) (Nat.le_of_ble_eq_true rfl) (Nat.le_of_ble_eq_true rfl) (Nat.le_of_ble_eq_true rfl) (zGo.v ?_)
  refine e_topi (y := 0) (by rw [hv]; rfl) ?_
  refine e_if_ne (pc := 17) (tgt := 30) d_B_code_17 (by decide) (fun h9 => absurd (rfl) h9) (fun _ => ?_)
  exact e_thr (pc := 20) s_B_code_20 (Nat.le_of_ble_eq_true rfl) (Nat.le_of_ble_eq_true rfl) (Nat.le_of_ble_eq_true rfl) rfl
set_option maxHeartbeats 4000000 in
set_option maxRecDepth 100000 in
theorem sA_codeX7_3 {l : Launch} {G : zGP} {K : Nat} {S T : St} {th : Int32} {fo : Nat → Int64} {c : Nat} (hc : c < 3) {a b : Int32} (hv : vB 7 a b = true) (h1 : S 1 c 0 = 16) : Rn l G m_B_code [.ref 0, .int (nI c), .int (nI 7), .int a, .int b] (hpA K S T th fo) (.inr "java/lang/IllegalStateException", (hpA K S T th fo)) := by
  refine Rn.of (by decide) rfl rfl (Nat.le_of_ble_eq_true rfl) rfl ?_
  show Ev l G m_B_code 0 [.ref 0, .int (nI c), .int (nI 7), .int a, .int b, .double 0] [] (hpA K S T th fo) 0 0 _
  refine e_aload_n (pc := 0) d_B_code_0 rfl ?_
  refine e_iload_n (pc := 1) d_B_code_1 rfl ?_
  refine e_cV1 (pc := 2) s_B_code_2 (sA_coreAt hc) rfl rfl rfl (Nat.le_of_ble_eq_true rfl) (Nat.le_of_ble_eq_true rfl) (Nat.le_of_ble_eq_true rfl) (zGo.v ?_)
  refine e_get (pc := 5) s_B_code_5 (rC hc) rfl ?_
  refine e_astore (pc := 8) d_B_code_8 (Nat.le_of_ble_eq_true rfl) ?_
  dsimp only [List.set]
  refine e_iload_n (pc := 10) d_B_code_10 rfl ?_
  refine e_iload_n (pc := 11) d_B_code_11 rfl ?_
  refine e_iload (pc := 12) d_B_code_12 rfl ?_
  refine e_cS3 (pc := 14) s_B_code_14 (sA_isIns7) (Nat.le_of_ble_eq_true rfl) (Nat.le_of_ble_eq_true rfl) (Nat.le_of_ble_eq_true rfl) (zGo.v ?_)
  refine e_topi (y := 1) (by rw [hv]; rfl) ?_
  refine e_if_ne (pc := 17) (tgt := 30) d_B_code_17 (by decide) (fun _ => ?_) (fun h9 => absurd h9 (by decide))
  refine e_aload (pc := 30) d_B_code_30 rfl ?_
  refine e_get (pc := 32) s_B_code_32 (rPr hc) rfl ?_
  refine e_bipush (pc := 35) (v := 16) d_B_code_35 (by decide) ?_
  refine e_icmp_ne (pc := 37) (tgt := 50) d_B_code_37 (by decide) (fun h9 => absurd (h1) h9) (fun _ => ?_)
  exact e_thr (pc := 40) s_B_code_40 (Nat.le_of_ble_eq_true rfl) (Nat.le_of_ble_eq_true rfl) (Nat.le_of_ble_eq_true rfl) rfl
set_option maxHeartbeats 4000000 in
set_option maxRecDepth 100000 in
theorem sA_code7 {l : Launch} {G : zGP} {K : Nat} {S T : St} {th : Int32} {fo : Nat → Int64} {c : Nat} (hc : c < 3) {q : Nat} {a b : Int32} (hq : q < 16) (hv : vB 7 a b = true) (h1 : S 1 c 0 = nI q) : Rn l G m_B_code [.ref 0, .int (nI c), .int (nI 7), .int a, .int b] (hpA K S T th fo) (.inl (some (.int (nI q + 1))), (hpA K (su (su (su (su S 2 c q (nI 7)) 3 c q a) 4 c q b) 1 c 0 (nI q + 1)) T th fo)) := by
  refine Rn.of (by decide) rfl rfl (Nat.le_of_ble_eq_true rfl) rfl ?_
  show Ev l G m_B_code 0 [.ref 0, .int (nI c), .int (nI 7), .int a, .int b, .double 0] [] (hpA K S T th fo) 0 0 _
  refine e_aload_n (pc := 0) d_B_code_0 rfl ?_
  refine e_iload_n (pc := 1) d_B_code_1 rfl ?_
  refine e_cV1 (pc := 2) s_B_code_2 (sA_coreAt hc) rfl rfl rfl (Nat.le_of_ble_eq_true rfl) (Nat.le_of_ble_eq_true rfl) (Nat.le_of_ble_eq_true rfl) (zGo.v ?_)
  refine e_get (pc := 5) s_B_code_5 (rC hc) rfl ?_
  refine e_astore (pc := 8) d_B_code_8 (Nat.le_of_ble_eq_true rfl) ?_
  dsimp only [List.set]
  refine e_iload_n (pc := 10) d_B_code_10 rfl ?_
  refine e_iload_n (pc := 11) d_B_code_11 rfl ?_
  refine e_iload (pc := 12) d_B_code_12 rfl ?_
  refine e_cS3 (pc := 14) s_B_code_14 (sA_isIns7) (Nat.le_of_ble_eq_true rfl) (Nat.le_of_ble_eq_true rfl) (Nat.le_of_ble_eq_true rfl) (zGo.v ?_)
  refine e_topi (y := 1) (by rw [hv]; rfl) ?_
  refine e_if_ne (pc := 17) (tgt := 30) d_B_code_17 (by decide) (fun _ => ?_) (fun h9 => absurd h9 (by decide))
  refine e_aload (pc := 30) d_B_code_30 rfl ?_
  refine e_get (pc := 32) s_B_code_32 (rPr hc) rfl ?_
  refine e_bipush (pc := 35) (v := 16) d_B_code_35 (by decide) ?_
  refine e_icmp_ne (pc := 37) (tgt := 50) d_B_code_37 (by decide) (fun _ => ?_) (fun h9 => absurd h9 (by rw [h1]; exact fun q9 => absurd ((nI_eq (b := 16) (by omega) (by decide)).mp q9) (by omega)))
  refine e_aload (pc := 50) d_B_code_50 rfl ?_
  refine e_iload_n (pc := 52) d_B_code_52 rfl ?_
  refine e_iload_n (pc := 53) d_B_code_53 rfl ?_
  refine e_iload (pc := 54) d_B_code_54 rfl ?_
  refine e_cV3 (pc := 56) s_B_code_56 (sA_append hc hq h1) (rPr hc) rfl rfl (Nat.le_of_ble_eq_true rfl) (Nat.le_of_ble_eq_true rfl) (Nat.le_of_ble_eq_true rfl) (zGo.n ?_)
  refine e_aload (pc := 59) d_B_code_59 rfl ?_
  refine e_get (pc := 61) s_B_code_61 (rPr hc) rfl ?_
  refine e_topi (y := nI q + 1) (su_at _ _ _ _ _) ?_
  exact e_iret (pc := 64) d_B_code_64 rfl rfl (Nat.le_of_ble_eq_true rfl) (Nat.le_of_ble_eq_true rfl) rfl
set_option maxHeartbeats 4000000 in
set_option maxRecDepth 100000 in
theorem sX_poke1 {l : Launch} {G : zGP} {K : Nat} {S T : St} {th : Int32} {fo : Nat → Int64} {x v : Int32} (hx : ¬ (0 ≤ x ∧ x < 8)) : Rn l G m_B_poke [.ref 0, .int x, .int v] (hpA K S T th fo) (.inr "java/lang/IllegalArgumentException", (hpA K S T th fo)) := by
  refine Rn.of (by decide) rfl rfl (Nat.le_of_ble_eq_true rfl) rfl ?_
  show Ev l G m_B_poke 0 [.ref 0, .int x, .int v] [] (hpA K S T th fo) 0 0 _
  refine e_iload_n (pc := 0) d_B_poke_0 rfl ?_
  exact e_cS1 (pc := 1) s_B_poke_1 (sX_requireAddress hx) (Nat.le_of_ble_eq_true rfl) (Nat.le_of_ble_eq_true rfl) (Nat.le_of_ble_eq_true rfl) (zGo.t rfl (Nat.le_of_ble_eq_true rfl) (Nat.le_of_ble_eq_true rfl) rfl)
set_option maxHeartbeats 4000000 in
set_option maxRecDepth 100000 in
theorem sA_pokeX {l : Launch} {G : zGP} {K : Nat} {S T : St} {th : Int32} {fo : Nat → Int64} {k : Nat} {v : Int32} (hk : k < 8) (hu : useS S k) : Rn l G m_B_poke [.ref 0, .int (nI k), .int v] (hpA K S T th fo) (.inr "java/lang/IllegalStateException", (hpA K S T th fo)) := by
  refine Rn.of (by decide) rfl rfl (Nat.le_of_ble_eq_true rfl) rfl ?_
  show Ev l G m_B_poke 0 [.ref 0, .int (nI k), .int v] [] (hpA K S T th fo) 0 0 _
  refine e_iload_n (pc := 0) d_B_poke_0 rfl ?_
  refine e_cS1 (pc := 1) s_B_poke_1 (sA_requireAddress hk) (Nat.le_of_ble_eq_true rfl) (Nat.le_of_ble_eq_true rfl) (Nat.le_of_ble_eq_true rfl) (zGo.n ?_)
  refine e_aload_n (pc := 4) d_B_poke_4 rfl ?_
  refine e_iload_n (pc := 5) d_B_poke_5 rfl ?_
  refine e_cV1 (pc := 6) s_B_poke_6 (sA_isInUse hk) rfl rfl rfl (Nat.le_of_ble_eq_true rfl) (Nat.le_of_ble_eq_true rfl) (Nat.le_of_ble_eq_true rfl) (zGo.v ?_)
  refine e_topi (y := 1) (if_pos hu) ?_
  refine e_if_eq (pc := 9) (tgt := 22) d_B_poke_9 (by decide) (fun h9 => absurd h9 (by decide)) (fun _ => ?_)
  exact e_thr (pc := 12) s_B_poke_12 (Nat.le_of_ble_eq_true rfl) (Nat.le_of_ble_eq_true rfl) (Nat.le_of_ble_eq_true rfl) rfl
set_option maxHeartbeats 4000000 in
set_option maxRecDepth 100000 in
theorem sA_poke {l : Launch} {G : zGP} {K : Nat} {S T : St} {th : Int32} {fo : Nat → Int64} {k : Nat} {v : Int32} (hk : k < 8) (hu : ¬ useS S k) : Rn l G m_B_poke [.ref 0, .int (nI k), .int v] (hpA K S T th fo) (.inl none, (hpA K (su S 16 0 k v) T th fo)) := by
  refine Rn.of (by decide) rfl rfl (Nat.le_of_ble_eq_true rfl) rfl ?_
  show Ev l G m_B_poke 0 [.ref 0, .int (nI k), .int v] [] (hpA K S T th fo) 0 0 _
  refine e_iload_n (pc := 0) d_B_poke_0 rfl ?_
  refine e_cS1 (pc := 1) s_B_poke_1 (sA_requireAddress hk) (Nat.le_of_ble_eq_true rfl) (Nat.le_of_ble_eq_true rfl) (Nat.le_of_ble_eq_true rfl) (zGo.n ?_)
  refine e_aload_n (pc := 4) d_B_poke_4 rfl ?_
  refine e_iload_n (pc := 5) d_B_poke_5 rfl ?_
  refine e_cV1 (pc := 6) s_B_poke_6 (sA_isInUse hk) rfl rfl rfl (Nat.le_of_ble_eq_true rfl) (Nat.le_of_ble_eq_true rfl) (Nat.le_of_ble_eq_true rfl) (zGo.v ?_)
  refine e_topi (y := 0) (if_neg hu) ?_
  refine e_if_eq (pc := 9) (tgt := 22) d_B_poke_9 (by decide) (fun _ => ?_) (fun h9 => absurd (rfl) h9)
  refine e_aload_n (pc := 22) d_B_poke_22 rfl ?_
  refine e_get (pc := 23) s_B_poke_23 rfl rfl ?_
  refine e_iload_n (pc := 26) d_B_poke_26 rfl ?_
  refine e_iload_n (pc := 27) d_B_poke_27 rfl ?_
  refine e_iast (pc := 28) d_B_poke_28 rfl (vp_in_nI hk (by decide)) (wMem (nI_clamp (by omega))) ?_
  exact e_vret (pc := 29) d_B_poke_29 rfl (Nat.le_of_ble_eq_true rfl) (Nat.le_of_ble_eq_true rfl) rfl
set_option maxHeartbeats 4000000 in
set_option maxRecDepth 100000 in
theorem sA_stepE {l : Launch} {G : zGP} {K : Nat} {S T : St} {th : Int32} {fo : Nat → Int64} {c : Nat} (hc : c < 3) {p q : Nat} (hp : p ≤ 16) (hq : q ≤ 16) (h5 : S 5 c 0 = nI p) (h1 : S 1 c 0 = nI q) (hpq : q ≤ p) : Rn l G m_B_step [.ref 0, .int (nI c)] (hpA K S T th fo) (.inl (some (.int 2)), (hpA K S T th fo)) := by
  refine Rn.of (by decide) rfl rfl (Nat.le_of_ble_eq_true rfl) rfl ?_
  show Ev l G m_B_step 0 [.ref 0, .int (nI c), .double 0, .double 0, .double 0] [] (hpA K S T th fo) 0 0 _
  refine e_aload_n (pc := 0) d_B_step_0 rfl ?_
  refine e_iload_n (pc := 1) d_B_step_1 rfl ?_
  refine e_cV1 (pc := 2) s_B_step_2 (sA_coreAt hc) rfl rfl rfl (Nat.le_of_ble_eq_true rfl) (Nat.le_of_ble_eq_true rfl) (Nat.le_of_ble_eq_true rfl) (zGo.v ?_)
  refine e_astore_n (pc := 5) d_B_step_5 (Nat.le_of_ble_eq_true rfl) ?_
  dsimp only [List.set]
  refine e_aload_n (pc := 6) d_B_step_6 rfl ?_
  refine e_get (pc := 7) s_B_step_7 (rC hc) rfl ?_
  refine e_astore_n (pc := 10) d_B_step_10 (Nat.le_of_ble_eq_true rfl) ?_
  dsimp only [List.set]
  refine e_aload_n (pc := 11) d_B_step_11 rfl ?_
  refine e_get (pc := 12) s_B_step_12 (rC hc) rfl ?_
  refine e_istore (pc := 15) d_B_step_15 (Nat.le_of_ble_eq_true rfl) ?_
  dsimp only [List.set]
  refine e_iload (pc := 17) d_B_step_17 rfl ?_
  refine e_aload_n (pc := 19) d_B_step_19 rfl ?_
  refine e_get (pc := 20) s_B_step_20 (rPr hc) rfl ?_
  refine e_icmp_lt (pc := 23) (tgt := 28) d_B_step_23 (by decide) (fun h9 => absurd h9 (by rw [h5, h1]; exact nI_nlt hpq (by omega))) (fun _ => ?_)
  refine e_iconst (pc := 26) (v := 2) d_B_step_26 (by decide) ?_
  exact e_iret (pc := 27) d_B_step_27 rfl rfl (Nat.le_of_ble_eq_true rfl) (Nat.le_of_ble_eq_true rfl) rfl
set_option maxHeartbeats 4000000 in
set_option maxRecDepth 100000 in
theorem sA_step0 {l : Launch} {G : zGP} {K : Nat} {S T : St} {th : Int32} {fo : Nat → Int64} {c p q a b n m : Nat} (hc : c < 3) (hp : p < 16) (hq : q ≤ 16) (h5 : S 5 c 0 = nI p) (h1 : S 1 c 0 = nI q) (hpq : p < q) (h2 : S 2 c p = nI 0) (h3 : S 3 c p = nI a) (h4 : S 4 c p = nI b) (ha : a < 4) (hb : b < 4) (hn : n ≤ K) (hK4 : K ≤ 4) (hm : m < 1024) (h6 : S 6 c 0 = nI n) (h17 : S 17 0 0 = nI m) : Rn l G m_B_step [.ref 0, .int (nI c)] (hpA K S T th fo) (.inl (some (.int (ldR S c (ad (S 0 c b)) n))), (hpA K (ldS S c a (ad (S 0 c b)) n m) T th fo)) := by
  refine Rn.of (by decide) rfl rfl (Nat.le_of_ble_eq_true rfl) rfl ?_
  show Ev l G m_B_step 0 [.ref 0, .int (nI c), .double 0, .double 0, .double 0] [] (hpA K S T th fo) 0 0 _
  refine e_aload_n (pc := 0) d_B_step_0 rfl ?_
  refine e_iload_n (pc := 1) d_B_step_1 rfl ?_
  refine e_cV1 (pc := 2) s_B_step_2 (sA_coreAt hc) rfl rfl rfl (Nat.le_of_ble_eq_true rfl) (Nat.le_of_ble_eq_true rfl) (Nat.le_of_ble_eq_true rfl) (zGo.v ?_)
  refine e_astore_n (pc := 5) d_B_step_5 (Nat.le_of_ble_eq_true rfl) ?_
  dsimp only [List.set]
  refine e_aload_n (pc := 6) d_B_step_6 rfl ?_
  refine e_get (pc := 7) s_B_step_7 (rC hc) rfl ?_
  refine e_astore_n (pc := 10) d_B_step_10 (Nat.le_of_ble_eq_true rfl) ?_
  dsimp only [List.set]
  refine e_aload_n (pc := 11) d_B_step_11 rfl ?_
  refine e_get (pc := 12) s_B_step_12 (rC hc) rfl ?_
  refine e_istore (pc := 15) d_B_step_15 (Nat.le_of_ble_eq_true rfl) ?_
  dsimp only [List.set]
  refine e_iload (pc := 17) d_B_step_17 rfl ?_
  refine e_aload_n (pc := 19) d_B_step_19 rfl ?_
  refine e_get (pc := 20) s_B_step_20 (rPr hc) rfl ?_
  refine e_icmp_lt (pc := 23) (tgt := 28) d_B_step_23 (by decide) (fun _ => ?_) (fun h9 => absurd (by rw [h5, h1]; exact nI_lt hpq (by omega)) h9)
  refine e_aload_n (pc := 28) d_B_step_28 rfl ?_
  refine e_aload_n (pc := 29) d_B_step_29 rfl ?_
  refine e_aload_n (pc := 30) d_B_step_30 rfl ?_
  refine e_get (pc := 31) s_B_step_31 (rPr hc) rfl ?_
  refine e_iload (pc := 34) d_B_step_34 rfl ?_
  refine e_iald (pc := 36) d_B_step_36 (rOp hc) (vp_lit h5 hp (by decide)) ((ixf (congrArg Int32.toNatClampNeg h5)).trans ((ixf (nI_clamp (by omega))).trans h2)) ?_
  refine e_aload_n (pc := 37) d_B_step_37 rfl ?_
  refine e_get (pc := 38) s_B_step_38 (rPr hc) rfl ?_
  refine e_iload (pc := 41) d_B_step_41 rfl ?_
  refine e_iald (pc := 43) d_B_step_43 (rAs hc) (vp_lit h5 hp (by decide)) ((ixf (congrArg Int32.toNatClampNeg h5)).trans ((ixf (nI_clamp (by omega))).trans h3)) ?_
  refine e_aload_n (pc := 44) d_B_step_44 rfl ?_
  refine e_get (pc := 45) s_B_step_45 (rPr hc) rfl ?_
  refine e_iload (pc := 48) d_B_step_48 rfl ?_
  refine e_iald (pc := 50) d_B_step_50 (rBs hc) (vp_lit h5 hp (by decide)) ((ixf (congrArg Int32.toNatClampNeg h5)).trans ((ixf (nI_clamp (by omega))).trans h4)) ?_
  refine e_cV4 (pc := 51) s_B_step_51 (sA_ex0 hc ha hb hn hK4 hm h6 h17) rfl rfl rfl (Nat.le_of_ble_eq_true rfl) (Nat.le_of_ble_eq_true rfl) (Nat.le_of_ble_eq_true rfl) (zGo.v ?_)
  exact e_iret (pc := 54) d_B_step_54 rfl rfl (Nat.le_of_ble_eq_true rfl) (Nat.le_of_ble_eq_true rfl) rfl
set_option maxHeartbeats 4000000 in
set_option maxRecDepth 100000 in
theorem sA_step1 {l : Launch} {G : zGP} {K : Nat} {S T : St} {th : Int32} {fo : Nat → Int64} {c p q a b n : Nat} (hc : c < 3) (hp : p < 16) (hq : q ≤ 16) (h5 : S 5 c 0 = nI p) (h1 : S 1 c 0 = nI q) (hpq : p < q) (h2 : S 2 c p = nI 1) (h3 : S 3 c p = nI a) (h4 : S 4 c p = nI b) (ha : a < 4) (hb : b < 4) (hn : n ≤ K) (hK4 : K ≤ 4) (h6 : S 6 c 0 = nI n) : Rn l G m_B_step [.ref 0, .int (nI c)] (hpA K S T th fo) (.inl (some (.int (stR K n))), (hpA K (stS S K c (ad (S 0 c a)) n (S 0 c b)) T th fo)) := by
  refine Rn.of (by decide) rfl rfl (Nat.le_of_ble_eq_true rfl) rfl ?_
  show Ev l G m_B_step 0 [.ref 0, .int (nI c), .double 0, .double 0, .double 0] [] (hpA K S T th fo) 0 0 _
  refine e_aload_n (pc := 0) d_B_step_0 rfl ?_
  refine e_iload_n (pc := 1) d_B_step_1 rfl ?_
  refine e_cV1 (pc := 2) s_B_step_2 (sA_coreAt hc) rfl rfl rfl (Nat.le_of_ble_eq_true rfl) (Nat.le_of_ble_eq_true rfl) (Nat.le_of_ble_eq_true rfl) (zGo.v ?_)
  refine e_astore_n (pc := 5) d_B_step_5 (Nat.le_of_ble_eq_true rfl) ?_
  dsimp only [List.set]
  refine e_aload_n (pc := 6) d_B_step_6 rfl ?_
  refine e_get (pc := 7) s_B_step_7 (rC hc) rfl ?_
  refine e_astore_n (pc := 10) d_B_step_10 (Nat.le_of_ble_eq_true rfl) ?_
  dsimp only [List.set]
  refine e_aload_n (pc := 11) d_B_step_11 rfl ?_
  refine e_get (pc := 12) s_B_step_12 (rC hc) rfl ?_
  refine e_istore (pc := 15) d_B_step_15 (Nat.le_of_ble_eq_true rfl) ?_
  dsimp only [List.set]
  refine e_iload (pc := 17) d_B_step_17 rfl ?_
  refine e_aload_n (pc := 19) d_B_step_19 rfl ?_
  refine e_get (pc := 20) s_B_step_20 (rPr hc) rfl ?_
  refine e_icmp_lt (pc := 23) (tgt := 28) d_B_step_23 (by decide) (fun _ => ?_) (fun h9 => absurd (by rw [h5, h1]; exact nI_lt hpq (by omega)) h9)
  refine e_aload_n (pc := 28) d_B_step_28 rfl ?_
  refine e_aload_n (pc := 29) d_B_step_29 rfl ?_
  refine e_aload_n (pc := 30) d_B_step_30 rfl ?_
  refine e_get (pc := 31) s_B_step_31 (rPr hc) rfl ?_
  refine e_iload (pc := 34) d_B_step_34 rfl ?_
  refine e_iald (pc := 36) d_B_step_36 (rOp hc) (vp_lit h5 hp (by decide)) ((ixf (congrArg Int32.toNatClampNeg h5)).trans ((ixf (nI_clamp (by omega))).trans h2)) ?_
  refine e_aload_n (pc := 37) d_B_step_37 rfl ?_
  refine e_get (pc := 38) s_B_step_38 (rPr hc) rfl ?_
  refine e_iload (pc := 41) d_B_step_41 rfl ?_
  refine e_iald (pc := 43) d_B_step_43 (rAs hc) (vp_lit h5 hp (by decide)) ((ixf (congrArg Int32.toNatClampNeg h5)).trans ((ixf (nI_clamp (by omega))).trans h3)) ?_
  refine e_aload_n (pc := 44) d_B_step_44 rfl ?_
  refine e_get (pc := 45) s_B_step_45 (rPr hc) rfl ?_
  refine e_iload (pc := 48) d_B_step_48 rfl ?_
  refine e_iald (pc := 50) d_B_step_50 (rBs hc) (vp_lit h5 hp (by decide)) ((ixf (congrArg Int32.toNatClampNeg h5)).trans ((ixf (nI_clamp (by omega))).trans h4)) ?_
  refine e_cV4 (pc := 51) s_B_step_51 (sA_ex1 hc ha hb hn hK4 h6) rfl rfl rfl (Nat.le_of_ble_eq_true rfl) (Nat.le_of_ble_eq_true rfl) (Nat.le_of_ble_eq_true rfl) (zGo.v ?_)
  exact e_iret (pc := 54) d_B_step_54 rfl rfl (Nat.le_of_ble_eq_true rfl) (Nat.le_of_ble_eq_true rfl) rfl
set_option maxHeartbeats 4000000 in
set_option maxRecDepth 100000 in
theorem sA_step2 {l : Launch} {G : zGP} {K : Nat} {S T : St} {th : Int32} {fo : Nat → Int64} {a b : Int32} {c p q  : Nat} (hc : c < 3) (hp : p < 16) (hq : q ≤ 16) (h5 : S 5 c 0 = nI p) (h1 : S 1 c 0 = nI q) (hpq : p < q) (h2 : S 2 c p = nI 2) (h3 : S 3 c p = a) (h4 : S 4 c p = b) : Rn l G m_B_step [.ref 0, .int (nI c)] (hpA K S T th fo) (.inl (some (.int (fnR S c))), (hpA K (fnS S c) T th fo)) := by
  refine Rn.of (by decide) rfl rfl (Nat.le_of_ble_eq_true rfl) rfl ?_
  show Ev l G m_B_step 0 [.ref 0, .int (nI c), .double 0, .double 0, .double 0] [] (hpA K S T th fo) 0 0 _
  refine e_aload_n (pc := 0) d_B_step_0 rfl ?_
  refine e_iload_n (pc := 1) d_B_step_1 rfl ?_
  refine e_cV1 (pc := 2) s_B_step_2 (sA_coreAt hc) rfl rfl rfl (Nat.le_of_ble_eq_true rfl) (Nat.le_of_ble_eq_true rfl) (Nat.le_of_ble_eq_true rfl) (zGo.v ?_)
  refine e_astore_n (pc := 5) d_B_step_5 (Nat.le_of_ble_eq_true rfl) ?_
  dsimp only [List.set]
  refine e_aload_n (pc := 6) d_B_step_6 rfl ?_
  refine e_get (pc := 7) s_B_step_7 (rC hc) rfl ?_
  refine e_astore_n (pc := 10) d_B_step_10 (Nat.le_of_ble_eq_true rfl) ?_
  dsimp only [List.set]
  refine e_aload_n (pc := 11) d_B_step_11 rfl ?_
  refine e_get (pc := 12) s_B_step_12 (rC hc) rfl ?_
  refine e_istore (pc := 15) d_B_step_15 (Nat.le_of_ble_eq_true rfl) ?_
  dsimp only [List.set]
  refine e_iload (pc := 17) d_B_step_17 rfl ?_
  refine e_aload_n (pc := 19) d_B_step_19 rfl ?_
  refine e_get (pc := 20) s_B_step_20 (rPr hc) rfl ?_
  refine e_icmp_lt (pc := 23) (tgt := 28) d_B_step_23 (by decide) (fun _ => ?_) (fun h9 => absurd (by rw [h5, h1]; exact nI_lt hpq (by omega)) h9)
  refine e_aload_n (pc := 28) d_B_step_28 rfl ?_
  refine e_aload_n (pc := 29) d_B_step_29 rfl ?_
  refine e_aload_n (pc := 30) d_B_step_30 rfl ?_
  refine e_get (pc := 31) s_B_step_31 (rPr hc) rfl ?_
  refine e_iload (pc := 34) d_B_step_34 rfl ?_
  refine e_iald (pc := 36) d_B_step_36 (rOp hc) (vp_lit h5 hp (by decide)) ((ixf (congrArg Int32.toNatClampNeg h5)).trans ((ixf (nI_clamp (by omega))).trans h2)) ?_
  refine e_aload_n (pc := 37) d_B_step_37 rfl ?_
  refine e_get (pc := 38) s_B_step_38 (rPr hc) rfl ?_
  refine e_iload (pc := 41) d_B_step_41 rfl ?_
  refine e_iald (pc := 43) d_B_step_43 (rAs hc) (vp_lit h5 hp (by decide)) ((ixf (congrArg Int32.toNatClampNeg h5)).trans ((ixf (nI_clamp (by omega))).trans h3)) ?_
  refine e_aload_n (pc := 44) d_B_step_44 rfl ?_
  refine e_get (pc := 45) s_B_step_45 (rPr hc) rfl ?_
  refine e_iload (pc := 48) d_B_step_48 rfl ?_
  refine e_iald (pc := 50) d_B_step_50 (rBs hc) (vp_lit h5 hp (by decide)) ((ixf (congrArg Int32.toNatClampNeg h5)).trans ((ixf (nI_clamp (by omega))).trans h4)) ?_
  refine e_cV4 (pc := 51) s_B_step_51 (sA_ex2 hc) rfl rfl rfl (Nat.le_of_ble_eq_true rfl) (Nat.le_of_ble_eq_true rfl) (Nat.le_of_ble_eq_true rfl) (zGo.v ?_)
  exact e_iret (pc := 54) d_B_step_54 rfl rfl (Nat.le_of_ble_eq_true rfl) (Nat.le_of_ble_eq_true rfl) rfl
set_option maxHeartbeats 4000000 in
set_option maxRecDepth 100000 in
theorem sA_step3 {l : Launch} {G : zGP} {K : Nat} {S T : St} {th : Int32} {fo : Nat → Int64} {c p q a b m : Nat} (hc : c < 3) (hp : p < 16) (hq : q ≤ 16) (h5 : S 5 c 0 = nI p) (h1 : S 1 c 0 = nI q) (hpq : p < q) (h2 : S 2 c p = nI 3) (h3 : S 3 c p = nI a) (h4 : S 4 c p = nI b) (ha : a < 4) (hb : b < 4) (hm : m < 1024) (h17 : S 17 0 0 = nI m) : Rn l G m_B_step [.ref 0, .int (nI c)] (hpA K S T th fo) (.inl (some (.int (swR S c (ad (S 0 c a))))), (hpA K (swS S c (ad (S 0 c a)) m (S 0 c b)) T th fo)) := by
  refine Rn.of (by decide) rfl rfl (Nat.le_of_ble_eq_true rfl) rfl ?_
  show Ev l G m_B_step 0 [.ref 0, .int (nI c), .double 0, .double 0, .double 0] [] (hpA K S T th fo) 0 0 _
  refine e_aload_n (pc := 0) d_B_step_0 rfl ?_
  refine e_iload_n (pc := 1) d_B_step_1 rfl ?_
  refine e_cV1 (pc := 2) s_B_step_2 (sA_coreAt hc) rfl rfl rfl (Nat.le_of_ble_eq_true rfl) (Nat.le_of_ble_eq_true rfl) (Nat.le_of_ble_eq_true rfl) (zGo.v ?_)
  refine e_astore_n (pc := 5) d_B_step_5 (Nat.le_of_ble_eq_true rfl) ?_
  dsimp only [List.set]
  refine e_aload_n (pc := 6) d_B_step_6 rfl ?_
  refine e_get (pc := 7) s_B_step_7 (rC hc) rfl ?_
  refine e_astore_n (pc := 10) d_B_step_10 (Nat.le_of_ble_eq_true rfl) ?_
  dsimp only [List.set]
  refine e_aload_n (pc := 11) d_B_step_11 rfl ?_
  refine e_get (pc := 12) s_B_step_12 (rC hc) rfl ?_
  refine e_istore (pc := 15) d_B_step_15 (Nat.le_of_ble_eq_true rfl) ?_
  dsimp only [List.set]
  refine e_iload (pc := 17) d_B_step_17 rfl ?_
  refine e_aload_n (pc := 19) d_B_step_19 rfl ?_
  refine e_get (pc := 20) s_B_step_20 (rPr hc) rfl ?_
  refine e_icmp_lt (pc := 23) (tgt := 28) d_B_step_23 (by decide) (fun _ => ?_) (fun h9 => absurd (by rw [h5, h1]; exact nI_lt hpq (by omega)) h9)
  refine e_aload_n (pc := 28) d_B_step_28 rfl ?_
  refine e_aload_n (pc := 29) d_B_step_29 rfl ?_
  refine e_aload_n (pc := 30) d_B_step_30 rfl ?_
  refine e_get (pc := 31) s_B_step_31 (rPr hc) rfl ?_
  refine e_iload (pc := 34) d_B_step_34 rfl ?_
  refine e_iald (pc := 36) d_B_step_36 (rOp hc) (vp_lit h5 hp (by decide)) ((ixf (congrArg Int32.toNatClampNeg h5)).trans ((ixf (nI_clamp (by omega))).trans h2)) ?_
  refine e_aload_n (pc := 37) d_B_step_37 rfl ?_
  refine e_get (pc := 38) s_B_step_38 (rPr hc) rfl ?_
  refine e_iload (pc := 41) d_B_step_41 rfl ?_
  refine e_iald (pc := 43) d_B_step_43 (rAs hc) (vp_lit h5 hp (by decide)) ((ixf (congrArg Int32.toNatClampNeg h5)).trans ((ixf (nI_clamp (by omega))).trans h3)) ?_
  refine e_aload_n (pc := 44) d_B_step_44 rfl ?_
  refine e_get (pc := 45) s_B_step_45 (rPr hc) rfl ?_
  refine e_iload (pc := 48) d_B_step_48 rfl ?_
  refine e_iald (pc := 50) d_B_step_50 (rBs hc) (vp_lit h5 hp (by decide)) ((ixf (congrArg Int32.toNatClampNeg h5)).trans ((ixf (nI_clamp (by omega))).trans h4)) ?_
  refine e_cV4 (pc := 51) s_B_step_51 (sA_ex3 hc ha hb hm h17) rfl rfl rfl (Nat.le_of_ble_eq_true rfl) (Nat.le_of_ble_eq_true rfl) (Nat.le_of_ble_eq_true rfl) (zGo.v ?_)
  exact e_iret (pc := 54) d_B_step_54 rfl rfl (Nat.le_of_ble_eq_true rfl) (Nat.le_of_ble_eq_true rfl) rfl
set_option maxHeartbeats 4000000 in
set_option maxRecDepth 100000 in
theorem sA_step4 {l : Launch} {G : zGP} {K : Nat} {S T : St} {th : Int32} {fo : Nat → Int64} {c p q a b : Nat} (hc : c < 3) (hp : p < 16) (hq : q ≤ 16) (h5 : S 5 c 0 = nI p) (h1 : S 1 c 0 = nI q) (hpq : p < q) (h2 : S 2 c p = nI 4) (h3 : S 3 c p = nI a) (h4 : S 4 c p = nI b) (ha : a < 4) (hb : b < 4) : Rn l G m_B_step [.ref 0, .int (nI c)] (hpA K S T th fo) (.inl (some (.int 1)), (hpA K (su (su S 0 c a (S 0 c a + S 0 c b)) 5 c 0 (S 5 c 0 + 1)) T th fo)) := by
  refine Rn.of (by decide) rfl rfl (Nat.le_of_ble_eq_true rfl) rfl ?_
  show Ev l G m_B_step 0 [.ref 0, .int (nI c), .double 0, .double 0, .double 0] [] (hpA K S T th fo) 0 0 _
  refine e_aload_n (pc := 0) d_B_step_0 rfl ?_
  refine e_iload_n (pc := 1) d_B_step_1 rfl ?_
  refine e_cV1 (pc := 2) s_B_step_2 (sA_coreAt hc) rfl rfl rfl (Nat.le_of_ble_eq_true rfl) (Nat.le_of_ble_eq_true rfl) (Nat.le_of_ble_eq_true rfl) (zGo.v ?_)
  refine e_astore_n (pc := 5) d_B_step_5 (Nat.le_of_ble_eq_true rfl) ?_
  dsimp only [List.set]
  refine e_aload_n (pc := 6) d_B_step_6 rfl ?_
  refine e_get (pc := 7) s_B_step_7 (rC hc) rfl ?_
  refine e_astore_n (pc := 10) d_B_step_10 (Nat.le_of_ble_eq_true rfl) ?_
  dsimp only [List.set]
  refine e_aload_n (pc := 11) d_B_step_11 rfl ?_
  refine e_get (pc := 12) s_B_step_12 (rC hc) rfl ?_
  refine e_istore (pc := 15) d_B_step_15 (Nat.le_of_ble_eq_true rfl) ?_
  dsimp only [List.set]
  refine e_iload (pc := 17) d_B_step_17 rfl ?_
  refine e_aload_n (pc := 19) d_B_step_19 rfl ?_
  refine e_get (pc := 20) s_B_step_20 (rPr hc) rfl ?_
  refine e_icmp_lt (pc := 23) (tgt := 28) d_B_step_23 (by decide) (fun _ => ?_) (fun h9 => absurd (by rw [h5, h1]; exact nI_lt hpq (by omega)) h9)
  refine e_aload_n (pc := 28) d_B_step_28 rfl ?_
  refine e_aload_n (pc := 29) d_B_step_29 rfl ?_
  refine e_aload_n (pc := 30) d_B_step_30 rfl ?_
  refine e_get (pc := 31) s_B_step_31 (rPr hc) rfl ?_
  refine e_iload (pc := 34) d_B_step_34 rfl ?_
  refine e_iald (pc := 36) d_B_step_36 (rOp hc) (vp_lit h5 hp (by decide)) ((ixf (congrArg Int32.toNatClampNeg h5)).trans ((ixf (nI_clamp (by omega))).trans h2)) ?_
  refine e_aload_n (pc := 37) d_B_step_37 rfl ?_
  refine e_get (pc := 38) s_B_step_38 (rPr hc) rfl ?_
  refine e_iload (pc := 41) d_B_step_41 rfl ?_
  refine e_iald (pc := 43) d_B_step_43 (rAs hc) (vp_lit h5 hp (by decide)) ((ixf (congrArg Int32.toNatClampNeg h5)).trans ((ixf (nI_clamp (by omega))).trans h3)) ?_
  refine e_aload_n (pc := 44) d_B_step_44 rfl ?_
  refine e_get (pc := 45) s_B_step_45 (rPr hc) rfl ?_
  refine e_iload (pc := 48) d_B_step_48 rfl ?_
  refine e_iald (pc := 50) d_B_step_50 (rBs hc) (vp_lit h5 hp (by decide)) ((ixf (congrArg Int32.toNatClampNeg h5)).trans ((ixf (nI_clamp (by omega))).trans h4)) ?_
  refine e_cV4 (pc := 51) s_B_step_51 (sA_ex4 hc ha hb) rfl rfl rfl (Nat.le_of_ble_eq_true rfl) (Nat.le_of_ble_eq_true rfl) (Nat.le_of_ble_eq_true rfl) (zGo.v ?_)
  exact e_iret (pc := 54) d_B_step_54 rfl rfl (Nat.le_of_ble_eq_true rfl) (Nat.le_of_ble_eq_true rfl) rfl
set_option maxHeartbeats 4000000 in
set_option maxRecDepth 100000 in
theorem sA_step5 {l : Launch} {G : zGP} {K : Nat} {S T : St} {th : Int32} {fo : Nat → Int64} {b : Int32} {c p q a : Nat} (hc : c < 3) (hp : p < 16) (hq : q ≤ 16) (h5 : S 5 c 0 = nI p) (h1 : S 1 c 0 = nI q) (hpq : p < q) (h2 : S 2 c p = nI 5) (h3 : S 3 c p = nI a) (h4 : S 4 c p = b) (ha : a < 4) : Rn l G m_B_step [.ref 0, .int (nI c)] (hpA K S T th fo) (.inl (some (.int 1)), (hpA K (su (su S 0 c a b) 5 c 0 (S 5 c 0 + 1)) T th fo)) := by
  refine Rn.of (by decide) rfl rfl (Nat.le_of_ble_eq_true rfl) rfl ?_
  show Ev l G m_B_step 0 [.ref 0, .int (nI c), .double 0, .double 0, .double 0] [] (hpA K S T th fo) 0 0 _
  refine e_aload_n (pc := 0) d_B_step_0 rfl ?_
  refine e_iload_n (pc := 1) d_B_step_1 rfl ?_
  refine e_cV1 (pc := 2) s_B_step_2 (sA_coreAt hc) rfl rfl rfl (Nat.le_of_ble_eq_true rfl) (Nat.le_of_ble_eq_true rfl) (Nat.le_of_ble_eq_true rfl) (zGo.v ?_)
  refine e_astore_n (pc := 5) d_B_step_5 (Nat.le_of_ble_eq_true rfl) ?_
  dsimp only [List.set]
  refine e_aload_n (pc := 6) d_B_step_6 rfl ?_
  refine e_get (pc := 7) s_B_step_7 (rC hc) rfl ?_
  refine e_astore_n (pc := 10) d_B_step_10 (Nat.le_of_ble_eq_true rfl) ?_
  dsimp only [List.set]
  refine e_aload_n (pc := 11) d_B_step_11 rfl ?_
  refine e_get (pc := 12) s_B_step_12 (rC hc) rfl ?_
  refine e_istore (pc := 15) d_B_step_15 (Nat.le_of_ble_eq_true rfl) ?_
  dsimp only [List.set]
  refine e_iload (pc := 17) d_B_step_17 rfl ?_
  refine e_aload_n (pc := 19) d_B_step_19 rfl ?_
  refine e_get (pc := 20) s_B_step_20 (rPr hc) rfl ?_
  refine e_icmp_lt (pc := 23) (tgt := 28) d_B_step_23 (by decide) (fun _ => ?_) (fun h9 => absurd (by rw [h5, h1]; exact nI_lt hpq (by omega)) h9)
  refine e_aload_n (pc := 28) d_B_step_28 rfl ?_
  refine e_aload_n (pc := 29) d_B_step_29 rfl ?_
  refine e_aload_n (pc := 30) d_B_step_30 rfl ?_
  refine e_get (pc := 31) s_B_step_31 (rPr hc) rfl ?_
  refine e_iload (pc := 34) d_B_step_34 rfl ?_
  refine e_iald (pc := 36) d_B_step_36 (rOp hc) (vp_lit h5 hp (by decide)) ((ixf (congrArg Int32.toNatClampNeg h5)).trans ((ixf (nI_clamp (by omega))).trans h2)) ?_
  refine e_aload_n (pc := 37) d_B_step_37 rfl ?_
  refine e_get (pc := 38) s_B_step_38 (rPr hc) rfl ?_
  refine e_iload (pc := 41) d_B_step_41 rfl ?_
  refine e_iald (pc := 43) d_B_step_43 (rAs hc) (vp_lit h5 hp (by decide)) ((ixf (congrArg Int32.toNatClampNeg h5)).trans ((ixf (nI_clamp (by omega))).trans h3)) ?_
  refine e_aload_n (pc := 44) d_B_step_44 rfl ?_
  refine e_get (pc := 45) s_B_step_45 (rPr hc) rfl ?_
  refine e_iload (pc := 48) d_B_step_48 rfl ?_
  refine e_iald (pc := 50) d_B_step_50 (rBs hc) (vp_lit h5 hp (by decide)) ((ixf (congrArg Int32.toNatClampNeg h5)).trans ((ixf (nI_clamp (by omega))).trans h4)) ?_
  refine e_cV4 (pc := 51) s_B_step_51 (sA_ex5 hc ha) rfl rfl rfl (Nat.le_of_ble_eq_true rfl) (Nat.le_of_ble_eq_true rfl) (Nat.le_of_ble_eq_true rfl) (zGo.v ?_)
  exact e_iret (pc := 54) d_B_step_54 rfl rfl (Nat.le_of_ble_eq_true rfl) (Nat.le_of_ble_eq_true rfl) rfl
set_option maxHeartbeats 4000000 in
set_option maxRecDepth 100000 in
theorem sA_step6 {l : Launch} {G : zGP} {K : Nat} {S T : St} {th : Int32} {fo : Nat → Int64} {b : Int32} {c p q a : Nat} (hc : c < 3) (hp : p < 16) (hq : q ≤ 16) (h5 : S 5 c 0 = nI p) (h1 : S 1 c 0 = nI q) (hpq : p < q) (h2 : S 2 c p = nI 6) (h3 : S 3 c p = nI a) (h4 : S 4 c p = b) (ha : a < 4) : Rn l G m_B_step [.ref 0, .int (nI c)] (hpA K S T th fo) (.inl (some (.int 1)), (hpA K (brS S c a b) T th fo)) := by
  refine Rn.of (by decide) rfl rfl (Nat.le_of_ble_eq_true rfl) rfl ?_
  show Ev l G m_B_step 0 [.ref 0, .int (nI c), .double 0, .double 0, .double 0] [] (hpA K S T th fo) 0 0 _
  refine e_aload_n (pc := 0) d_B_step_0 rfl ?_
  refine e_iload_n (pc := 1) d_B_step_1 rfl ?_
  refine e_cV1 (pc := 2) s_B_step_2 (sA_coreAt hc) rfl rfl rfl (Nat.le_of_ble_eq_true rfl) (Nat.le_of_ble_eq_true rfl) (Nat.le_of_ble_eq_true rfl) (zGo.v ?_)
  refine e_astore_n (pc := 5) d_B_step_5 (Nat.le_of_ble_eq_true rfl) ?_
  dsimp only [List.set]
  refine e_aload_n (pc := 6) d_B_step_6 rfl ?_
  refine e_get (pc := 7) s_B_step_7 (rC hc) rfl ?_
  refine e_astore_n (pc := 10) d_B_step_10 (Nat.le_of_ble_eq_true rfl) ?_
  dsimp only [List.set]
  refine e_aload_n (pc := 11) d_B_step_11 rfl ?_
  refine e_get (pc := 12) s_B_step_12 (rC hc) rfl ?_
  refine e_istore (pc := 15) d_B_step_15 (Nat.le_of_ble_eq_true rfl) ?_
  dsimp only [List.set]
  refine e_iload (pc := 17) d_B_step_17 rfl ?_
  refine e_aload_n (pc := 19) d_B_step_19 rfl ?_
  refine e_get (pc := 20) s_B_step_20 (rPr hc) rfl ?_
  refine e_icmp_lt (pc := 23) (tgt := 28) d_B_step_23 (by decide) (fun _ => ?_) (fun h9 => absurd (by rw [h5, h1]; exact nI_lt hpq (by omega)) h9)
  refine e_aload_n (pc := 28) d_B_step_28 rfl ?_
  refine e_aload_n (pc := 29) d_B_step_29 rfl ?_
  refine e_aload_n (pc := 30) d_B_step_30 rfl ?_
  refine e_get (pc := 31) s_B_step_31 (rPr hc) rfl ?_
  refine e_iload (pc := 34) d_B_step_34 rfl ?_
  refine e_iald (pc := 36) d_B_step_36 (rOp hc) (vp_lit h5 hp (by decide)) ((ixf (congrArg Int32.toNatClampNeg h5)).trans ((ixf (nI_clamp (by omega))).trans h2)) ?_
  refine e_aload_n (pc := 37) d_B_step_37 rfl ?_
  refine e_get (pc := 38) s_B_step_38 (rPr hc) rfl ?_
  refine e_iload (pc := 41) d_B_step_41 rfl ?_
  refine e_iald (pc := 43) d_B_step_43 (rAs hc) (vp_lit h5 hp (by decide)) ((ixf (congrArg Int32.toNatClampNeg h5)).trans ((ixf (nI_clamp (by omega))).trans h3)) ?_
  refine e_aload_n (pc := 44) d_B_step_44 rfl ?_
  refine e_get (pc := 45) s_B_step_45 (rPr hc) rfl ?_
  refine e_iload (pc := 48) d_B_step_48 rfl ?_
  refine e_iald (pc := 50) d_B_step_50 (rBs hc) (vp_lit h5 hp (by decide)) ((ixf (congrArg Int32.toNatClampNeg h5)).trans ((ixf (nI_clamp (by omega))).trans h4)) ?_
  refine e_cV4 (pc := 51) s_B_step_51 (sA_ex6 hc ha) rfl rfl rfl (Nat.le_of_ble_eq_true rfl) (Nat.le_of_ble_eq_true rfl) (Nat.le_of_ble_eq_true rfl) (zGo.v ?_)
  exact e_iret (pc := 54) d_B_step_54 rfl rfl (Nat.le_of_ble_eq_true rfl) (Nat.le_of_ble_eq_true rfl) rfl
set_option maxHeartbeats 4000000 in
set_option maxRecDepth 100000 in
theorem sA_step7 {l : Launch} {G : zGP} {K : Nat} {S T : St} {th : Int32} {fo : Nat → Int64} {a b : Int32} {c p q  : Nat} (hc : c < 3) (hp : p < 16) (hq : q ≤ 16) (h5 : S 5 c 0 = nI p) (h1 : S 1 c 0 = nI q) (hpq : p < q) (h2 : S 2 c p = nI 7) (h3 : S 3 c p = a) (h4 : S 4 c p = b) : Rn l G m_B_step [.ref 0, .int (nI c)] (hpA K S T th fo) (.inl (some (.int 2)), (hpA K S T th fo)) := by
  refine Rn.of (by decide) rfl rfl (Nat.le_of_ble_eq_true rfl) rfl ?_
  show Ev l G m_B_step 0 [.ref 0, .int (nI c), .double 0, .double 0, .double 0] [] (hpA K S T th fo) 0 0 _
  refine e_aload_n (pc := 0) d_B_step_0 rfl ?_
  refine e_iload_n (pc := 1) d_B_step_1 rfl ?_
  refine e_cV1 (pc := 2) s_B_step_2 (sA_coreAt hc) rfl rfl rfl (Nat.le_of_ble_eq_true rfl) (Nat.le_of_ble_eq_true rfl) (Nat.le_of_ble_eq_true rfl) (zGo.v ?_)
  refine e_astore_n (pc := 5) d_B_step_5 (Nat.le_of_ble_eq_true rfl) ?_
  dsimp only [List.set]
  refine e_aload_n (pc := 6) d_B_step_6 rfl ?_
  refine e_get (pc := 7) s_B_step_7 (rC hc) rfl ?_
  refine e_astore_n (pc := 10) d_B_step_10 (Nat.le_of_ble_eq_true rfl) ?_
  dsimp only [List.set]
  refine e_aload_n (pc := 11) d_B_step_11 rfl ?_
  refine e_get (pc := 12) s_B_step_12 (rC hc) rfl ?_
  refine e_istore (pc := 15) d_B_step_15 (Nat.le_of_ble_eq_true rfl) ?_
  dsimp only [List.set]
  refine e_iload (pc := 17) d_B_step_17 rfl ?_
  refine e_aload_n (pc := 19) d_B_step_19 rfl ?_
  refine e_get (pc := 20) s_B_step_20 (rPr hc) rfl ?_
  refine e_icmp_lt (pc := 23) (tgt := 28) d_B_step_23 (by decide) (fun _ => ?_) (fun h9 => absurd (by rw [h5, h1]; exact nI_lt hpq (by omega)) h9)
  refine e_aload_n (pc := 28) d_B_step_28 rfl ?_
  refine e_aload_n (pc := 29) d_B_step_29 rfl ?_
  refine e_aload_n (pc := 30) d_B_step_30 rfl ?_
  refine e_get (pc := 31) s_B_step_31 (rPr hc) rfl ?_
  refine e_iload (pc := 34) d_B_step_34 rfl ?_
  refine e_iald (pc := 36) d_B_step_36 (rOp hc) (vp_lit h5 hp (by decide)) ((ixf (congrArg Int32.toNatClampNeg h5)).trans ((ixf (nI_clamp (by omega))).trans h2)) ?_
  refine e_aload_n (pc := 37) d_B_step_37 rfl ?_
  refine e_get (pc := 38) s_B_step_38 (rPr hc) rfl ?_
  refine e_iload (pc := 41) d_B_step_41 rfl ?_
  refine e_iald (pc := 43) d_B_step_43 (rAs hc) (vp_lit h5 hp (by decide)) ((ixf (congrArg Int32.toNatClampNeg h5)).trans ((ixf (nI_clamp (by omega))).trans h3)) ?_
  refine e_aload_n (pc := 44) d_B_step_44 rfl ?_
  refine e_get (pc := 45) s_B_step_45 (rPr hc) rfl ?_
  refine e_iload (pc := 48) d_B_step_48 rfl ?_
  refine e_iald (pc := 50) d_B_step_50 (rBs hc) (vp_lit h5 hp (by decide)) ((ixf (congrArg Int32.toNatClampNeg h5)).trans ((ixf (nI_clamp (by omega))).trans h4)) ?_
  refine e_cV4 (pc := 51) s_B_step_51 (sA_ex7 hc) rfl rfl rfl (Nat.le_of_ble_eq_true rfl) (Nat.le_of_ble_eq_true rfl) (Nat.le_of_ble_eq_true rfl) (zGo.v ?_)
  exact e_iret (pc := 54) d_B_step_54 rfl rfl (Nat.le_of_ble_eq_true rfl) (Nat.le_of_ble_eq_true rfl) rfl
