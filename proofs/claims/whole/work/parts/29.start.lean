/-! ===== the law from its start ===== -/
set_option maxHeartbeats 4000000 in
set_option maxRecDepth 100000 in
theorem sL_cellA {l : Launch} {G : zGP} {hp : List va_E} (h0 : 0 < G.2.2.2.2.1) (hL : G.2.2.2.2.1 ≤ 2561) : Rn l G m_L_cell [.retAddr 0, .int 0] hp (.inl (some (.int (G.2.2.2.2.2.1 0))), hp) := by
  refine Rn.of (by decide) rfl rfl (Nat.le_of_ble_eq_true rfl) rfl ?_
  show Ev l G m_L_cell 0 [.retAddr 0, .int 0] [] hp 0 0 _
  refine e_iload_n (pc := 0) d_L_cell_0 rfl ?_
  refine e_aload_nS (pc := 1) d_L_cell_1 rfl ?_
  refine e_slen (pc := 2) d_L_cell_2 rfl ?_
  refine e_topi (y := nI G.2.2.2.2.1) rfl ?_
  refine e_icmp_ge (pc := 3) (tgt := 12) d_L_cell_3 (by decide) (fun zz => absurd zz (nI_nle h0 (by omega))) (fun _ => ?_)
  refine e_aload_nS (pc := 6) d_L_cell_6 rfl ?_
  refine e_iload_n (pc := 7) d_L_cell_7 rfl ?_
  refine e_sld (pc := 8) d_L_cell_8 (show vp_in (nI 0) _ from vp_in_nI h0 (by omega)) (congrArg G.2.2.2.2.2.1 (show (0 : Int32).toNatClampNeg = 0 by decide)) ?_
  refine e_goto (pc := 9) (tgt := 13) d_L_cell_9 (by decide) ?_
  exact e_iret (pc := 13) d_L_cell_13 rfl rfl (Nat.le_of_ble_eq_true rfl) (Nat.le_of_ble_eq_true rfl) rfl
set_option maxHeartbeats 4000000 in
set_option maxRecDepth 100000 in
theorem sL_cellB {l : Launch} {G : zGP} {hp : List va_E} (h0 : G.2.2.2.2.1 = 0) : Rn l G m_L_cell [.retAddr 0, .int 0] hp (.inl (some (.int 0)), hp) := by
  refine Rn.of (by decide) rfl rfl (Nat.le_of_ble_eq_true rfl) rfl ?_
  show Ev l G m_L_cell 0 [.retAddr 0, .int 0] [] hp 0 0 _
  refine e_iload_n (pc := 0) d_L_cell_0 rfl ?_
  refine e_aload_nS (pc := 1) d_L_cell_1 rfl ?_
  refine e_slen (pc := 2) d_L_cell_2 rfl ?_
  refine e_topi (y := nI 0) (by rw [h0]; rfl) ?_
  refine e_icmp_ge (pc := 3) (tgt := 12) d_L_cell_3 (by decide) (fun _ => ?_) (fun zz => absurd (by decide) zz)
  refine e_iconst (pc := 12) (v := 0) d_L_cell_12 (by decide) ?_
  exact e_iret (pc := 13) d_L_cell_13 rfl rfl (Nat.le_of_ble_eq_true rfl) (Nat.le_of_ble_eq_true rfl) rfl
theorem sL_cell {l : Launch} {G : zGP} (hL : G.2.2.2.2.1 ≤ 2561) : ∃ x, ∀ hp, Rn l G m_L_cell [.retAddr 0, .int 0] hp (.inl (some (.int x)), hp) := by
  by_cases h0 : G.2.2.2.2.1 = 0
  · exact ⟨0, fun hp => sL_cellB h0⟩
  · exact ⟨_, fun hp => sL_cellA (by omega) hL⟩
theorem Inv_0 {K : Nat} : Inv K S0 0 :=
  ⟨fun c _ => ⟨0, by decide, rfl, fun i hi => absurd hi (Nat.not_lt_zero i)⟩, fun c _ => ⟨0, by decide, rfl⟩, fun c _ => ⟨0, Nat.zero_le K, rfl⟩, fun c j _ => ⟨0, by decide, rfl⟩, fun c j _ => ⟨⟨0, by decide, rfl⟩, 0, by decide, rfl⟩, fun c _ => ⟨⟨0, by decide, rfl⟩, fun _ => rfl⟩,
    fun c d x _ _ _ _ => ⟨fun q => absurd rfl q.1.1, fun q => absurd rfl q.1, fun q => absurd rfl q.1, fun q => absurd rfl q.1⟩, rfl⟩
set_option maxHeartbeats 4000000 in
set_option maxRecDepth 100000 in
theorem law_start {l : Launch} {G : zGP} (hL : G.2.2.2.2.1 ≤ 2561) : ∃ hpF, Ev l G m_L_law 0 [.retAddr 0, .double 0, .double 0, .double 0, .double 0, .double 0, .double 0] [] [] 0 0 (.inl (some (.int 1)), hpF) := by
  obtain ⟨x, hcell⟩ := sL_cell (l := l) (G := G) hL
  obtain ⟨hpF, EE⟩ := law_loop (l := l) (G := G) (K := mostK x) mK_le.2 hL 600 0 S0 0 (by omega) (by omega) (by omega) Inv_0 0 (fun _ => 0) (.double 0) (.double 0) 66 685 (by decide) (by decide)
  refine ⟨hpF, ?_⟩
  refine e_new (pc := 0) s_L_law_0 (Nat.le_of_ble_eq_true rfl) (Nat.le_of_ble_eq_true rfl) (rfl : _ = ([.inr (6, [.null, .null, .null])] : List va_E)) ?_
  refine e_topr (j := 0) rfl ?_
  refine e_dup (pc := 3) d_L_law_3 rfl ?_
  refine e_aload_nS (pc := 4) d_L_law_4 rfl ?_
  refine e_iconst (pc := 5) (v := 0) d_L_law_5 (by decide) ?_
  refine e_cS2 (pc := 6) s_L_law_6 (hcell _) (Nat.le_of_ble_eq_true rfl) (Nat.le_of_ble_eq_true rfl) (Nat.le_of_ble_eq_true rfl) (zGo.v ?_)
  refine e_cI1 (pc := 9) s_L_law_9 (sI_B) ⟨_, rfl⟩ (Nat.le_of_ble_eq_true rfl) (Nat.le_of_ble_eq_true rfl) (Nat.le_of_ble_eq_true rfl) (zGo.n ?_)
  refine e_astore_n (pc := 12) d_L_law_12 (Nat.le_of_ble_eq_true rfl) ?_
  dsimp only [List.set]
  refine e_new (pc := 13) s_L_law_13 (Nat.le_of_ble_eq_true rfl) (Nat.le_of_ble_eq_true rfl) (rfl : _ = ([.inr (6, [.ref 1, .ref 2, .ref 42]), .inl (0, 8, .inl (fun _ => 0)), .inl (3, 3, .inr (.inr (.inr (.inr (va_up (va_up (va_up (fun _ => none) 0 (some 3)) 1 (some 16)) 2 (some 29)))))), .inr (0, [.int (nI 0), .ref 4, .ref 5, .ref 11, .ref 9, .ref 10, .int 0]), .inl (0, 4, .inl (fun _ => 0)), .inr (3, [.ref 6, .ref 7, .ref 8, .int 0]), .inl (0, 16, .inl (fun _ => 0)), .inl (0, 16, .inl (fun _ => 0)), .inl (0, 16, .inl (fun _ => 0)), .inl (4, 2, .inr (.inr (.inr (.inr (va_up (va_up (fun _ => none) 0 (some 14)) 1 (some 15)))))), .inr (4, [.int 0, .int 0, .int 0, .int 0]), .inr (5, [.ref 12, .ref 13, .int 0]), .inl (0, (mostK x), .inl (fun _ => 0)), .inl (0, (mostK x), .inl (fun _ => 0)), .inr (1, [.int 0, .int 0, .int 0]), .inr (1, [.int 0, .int 0, .int 0]), .inr (0, [.int (nI 1), .ref 17, .ref 18, .ref 24, .ref 22, .ref 23, .int 0]), .inl (0, 4, .inl (fun _ => 0)), .inr (3, [.ref 19, .ref 20, .ref 21, .int 0]), .inl (0, 16, .inl (fun _ => 0)), .inl (0, 16, .inl (fun _ => 0)), .inl (0, 16, .inl (fun _ => 0)), .inl (4, 2, .inr (.inr (.inr (.inr (va_up (va_up (fun _ => none) 0 (some 27)) 1 (some 28)))))), .inr (4, [.int 0, .int 0, .int 0, .int 0]), .inr (5, [.ref 25, .ref 26, .int 0]), .inl (0, (mostK x), .inl (fun _ => 0)), .inl (0, (mostK x), .inl (fun _ => 0)), .inr (1, [.int 0, .int 0, .int 0]), .inr (1, [.int 0, .int 0, .int 0]), .inr (0, [.int (nI 2), .ref 30, .ref 31, .ref 37, .ref 35, .ref 36, .int 0]), .inl (0, 4, .inl (fun _ => 0)), .inr (3, [.ref 32, .ref 33, .ref 34, .int 0]), .inl (0, 16, .inl (fun _ => 0)), .inl (0, 16, .inl (fun _ => 0)), .inl (0, 16, .inl (fun _ => 0)), .inl (4, 2, .inr (.inr (.inr (.inr (va_up (va_up (fun _ => none) 0 (some 40)) 1 (some 41)))))), .inr (4, [.int 0, .int 0, .int 0, .int 0]), .inr (5, [.ref 38, .ref 39, .int 0]), .inl (0, (mostK x), .inl (fun _ => 0)), .inl (0, (mostK x), .inl (fun _ => 0)), .inr (1, [.int 0, .int 0, .int 0]), .inr (1, [.int 0, .int 0, .int 0]), .inr (2, [.ref 43, .ref 44, .int 0]), .inl (0, 40, .inl (fun _ => 0)), .inl (0, 40, .inl (fun _ => 0)), .inr (7, [.int 0, .int 0, .null, .null, .null, .null, .null, .null, .null, .null, .null, .null, .null, .null, .null, .null, .null, .null, .null, .int 0, .null, .null])] : List va_E)) ?_
  refine e_topr (j := 45) rfl ?_
  refine e_dup (pc := 16) d_L_law_16 rfl ?_
  refine e_aload_nS (pc := 17) d_L_law_17 rfl ?_
  refine e_iconst (pc := 18) (v := 0) d_L_law_18 (by decide) ?_
  refine e_cS2 (pc := 19) s_L_law_19 (hcell _) (Nat.le_of_ble_eq_true rfl) (Nat.le_of_ble_eq_true rfl) (Nat.le_of_ble_eq_true rfl) (zGo.v ?_)
  refine e_cI1 (pc := 22) s_L_law_22 (sI_M) ⟨_, rfl⟩ (Nat.le_of_ble_eq_true rfl) (Nat.le_of_ble_eq_true rfl) (Nat.le_of_ble_eq_true rfl) (zGo.n ?_)
  refine e_astore_n (pc := 25) d_L_law_25 (Nat.le_of_ble_eq_true rfl) ?_
  dsimp only [List.set]
  refine e_iconst (pc := 26) (v := 1) d_L_law_26 (by decide) ?_
  refine e_newL (pc := 27) d_L_law_27 s_L_law_27 (by decide) rfl (by decide) (Nat.le_of_ble_eq_true rfl) (Nat.le_of_ble_eq_true rfl) hp0 ?_
  refine e_topr (j := 65) rfl ?_
  refine e_astore_n (pc := 29) d_L_law_29 (Nat.le_of_ble_eq_true rfl) ?_
  dsimp only [List.set]
  refine e_iconst (pc := 30) (v := 1) d_L_law_30 (by decide) ?_
  refine e_istore (pc := 31) d_L_law_31 (Nat.le_of_ble_eq_true rfl) ?_
  dsimp only [List.set]
  exact EE
