/-! ===== the class's private methods ===== -/
theorem Rn.to {l : Launch} {G : zGP} {M : zMI} {av : List Value} {hp h1 h2 : List va_E} {q : Option Value ⊕ String} (h : Rn l G M av hp (q, h1)) (e : h1 = h2) : Rn l G M av hp (q, h2) := e ▸ h
theorem xor40 : ∀ n, n < 1024 → 0 ≤ nI n ^^^ 40 := by decide +kernel
/-- the log with one event more; n: how many there were -/
def noteS (S : St) (n : Nat) (kind core x v : Int32) : St := su (su (su S 18 0 (n % 40) (kind + 4 * core + 16 * x)) 19 0 (n % 40) v) 17 0 0 (S 17 0 0 + 1)
set_option maxHeartbeats 4000000 in
set_option maxRecDepth 100000 in
theorem sp_floorMod {l : Launch} {G : zGP} {K : Nat} {S T : St} {th : Int32} {fo : Nat → Int64} {n : Nat} (hn : n < 1024) : Rn l G m_J_floorMod [.int (nI n), .int 40] (hpA K S T th fo) (.inl (some (.int (nI (n % 40)))), (hpA K S T th fo)) := by
  refine Rn.ofF (by decide +kernel) rfl rfl (Nat.le_of_ble_eq_true rfl) rfl ⟨_, rfl⟩ ?_
  show Ev l G m_J_floorMod 0 [.int (nI n), .int 40, .double 0] [] (hpA K S T th fo) 0 0 _
  refine e_iload_n (pc := 0) d_J_floorMod_0 rfl ?_
  refine e_iload_n (pc := 1) d_J_floorMod_1 rfl ?_
  refine e_irem (pc := 2) d_J_floorMod_2 (by decide) ?_
  refine e_topi (y := nI (n % 40)) (pk_rem (by omega) (by decide) (by decide)) ?_
  refine e_istore_n (pc := 3) d_J_floorMod_3 (Nat.le_of_ble_eq_true rfl) ?_
  dsimp only [List.set]
  refine e_iload_n (pc := 4) d_J_floorMod_4 rfl ?_
  refine e_iload_n (pc := 5) d_J_floorMod_5 rfl ?_
  refine e_ixor (pc := 6) d_J_floorMod_6 ?_
  refine e_if_ge (pc := 7) (tgt := 18) d_J_floorMod_7 (by decide) (fun _ => ?_) (fun h9 => absurd (xor40 n hn) h9)
  refine e_iload_n (pc := 18) d_J_floorMod_18 rfl ?_
  exact e_iret (pc := 19) d_J_floorMod_19 rfl rfl (Nat.le_of_ble_eq_true rfl) (Nat.le_of_ble_eq_true rfl) rfl
set_option maxHeartbeats 4000000 in
set_option maxRecDepth 100000 in
theorem sA_enter {l : Launch} {G : zGP} {K : Nat} {S T : St} {th : Int32} {fo : Nat → Int64} {n : Nat} {kd co x v : Int32} (hn : n < 1024) (h17 : S 17 0 0 = nI n) : Rn l G m_Lo_enter [.ref 42, .int kd, .int co, .int x, .int v] (hpA K S T th fo) (.inl none, (hpA K (noteS S n kd co x v) T th fo)) := by
  refine Rn.of (by decide) rfl rfl (Nat.le_of_ble_eq_true rfl) rfl ?_
  show Ev l G m_Lo_enter 0 [.ref 42, .int kd, .int co, .int x, .int v, .double 0] [] (hpA K S T th fo) 0 0 _
  refine e_aload_n (pc := 0) d_Lo_enter_0 rfl ?_
  refine e_get (pc := 1) s_Lo_enter_1 rfl rfl ?_
  refine e_topi (y := nI n) h17 ?_
  refine e_bipush (pc := 4) (v := 40) d_Lo_enter_4 (by decide) ?_
  refine e_cS2 (pc := 6) s_Lo_enter_6 (sp_floorMod hn) (Nat.le_of_ble_eq_true rfl) (Nat.le_of_ble_eq_true rfl) (Nat.le_of_ble_eq_true rfl) (zGo.v ?_)
  refine e_istore (pc := 9) d_Lo_enter_9 (Nat.le_of_ble_eq_true rfl) ?_
  dsimp only [List.set]
  refine e_aload_n (pc := 11) d_Lo_enter_11 rfl ?_
  refine e_get (pc := 12) s_Lo_enter_12 rfl rfl ?_
  refine e_iload (pc := 15) d_Lo_enter_15 rfl ?_
  refine e_iload_n (pc := 17) d_Lo_enter_17 rfl ?_
  refine e_iconst (pc := 18) (v := 4) d_Lo_enter_18 (by decide) ?_
  refine e_iload_n (pc := 19) d_Lo_enter_19 rfl ?_
  refine e_imul (pc := 20) d_Lo_enter_20 ?_
  refine e_iadd (pc := 21) d_Lo_enter_21 ?_
  refine e_bipush (pc := 22) (v := 16) d_Lo_enter_22 (by decide) ?_
  refine e_iload_n (pc := 24) d_Lo_enter_24 rfl ?_
  refine e_imul (pc := 25) d_Lo_enter_25 ?_
  refine e_iadd (pc := 26) d_Lo_enter_26 ?_
  refine e_iast (pc := 27) d_Lo_enter_27 rfl (vp_in_nI (by omega) (by decide)) (wHd (nI_clamp (by omega))) ?_
  refine e_aload_n (pc := 28) d_Lo_enter_28 rfl ?_
  refine e_get (pc := 29) s_Lo_enter_29 rfl rfl ?_
  refine e_iload (pc := 32) d_Lo_enter_32 rfl ?_
  refine e_iload (pc := 34) d_Lo_enter_34 rfl ?_
  refine e_iast (pc := 36) d_Lo_enter_36 rfl (vp_in_nI (by omega) (by decide)) (wHv (nI_clamp (by omega))) ?_
  refine e_aload_n (pc := 37) d_Lo_enter_37 rfl ?_
  refine e_dup (pc := 38) d_Lo_enter_38 rfl ?_
  refine e_get (pc := 39) s_Lo_enter_39 rfl rfl ?_
  refine e_iconst (pc := 42) (v := 1) d_Lo_enter_42 (by decide) ?_
  refine e_iadd (pc := 43) d_Lo_enter_43 ?_
  refine e_put (pc := 44) s_Lo_enter_44 rfl (Nat.le_of_ble_eq_true rfl) zFit.int wCnt ?_
  exact e_vret (pc := 47) d_Lo_enter_47 rfl (Nat.le_of_ble_eq_true rfl) (Nat.le_of_ble_eq_true rfl) rfl
set_option maxHeartbeats 4000000 in
set_option maxRecDepth 100000 in
theorem sA_keeps {l : Launch} {G : zGP} {K : Nat} {S T : St} {th : Int32} {fo : Nat → Int64} {i : Int32} : Rn l G m_Lo_keeps [.ref 42, .int i] (hpA K S T th fo) (.inl (some (.int (if 0 ≤ i ∧ i < S 17 0 0 ∧ S 17 0 0 - 40 ≤ i then 1 else 0))), (hpA K S T th fo)) := by
  refine Rn.of (by decide) rfl rfl (Nat.le_of_ble_eq_true rfl) rfl ?_
  show Ev l G m_Lo_keeps 0 [.ref 42, .int i] [] (hpA K S T th fo) 0 0 _
  refine e_iload_n (pc := 0) d_Lo_keeps_0 rfl ?_
  refine e_if_lt (pc := 1) (tgt := 27) d_Lo_keeps_1 (by decide) (fun h1 => ?_) (fun h1 => ?_)
  · refine e_iconst (pc := 27) (v := 0) d_Lo_keeps_27 (by decide) ?_
    exact e_iret (pc := 28) d_Lo_keeps_28 rfl (by decide) (Nat.le_of_ble_eq_true rfl) (Nat.le_of_ble_eq_true rfl) (by first | (rw [if_neg (fun q => absurd q.1 (Int32.not_le.mpr (by assumption)))]; done) | (rw [if_neg (fun q => absurd q.2.1 (Int32.not_lt.mpr (by assumption)))]; done) | (rw [if_neg (fun q => absurd q.2.2 (Int32.not_le.mpr (by assumption)))]; done) | (rw [if_pos ⟨Int32.not_lt.mp (by assumption), Int32.not_le.mp (by assumption), Int32.not_lt.mp (by assumption)⟩]))
  · refine e_iload_n (pc := 4) d_Lo_keeps_4 rfl ?_
    refine e_aload_n (pc := 5) d_Lo_keeps_5 rfl ?_
    refine e_get (pc := 6) s_Lo_keeps_6 rfl rfl ?_
    refine e_icmp_ge (pc := 9) (tgt := 27) d_Lo_keeps_9 (by decide) (fun h2 => ?_) (fun h2 => ?_)
    · refine e_iconst (pc := 27) (v := 0) d_Lo_keeps_27 (by decide) ?_
      exact e_iret (pc := 28) d_Lo_keeps_28 rfl (by decide) (Nat.le_of_ble_eq_true rfl) (Nat.le_of_ble_eq_true rfl) (by first | (rw [if_neg (fun q => absurd q.1 (Int32.not_le.mpr (by assumption)))]; done) | (rw [if_neg (fun q => absurd q.2.1 (Int32.not_lt.mpr (by assumption)))]; done) | (rw [if_neg (fun q => absurd q.2.2 (Int32.not_le.mpr (by assumption)))]; done) | (rw [if_pos ⟨Int32.not_lt.mp (by assumption), Int32.not_le.mp (by assumption), Int32.not_lt.mp (by assumption)⟩]))
    · refine e_iload_n (pc := 12) d_Lo_keeps_12 rfl ?_
      refine e_aload_n (pc := 13) d_Lo_keeps_13 rfl ?_
      refine e_get (pc := 14) s_Lo_keeps_14 rfl rfl ?_
      refine e_bipush (pc := 17) (v := 40) d_Lo_keeps_17 (by decide) ?_
      refine e_isub (pc := 19) d_Lo_keeps_19 ?_
      refine e_icmp_lt (pc := 20) (tgt := 27) d_Lo_keeps_20 (by decide) (fun h3 => ?_) (fun h3 => ?_)
      · refine e_iconst (pc := 27) (v := 0) d_Lo_keeps_27 (by decide) ?_
        exact e_iret (pc := 28) d_Lo_keeps_28 rfl (by decide) (Nat.le_of_ble_eq_true rfl) (Nat.le_of_ble_eq_true rfl) (by first | (rw [if_neg (fun q => absurd q.1 (Int32.not_le.mpr (by assumption)))]; done) | (rw [if_neg (fun q => absurd q.2.1 (Int32.not_lt.mpr (by assumption)))]; done) | (rw [if_neg (fun q => absurd q.2.2 (Int32.not_le.mpr (by assumption)))]; done) | (rw [if_pos ⟨Int32.not_lt.mp (by assumption), Int32.not_le.mp (by assumption), Int32.not_lt.mp (by assumption)⟩]))
      · refine e_iconst (pc := 23) (v := 1) d_Lo_keeps_23 (by decide) ?_
        refine e_goto (pc := 24) (tgt := 28) d_Lo_keeps_24 (by decide) ?_
        exact e_iret (pc := 28) d_Lo_keeps_28 rfl (by decide) (Nat.le_of_ble_eq_true rfl) (Nat.le_of_ble_eq_true rfl) (by first | (rw [if_neg (fun q => absurd q.1 (Int32.not_le.mpr (by assumption)))]; done) | (rw [if_neg (fun q => absurd q.2.1 (Int32.not_lt.mpr (by assumption)))]; done) | (rw [if_neg (fun q => absurd q.2.2 (Int32.not_le.mpr (by assumption)))]; done) | (rw [if_pos ⟨Int32.not_lt.mp (by assumption), Int32.not_le.mp (by assumption), Int32.not_lt.mp (by assumption)⟩]))
set_option maxHeartbeats 4000000 in
set_option maxRecDepth 100000 in
theorem sA_lineFor {l : Launch} {G : zGP} {K : Nat} {S T : St} {th : Int32} {fo : Nat → Int64} {c k : Nat} (hc : c < 3) (hk : k < 8) : Rn l G m_Co_lineFor [.ref (pC c), .int (nI k)] (hpA K S T th fo) (.inl (some (.ref (pC c + 11 + k % 2))), (hpA K S T th fo)) := by
  refine Rn.of (by decide) rfl rfl (Nat.le_of_ble_eq_true rfl) rfl ?_
  show Ev l G m_Co_lineFor 0 [.ref (pC c), .int (nI k)] [] (hpA K S T th fo) 0 0 _
  refine e_aload_n (pc := 0) d_Co_lineFor_0 rfl ?_
  refine e_get (pc := 1) s_Co_lineFor_1 (rC hc) rfl ?_
  refine e_iload_n (pc := 4) d_Co_lineFor_4 rfl ?_
  refine e_iconst (pc := 5) (v := 1) d_Co_lineFor_5 (by decide) ?_
  refine e_iand (pc := 6) d_Co_lineFor_6 ?_
  refine e_topi (y := nI (k % 2)) (pk_andN (by omega) 1 (by decide)) ?_
  refine e_aald (pc := 7) d_Co_lineFor_7 (rLs hc) rfl (vp_in_nI (by omega) (by decide)) (ixg (nI_clamp (by omega)) (lnR_at (by omega))) ?_
  exact e_aret (pc := 8) d_Co_lineFor_8 rfl (Nat.le_of_ble_eq_true rfl) (Nat.le_of_ble_eq_true rfl) rfl
set_option maxHeartbeats 4000000 in
set_option maxRecDepth 100000 in
theorem sA_coreAt {l : Launch} {G : zGP} {K : Nat} {S T : St} {th : Int32} {fo : Nat → Int64} {c : Nat} (hc : c < 3) : Rn l G m_B_coreAt [.ref 0, .int (nI c)] (hpA K S T th fo) (.inl (some (.ref (pC c))), (hpA K S T th fo)) := by
  refine Rn.of (by decide) rfl rfl (Nat.le_of_ble_eq_true rfl) rfl ?_
  show Ev l G m_B_coreAt 0 [.ref 0, .int (nI c)] [] (hpA K S T th fo) 0 0 _
  refine e_iload_n (pc := 0) d_B_coreAt_0 rfl ?_
  refine e_if_lt (pc := 1) (tgt := 9) d_B_coreAt_1 (by decide) (fun h9 => absurd h9 (nI_pos (by omega))) (fun _ => ?_)
  refine e_iload_n (pc := 4) d_B_coreAt_4 rfl ?_
  refine e_iconst (pc := 5) (v := 3) d_B_coreAt_5 (by decide) ?_
  refine e_icmp_lt (pc := 6) (tgt := 19) d_B_coreAt_6 (by decide) (fun _ => ?_) (fun h9 => absurd (nI_lt (b := 3) (by omega) (by decide)) h9)
  refine e_aload_n (pc := 19) d_B_coreAt_19 rfl ?_
  refine e_get (pc := 20) s_B_coreAt_20 rfl rfl ?_
  refine e_iload_n (pc := 23) d_B_coreAt_23 rfl ?_
  refine e_aald (pc := 24) d_B_coreAt_24 rfl rfl (vp_in_nI (by omega) (by decide)) (ixg (nI_clamp (by omega)) (crR_at hc)) ?_
  exact e_aret (pc := 25) d_B_coreAt_25 rfl (Nat.le_of_ble_eq_true rfl) (Nat.le_of_ble_eq_true rfl) rfl
set_option maxHeartbeats 4000000 in
set_option maxRecDepth 100000 in
theorem sX_coreAt {l : Launch} {G : zGP} {K : Nat} {S T : St} {th : Int32} {fo : Nat → Int64} {x : Int32} (hx : ¬ (0 ≤ x ∧ x < 3)) : Rn l G m_B_coreAt [.ref 0, .int x] (hpA K S T th fo) (.inr "java/lang/IndexOutOfBoundsException", (hpA K S T th fo)) := by
  refine Rn.of (by decide) rfl rfl (Nat.le_of_ble_eq_true rfl) rfl ?_
  show Ev l G m_B_coreAt 0 [.ref 0, .int x] [] (hpA K S T th fo) 0 0 _
  refine e_iload_n (pc := 0) d_B_coreAt_0 rfl ?_
  refine e_if_lt (pc := 1) (tgt := 9) d_B_coreAt_1 (by decide) (fun h4 => ?_) (fun h4 => ?_)
  · exact e_thr (pc := 9) s_B_coreAt_9 (Nat.le_of_ble_eq_true rfl) (Nat.le_of_ble_eq_true rfl) (Nat.le_of_ble_eq_true rfl) rfl
  · refine e_iload_n (pc := 4) d_B_coreAt_4 rfl ?_
    refine e_iconst (pc := 5) (v := 3) d_B_coreAt_5 (by decide) ?_
    refine e_icmp_lt (pc := 6) (tgt := 19) d_B_coreAt_6 (by decide) (fun h5 => ?_) (fun h5 => ?_)
    · exact absurd ⟨Int32.not_lt.mp (by assumption), by assumption⟩ hx
    · exact e_thr (pc := 9) s_B_coreAt_9 (Nat.le_of_ble_eq_true rfl) (Nat.le_of_ble_eq_true rfl) (Nat.le_of_ble_eq_true rfl) rfl
set_option maxHeartbeats 4000000 in
set_option maxRecDepth 100000 in
theorem sA_requireAddress {l : Launch} {G : zGP} {K : Nat} {S T : St} {th : Int32} {fo : Nat → Int64} {k : Nat} (hk : k < 8) : Rn l G m_B_requireAddress [.int (nI k)] (hpA K S T th fo) (.inl none, (hpA K S T th fo)) := by
  refine Rn.of (by decide) rfl rfl (Nat.le_of_ble_eq_true rfl) rfl ?_
  show Ev l G m_B_requireAddress 0 [.int (nI k)] [] (hpA K S T th fo) 0 0 _
  refine e_iload_n (pc := 0) d_B_requireAddress_0 rfl ?_
  refine e_if_lt (pc := 1) (tgt := 10) d_B_requireAddress_1 (by decide) (fun h9 => absurd h9 (nI_pos (by omega))) (fun _ => ?_)
  refine e_iload_n (pc := 4) d_B_requireAddress_4 rfl ?_
  refine e_bipush (pc := 5) (v := 8) d_B_requireAddress_5 (by decide) ?_
  refine e_icmp_lt (pc := 7) (tgt := 20) d_B_requireAddress_7 (by decide) (fun _ => ?_) (fun h9 => absurd (nI_lt (b := 8) (by omega) (by decide)) h9)
  exact e_vret (pc := 20) d_B_requireAddress_20 rfl (Nat.le_of_ble_eq_true rfl) (Nat.le_of_ble_eq_true rfl) rfl
set_option maxHeartbeats 4000000 in
set_option maxRecDepth 100000 in
theorem sX_requireAddress {l : Launch} {G : zGP} {K : Nat} {S T : St} {th : Int32} {fo : Nat → Int64} {x : Int32} (hx : ¬ (0 ≤ x ∧ x < 8)) : Rn l G m_B_requireAddress [.int x] (hpA K S T th fo) (.inr "java/lang/IllegalArgumentException", (hpA K S T th fo)) := by
  refine Rn.of (by decide) rfl rfl (Nat.le_of_ble_eq_true rfl) rfl ?_
  show Ev l G m_B_requireAddress 0 [.int x] [] (hpA K S T th fo) 0 0 _
  refine e_iload_n (pc := 0) d_B_requireAddress_0 rfl ?_
  refine e_if_lt (pc := 1) (tgt := 10) d_B_requireAddress_1 (by decide) (fun h6 => ?_) (fun h6 => ?_)
  · exact e_thr (pc := 10) s_B_requireAddress_10 (Nat.le_of_ble_eq_true rfl) (Nat.le_of_ble_eq_true rfl) (Nat.le_of_ble_eq_true rfl) rfl
  · refine e_iload_n (pc := 4) d_B_requireAddress_4 rfl ?_
    refine e_bipush (pc := 5) (v := 8) d_B_requireAddress_5 (by decide) ?_
    refine e_icmp_lt (pc := 7) (tgt := 20) d_B_requireAddress_7 (by decide) (fun h7 => ?_) (fun h7 => ?_)
    · exact absurd ⟨Int32.not_lt.mp (by assumption), by assumption⟩ hx
    · exact e_thr (pc := 10) s_B_requireAddress_10 (Nat.le_of_ble_eq_true rfl) (Nat.le_of_ble_eq_true rfl) (Nat.le_of_ble_eq_true rfl) rfl
set_option maxHeartbeats 4000000 in
set_option maxRecDepth 100000 in
theorem sA_has {l : Launch} {G : zGP} {K : Nat} {S T : St} {th : Int32} {fo : Nat → Int64} {c j : Nat} (hc : c < 3) (hj : j < 2) {x : Int32} : Rn l G m_Li_has [.ref (pC c + 11 + j), .int x] (hpA K S T th fo) (.inl (some (.int (if ¬ S 9 c j = 0 ∧ S 10 c j = x then 1 else 0))), (hpA K S T th fo)) := sp_has (rL hc hj)
set_option maxHeartbeats 4000000 in
set_option maxRecDepth 100000 in
theorem sA_owns {l : Launch} {G : zGP} {K : Nat} {S T : St} {th : Int32} {fo : Nat → Int64} {c j : Nat} (hc : c < 3) (hj : j < 2) {x : Int32} : Rn l G m_Li_owns [.ref (pC c + 11 + j), .int x] (hpA K S T th fo) (.inl (some (.int (if (¬ S 9 c j = 0 ∧ S 10 c j = x) ∧ ¬ S 9 c j = 1 then 1 else 0))), (hpA K S T th fo)) := sp_owns (rL hc hj)
set_option maxHeartbeats 4000000 in
set_option maxRecDepth 100000 in
theorem sA_take {l : Launch} {G : zGP} {K : Nat} {S T : St} {th : Int32} {fo : Nat → Int64} {c j : Nat} (hc : c < 3) (hj : j < 2) {n x w : Int32} : Rn l G m_Li_take [.ref (pC c + 11 + j), .int n, .int x, .int w] (hpA K S T th fo) (.inl none, (hpA K (su (su (su S 9 c j n) 10 c j x) 11 c j w) T th fo)) := (sp_take (rL hc hj)).to (wL hc hj)
set_option maxHeartbeats 4000000 in
set_option maxRecDepth 100000 in
theorem sA_modify {l : Launch} {G : zGP} {K : Nat} {S T : St} {th : Int32} {fo : Nat → Int64} {c j : Nat} (hc : c < 3) (hj : j < 2) {w : Int32} : Rn l G m_Li_modify [.ref (pC c + 11 + j), .int w] (hpA K S T th fo) (.inl none, (hpA K (su (su S 9 c j 3) 11 c j w) T th fo)) := (sp_modify (rL hc hj)).to (wLv hc hj)
set_option maxHeartbeats 4000000 in
set_option maxRecDepth 100000 in
theorem sA_fliesFor {l : Launch} {G : zGP} {K : Nat} {S T : St} {th : Int32} {fo : Nat → Int64} {c : Nat} (hc : c < 3) {y : Int32} : Rn l G m_Rq_fliesFor [.ref (pC c + 7), .int y] (hpA K S T th fo) (.inl (some (.int (if ¬ S 14 c 0 = 0 ∧ S 13 c 0 = y then 1 else 0))), (hpA K S T th fo)) := sp_fliesFor (rQ hc)
set_option maxHeartbeats 4000000 in
set_option maxRecDepth 100000 in
theorem sA_begin {l : Launch} {G : zGP} {K : Nat} {S T : St} {th : Int32} {fo : Nat → Int64} {c : Nat} (hc : c < 3) {k x : Int32} : Rn l G m_Rq_begin [.ref (pC c + 7), .int k, .int x] (hpA K S T th fo) (.inl none, (hpA K (su (su S 12 c 0 k) 13 c 0 x) T th fo)) := (sp_begin (rQ hc)).to (wQb hc)
set_option maxHeartbeats 4000000 in
set_option maxRecDepth 100000 in
theorem sA_takeOff {l : Launch} {G : zGP} {K : Nat} {S T : St} {th : Int32} {fo : Nat → Int64} {c : Nat} (hc : c < 3) {v : Int32} : Rn l G m_Rq_takeOff [.ref (pC c + 7), .int v] (hpA K S T th fo) (.inl none, (hpA K (su (su S 14 c 0 1) 15 c 0 v) T th fo)) := (sp_takeOff (rQ hc)).to (wQt hc)
set_option maxHeartbeats 4000000 in
set_option maxRecDepth 100000 in
theorem sA_forget {l : Launch} {G : zGP} {K : Nat} {S T : St} {th : Int32} {fo : Nat → Int64} {c : Nat} (hc : c < 3) : Rn l G m_Rq_forget [.ref (pC c + 7)] (hpA K S T th fo) (.inl none, (hpA K (su (su S 12 c 0 0) 14 c 0 0) T th fo)) := (sp_forget (rQ hc)).to (wQf hc)
set_option maxHeartbeats 4000000 in
set_option maxRecDepth 100000 in
theorem sA_goTo {l : Launch} {G : zGP} {K : Nat} {S T : St} {th : Int32} {fo : Nat → Int64} {c : Nat} (hc : c < 3) {p : Int32} : Rn l G m_B_goTo [.ref (pC c), .int p] (hpA K S T th fo) (.inl (some (.int 1)), (hpA K (su S 5 c 0 p) T th fo)) := by
  refine Rn.of (by decide) rfl rfl (Nat.le_of_ble_eq_true rfl) rfl ?_
  show Ev l G m_B_goTo 0 [.ref (pC c), .int p] [] (hpA K S T th fo) 0 0 _
  refine e_aload_n (pc := 0) d_B_goTo_0 rfl ?_
  refine e_iload_n (pc := 1) d_B_goTo_1 rfl ?_
  refine e_put (pc := 2) s_B_goTo_2 (rC hc) (Nat.le_of_ble_eq_true rfl) zFit.int (wAt hc) ?_
  refine e_iconst (pc := 5) (v := 1) d_B_goTo_5 (by decide) ?_
  exact e_iret (pc := 6) d_B_goTo_6 rfl rfl (Nat.le_of_ble_eq_true rfl) (Nat.le_of_ble_eq_true rfl) rfl
def askS (S : St) (c : Nat) (k x : Int32) : St := if S 12 c 0 = 0 then su (su S 12 c 0 k) 13 c 0 x else S
set_option maxHeartbeats 4000000 in
set_option maxRecDepth 100000 in
theorem sA_ask {l : Launch} {G : zGP} {K : Nat} {S T : St} {th : Int32} {fo : Nat → Int64} {c : Nat} (hc : c < 3) {k x : Int32} : Rn l G m_B_ask [.ref (pC c), .int k, .int x] (hpA K S T th fo) (.inl (some (.int 0)), (hpA K (askS S c k x) T th fo)) := by
  refine Rn.of (by decide) rfl rfl (Nat.le_of_ble_eq_true rfl) rfl ?_
  show Ev l G m_B_ask 0 [.ref (pC c), .int k, .int x] [] (hpA K S T th fo) 0 0 _
  refine e_aload_n (pc := 0) d_B_ask_0 rfl ?_
  refine e_get (pc := 1) s_B_ask_1 (rC hc) rfl ?_
  refine e_get (pc := 4) s_B_ask_4 (rQ hc) rfl ?_
  refine e_if_ne (pc := 7) (tgt := 19) d_B_ask_7 (by decide) (fun h8 => ?_) (fun h8 => ?_)
  · refine e_iconst (pc := 19) (v := 0) d_B_ask_19 (by decide) ?_
    exact e_iret (pc := 20) d_B_ask_20 rfl rfl (Nat.le_of_ble_eq_true rfl) (Nat.le_of_ble_eq_true rfl) (by simp [askS, h8])
  · refine e_aload_n (pc := 10) d_B_ask_10 rfl ?_
    refine e_get (pc := 11) s_B_ask_11 (rC hc) rfl ?_
    refine e_iload_n (pc := 14) d_B_ask_14 rfl ?_
    refine e_iload_n (pc := 15) d_B_ask_15 rfl ?_
    refine e_cV2 (pc := 16) s_B_ask_16 (sA_begin hc) (rQ hc) rfl rfl (Nat.le_of_ble_eq_true rfl) (Nat.le_of_ble_eq_true rfl) (Nat.le_of_ble_eq_true rfl) (zGo.n ?_)
    refine e_iconst (pc := 19) (v := 0) d_B_ask_19 (by decide) ?_
    exact e_iret (pc := 20) d_B_ask_20 rfl rfl (Nat.le_of_ble_eq_true rfl) (Nat.le_of_ble_eq_true rfl) (by simp [askS, h8])
set_option maxHeartbeats 4000000 in
set_option maxRecDepth 100000 in
theorem sA_append {l : Launch} {G : zGP} {K : Nat} {S T : St} {th : Int32} {fo : Nat → Int64} {c n : Nat} {op a b : Int32} (hc : c < 3) (hn : n < 16) (h1 : S 1 c 0 = nI n) : Rn l G m_Pr_append [.ref (pC c + 2), .int op, .int a, .int b] (hpA K S T th fo) (.inl none, (hpA K (su (su (su (su S 2 c n op) 3 c n a) 4 c n b) 1 c 0 (nI n + 1)) T th fo)) := by
  refine Rn.of (by decide) rfl rfl (Nat.le_of_ble_eq_true rfl) rfl ?_
  show Ev l G m_Pr_append 0 [.ref (pC c + 2), .int op, .int a, .int b] [] (hpA K S T th fo) 0 0 _
  refine e_aload_n (pc := 0) d_Pr_append_0 rfl ?_
  refine e_get (pc := 1) s_Pr_append_1 (rPr hc) rfl ?_
  refine e_aload_n (pc := 4) d_Pr_append_4 rfl ?_
  refine e_get (pc := 5) s_Pr_append_5 (rPr hc) rfl ?_
  refine e_topi (y := nI n) h1 ?_
  refine e_iload_n (pc := 8) d_Pr_append_8 rfl ?_
  refine e_iast (pc := 9) d_Pr_append_9 (rOp hc) (vp_in_nI (by omega) (by decide)) (wOp hc (nI_clamp (by omega))) ?_
  refine e_aload_n (pc := 10) d_Pr_append_10 rfl ?_
  refine e_get (pc := 11) s_Pr_append_11 (rPr hc) rfl ?_
  refine e_aload_n (pc := 14) d_Pr_append_14 rfl ?_
  refine e_get (pc := 15) s_Pr_append_15 (rPr hc) rfl ?_
  refine e_topi (y := nI n) h1 ?_
  refine e_iload_n (pc := 18) d_Pr_append_18 rfl ?_
  refine e_iast (pc := 19) d_Pr_append_19 (rAs hc) (vp_in_nI (by omega) (by decide)) (wAs hc (nI_clamp (by omega))) ?_
  refine e_aload_n (pc := 20) d_Pr_append_20 rfl ?_
  refine e_get (pc := 21) s_Pr_append_21 (rPr hc) rfl ?_
  refine e_aload_n (pc := 24) d_Pr_append_24 rfl ?_
  refine e_get (pc := 25) s_Pr_append_25 (rPr hc) rfl ?_
  refine e_topi (y := nI n) h1 ?_
  refine e_iload_n (pc := 28) d_Pr_append_28 rfl ?_
  refine e_iast (pc := 29) d_Pr_append_29 (rBs hc) (vp_in_nI (by omega) (by decide)) (wBs hc (nI_clamp (by omega))) ?_
  refine e_aload_n (pc := 30) d_Pr_append_30 rfl ?_
  refine e_dup (pc := 31) d_Pr_append_31 rfl ?_
  refine e_get (pc := 32) s_Pr_append_32 (rPr hc) rfl ?_
  refine e_topi (y := nI n) h1 ?_
  refine e_iconst (pc := 35) (v := 1) d_Pr_append_35 (by decide) ?_
  refine e_iadd (pc := 36) d_Pr_append_36 ?_
  refine e_put (pc := 37) s_Pr_append_37 (rPr hc) (Nat.le_of_ble_eq_true rfl) zFit.int (wLen hc) ?_
  exact e_vret (pc := 40) d_Pr_append_40 rfl (Nat.le_of_ble_eq_true rfl) (Nat.le_of_ble_eq_true rfl) rfl
set_option maxHeartbeats 4000000 in
set_option maxRecDepth 100000 in
theorem sA_isFull {l : Launch} {G : zGP} {K : Nat} {S T : St} {th : Int32} {fo : Nat → Int64} {c : Nat} (hc : c < 3) : Rn l G m_Sb_isFull [.ref (pC c + 8)] (hpA K S T th fo) (.inl (some (.int (if S 6 c 0 = Int32.ofNat K then 1 else 0))), (hpA K S T th fo)) := by
  refine Rn.of (by decide) rfl rfl (Nat.le_of_ble_eq_true rfl) rfl ?_
  show Ev l G m_Sb_isFull 0 [.ref (pC c + 8)] [] (hpA K S T th fo) 0 0 _
  refine e_aload_n (pc := 0) d_Sb_isFull_0 rfl ?_
  refine e_get (pc := 1) s_Sb_isFull_1 (rB hc) rfl ?_
  refine e_aload_n (pc := 4) d_Sb_isFull_4 rfl ?_
  refine e_get (pc := 5) s_Sb_isFull_5 (rB hc) rfl ?_
  refine e_alen (pc := 8) d_Sb_isFull_8 (rBa hc) rfl rfl ?_
  refine e_icmp_ne (pc := 9) (tgt := 16) d_Sb_isFull_9 (by decide) (fun h9 => ?_) (fun h9 => ?_)
  · refine e_iconst (pc := 16) (v := 0) d_Sb_isFull_16 (by decide) ?_
    exact e_iret (pc := 17) d_Sb_isFull_17 rfl (by decide) (Nat.le_of_ble_eq_true rfl) (Nat.le_of_ble_eq_true rfl) (by simp [h9])
  · refine e_iconst (pc := 12) (v := 1) d_Sb_isFull_12 (by decide) ?_
    refine e_goto (pc := 13) (tgt := 17) d_Sb_isFull_13 (by decide) ?_
    exact e_iret (pc := 17) d_Sb_isFull_17 rfl (by decide) (Nat.le_of_ble_eq_true rfl) (Nat.le_of_ble_eq_true rfl) (by simp [h9])
set_option maxHeartbeats 4000000 in
set_option maxRecDepth 100000 in
theorem sA_bappend {l : Launch} {G : zGP} {K : Nat} {S T : St} {th : Int32} {fo : Nat → Int64} {c n : Nat} {x v : Int32} (hc : c < 3) (hn : n < K) (hK : K ≤ 4) (h6 : S 6 c 0 = nI n) : Rn l G m_Sb_append [.ref (pC c + 8), .int x, .int v] (hpA K S T th fo) (.inl none, (hpA K (su (su (su S 7 c n x) 8 c n v) 6 c 0 (nI n + 1)) T th fo)) := by
  refine Rn.of (by decide) rfl rfl (Nat.le_of_ble_eq_true rfl) rfl ?_
  show Ev l G m_Sb_append 0 [.ref (pC c + 8), .int x, .int v] [] (hpA K S T th fo) 0 0 _
  refine e_aload_n (pc := 0) d_Sb_append_0 rfl ?_
  refine e_get (pc := 1) s_Sb_append_1 (rB hc) rfl ?_
  refine e_aload_n (pc := 4) d_Sb_append_4 rfl ?_
  refine e_get (pc := 5) s_Sb_append_5 (rB hc) rfl ?_
  refine e_topi (y := nI n) h6 ?_
  refine e_iload_n (pc := 8) d_Sb_append_8 rfl ?_
  refine e_iast (pc := 9) d_Sb_append_9 (rBa hc) (vp_in_nI (by omega) (by omega)) (wBa hc (nI_clamp (by omega))) ?_
  refine e_aload_n (pc := 10) d_Sb_append_10 rfl ?_
  refine e_get (pc := 11) s_Sb_append_11 (rB hc) rfl ?_
  refine e_aload_n (pc := 14) d_Sb_append_14 rfl ?_
  refine e_get (pc := 15) s_Sb_append_15 (rB hc) rfl ?_
  refine e_topi (y := nI n) h6 ?_
  refine e_iload_n (pc := 18) d_Sb_append_18 rfl ?_
  refine e_iast (pc := 19) d_Sb_append_19 (rBv hc) (vp_in_nI (by omega) (by omega)) (wBv hc (nI_clamp (by omega))) ?_
  refine e_aload_n (pc := 20) d_Sb_append_20 rfl ?_
  refine e_dup (pc := 21) d_Sb_append_21 rfl ?_
  refine e_get (pc := 22) s_Sb_append_22 (rB hc) rfl ?_
  refine e_topi (y := nI n) h6 ?_
  refine e_iconst (pc := 25) (v := 1) d_Sb_append_25 (by decide) ?_
  refine e_iadd (pc := 26) d_Sb_append_26 ?_
  refine e_put (pc := 27) s_Sb_append_27 (rB hc) (Nat.le_of_ble_eq_true rfl) zFit.int (wSz hc) ?_
  exact e_vret (pc := 30) d_Sb_append_30 rfl (Nat.le_of_ble_eq_true rfl) (Nat.le_of_ble_eq_true rfl) rfl
