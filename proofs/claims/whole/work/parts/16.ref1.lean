/-! ===== the reference's private methods ===== -/
theorem fx1 {T : St} {f c : Nat} {i : Int32} (hi : i.toNatClampNeg = c) : T f i.toNatClampNeg 0 = T f c 0 := by rw [hi]
theorem fx2 {T : St} {f c j : Nat} {i : Int32} (hi : i.toNatClampNeg = 2 * c + j) (hj : j < 2) : T f (i.toNatClampNeg / 2) (i.toNatClampNeg % 2) = T f c j := by
  rw [hi, show (2 * c + j) / 2 = c by omega, show (2 * c + j) % 2 = j by omega]
theorem fx4 {T : St} {f c j : Nat} {i : Int32} (hi : i.toNatClampNeg = 4 * c + j) (hj : j < 4) : T f (i.toNatClampNeg / 4) (i.toNatClampNeg % 4) = T f c j := by
  rw [hi, show (4 * c + j) / 4 = c by omega, show (4 * c + j) % 4 = j by omega]
theorem fx16 {T : St} {f c j : Nat} {i : Int32} (hi : i.toNatClampNeg = 16 * c + j) (hj : j < 16) : T f (i.toNatClampNeg / 16) (i.toNatClampNeg % 16) = T f c j := by
  rw [hi, show (16 * c + j) / 16 = c by omega, show (16 * c + j) % 16 = j by omega]
theorem ixM (w c j : Nat) : nI w * nI c + nI j = nI (w * c + j) := by rw [pk_mul, nI_add]
def wdM (T : St) (k : Nat) : Int32 := if hasS T 2 k ∧ T 9 2 (k % 2) = 3 then T 11 2 (k % 2) else if hasS T 1 k ∧ T 9 1 (k % 2) = 3 then T 11 1 (k % 2) else if hasS T 0 k ∧ T 9 0 (k % 2) = 3 then T 11 0 (k % 2) else T 16 0 k
def askM (T : St) (c : Nat) (k x : Int32) : St := if T 12 c 0 = 0 then su (su (su T 12 c 0 k) 13 c 0 x) 14 c 0 0 else T
theorem zN2 {K : Nat} {S T T2 : St} {th : Int32} {fo : Nat → Int64} {q : Option Value ⊕ String} (h : T = T2) : ((q, hpA K S T th fo) : zRes) = (q, hpA K S T2 th fo) := by rw [h]
theorem ownN {T : St} {c k s : Nat} (h : hasS T c k) (hs : s < 4) (h9 : T 9 c (k % 2) = nI s) (hl : T 9 c (k % 2) < 2) : (if ownS T c k then (1 : Int32) else 0) = 0 := by
  refine if_neg (fun q => ?_)
  obtain ⟨⟨q1, -⟩, q2⟩ := q
  rw [h9] at hl q1 q2
  have h1 := (nI_ltI (b := 2) (by omega) (by decide)).mp hl
  rcases (show s = 0 ∨ s = 1 by omega) with rfl | rfl
  · exact q1 rfl
  · exact q2 rfl
theorem ownP {T : St} {c k s : Nat} (h : hasS T c k) (hs : s < 4) (h9 : T 9 c (k % 2) = nI s) (hl : ¬ T 9 c (k % 2) < 2) : (if ownS T c k then (1 : Int32) else 0) = 1 := by
  refine if_pos ⟨h, fun q => hl ?_⟩
  rw [q]; decide
set_option maxHeartbeats 4000000 in
set_option maxRecDepth 100000 in
theorem sM_thrown {l : Launch} {G : zGP} {K : Nat} {S T : St} {th : Int32} {fo : Nat → Int64}  : Rn l G m_M_thrown [.ref 45] (hpA K S T th fo) (.inl (some (.int th)), (hpA K S T th fo)) := by
  refine Rn.of (by decide) rfl rfl (Nat.le_of_ble_eq_true rfl) rfl ?_
  show Ev l G m_M_thrown 0 [.ref 45] [] (hpA K S T th fo) 0 0 _
  refine e_aload_n (pc := 0) d_M_thrown_0 rfl ?_
  refine e_get (pc := 1) s_M_thrown_1 rfl rfl ?_
  exact e_iret (pc := 4) d_M_thrown_4 rfl rfl (Nat.le_of_ble_eq_true rfl) (Nat.le_of_ble_eq_true rfl) rfl
set_option maxHeartbeats 4000000 in
set_option maxRecDepth 100000 in
theorem sM_core {l : Launch} {G : zGP} {K : Nat} {S T : St} {th : Int32} {fo : Nat → Int64} {c : Nat} (hc : c < 3) : Rn l G m_M_core [.ref 45, .int (nI c)] (hpA K S T th fo) (.inl (some (.int 1)), (hpA K S T 0 fo)) := by
  refine Rn.of (by decide) rfl rfl (Nat.le_of_ble_eq_true rfl) rfl ?_
  show Ev l G m_M_core 0 [.ref 45, .int (nI c)] [] (hpA K S T th fo) 0 0 _
  refine e_aload_n (pc := 0) d_M_core_0 rfl ?_
  refine e_iload_n (pc := 1) d_M_core_1 rfl ?_
  refine e_if_lt (pc := 2) (tgt := 14) d_M_core_2 (by decide) (fun h9 => absurd h9 (nI_pos (by omega))) (fun _ => ?_)
  refine e_iload_n (pc := 5) d_M_core_5 rfl ?_
  refine e_iconst (pc := 6) (v := 3) d_M_core_6 (by decide) ?_
  refine e_icmp_ge (pc := 7) (tgt := 14) d_M_core_7 (by decide) (fun h9 => absurd h9 (nI_ge (b := 3) hc (by decide))) (fun _ => ?_)
  refine e_iconst (pc := 10) (v := 0) d_M_core_10 (by decide) ?_
  refine e_goto (pc := 11) (tgt := 15) d_M_core_11 (by decide) ?_
  refine e_put (pc := 15) s_M_core_15 rfl (Nat.le_of_ble_eq_true rfl) zFit.int wTh ?_
  refine e_aload_n (pc := 18) d_M_core_18 rfl ?_
  refine e_get (pc := 19) s_M_core_19 rfl rfl ?_
  refine e_if_ne (pc := 22) (tgt := 29) d_M_core_22 (by decide) (fun h9 => absurd (rfl) h9) (fun _ => ?_)
  refine e_iconst (pc := 25) (v := 1) d_M_core_25 (by decide) ?_
  refine e_goto (pc := 26) (tgt := 30) d_M_core_26 (by decide) ?_
  exact e_iret (pc := 30) d_M_core_30 rfl (by decide) (Nat.le_of_ble_eq_true rfl) (Nat.le_of_ble_eq_true rfl) rfl
set_option maxHeartbeats 4000000 in
set_option maxRecDepth 100000 in
theorem sY_core {l : Launch} {G : zGP} {K : Nat} {S T : St} {th : Int32} {fo : Nat → Int64} {x : Int32} (hx : ¬ (0 ≤ x ∧ x < 3)) : Rn l G m_M_core [.ref 45, .int x] (hpA K S T th fo) (.inl (some (.int 0)), (hpA K S T 1 fo)) := by
  refine Rn.of (by decide) rfl rfl (Nat.le_of_ble_eq_true rfl) rfl ?_
  show Ev l G m_M_core 0 [.ref 45, .int x] [] (hpA K S T th fo) 0 0 _
  refine e_aload_n (pc := 0) d_M_core_0 rfl ?_
  refine e_iload_n (pc := 1) d_M_core_1 rfl ?_
  refine e_if_lt (pc := 2) (tgt := 14) d_M_core_2 (by decide) (fun h1 => ?_) (fun h1 => ?_)
  · refine e_iconst (pc := 14) (v := 1) d_M_core_14 (by decide) ?_
    refine e_put (pc := 15) s_M_core_15 rfl (Nat.le_of_ble_eq_true rfl) zFit.int wTh ?_
    refine e_aload_n (pc := 18) d_M_core_18 rfl ?_
    refine e_get (pc := 19) s_M_core_19 rfl rfl ?_
    refine e_if_ne (pc := 22) (tgt := 29) d_M_core_22 (by decide) (fun _ => ?_) (fun h9 => absurd h9 (by decide))
    refine e_iconst (pc := 29) (v := 0) d_M_core_29 (by decide) ?_
    exact e_iret (pc := 30) d_M_core_30 rfl (by decide) (Nat.le_of_ble_eq_true rfl) (Nat.le_of_ble_eq_true rfl) (by simp [h1])
  · refine e_iload_n (pc := 5) d_M_core_5 rfl ?_
    refine e_iconst (pc := 6) (v := 3) d_M_core_6 (by decide) ?_
    refine e_icmp_ge (pc := 7) (tgt := 14) d_M_core_7 (by decide) (fun h2 => ?_) (fun h2 => ?_)
    · refine e_iconst (pc := 14) (v := 1) d_M_core_14 (by decide) ?_
      refine e_put (pc := 15) s_M_core_15 rfl (Nat.le_of_ble_eq_true rfl) zFit.int wTh ?_
      refine e_aload_n (pc := 18) d_M_core_18 rfl ?_
      refine e_get (pc := 19) s_M_core_19 rfl rfl ?_
      refine e_if_ne (pc := 22) (tgt := 29) d_M_core_22 (by decide) (fun _ => ?_) (fun h9 => absurd h9 (by decide))
      refine e_iconst (pc := 29) (v := 0) d_M_core_29 (by decide) ?_
      exact e_iret (pc := 30) d_M_core_30 rfl (by decide) (Nat.le_of_ble_eq_true rfl) (Nat.le_of_ble_eq_true rfl) (by simp [h1, h2])
    · exact absurd ⟨Int32.not_lt.mp (by assumption), Int32.not_le.mp (by assumption)⟩ hx
set_option maxHeartbeats 4000000 in
set_option maxRecDepth 100000 in
theorem sM_lineOf {l : Launch} {G : zGP} {K : Nat} {S T : St} {th : Int32} {fo : Nat → Int64} {c k : Nat} (hc : c < 3) (hk : k < 8) : Rn l G m_M_lineOf [.ref 45, .int (nI c), .int (nI k)] (hpA K S T th fo) (.inl (some (.int (nI (2 * c + k % 2)))), (hpA K S T th fo)) := by
  refine Rn.of (by decide) rfl rfl (Nat.le_of_ble_eq_true rfl) rfl ?_
  show Ev l G m_M_lineOf 0 [.ref 45, .int (nI c), .int (nI k)] [] (hpA K S T th fo) 0 0 _
  refine e_iconst (pc := 0) (v := 2) d_M_lineOf_0 (by decide) ?_
  refine e_iload_n (pc := 1) d_M_lineOf_1 rfl ?_
  refine e_imul (pc := 2) d_M_lineOf_2 ?_
  refine e_iload_n (pc := 3) d_M_lineOf_3 rfl ?_
  refine e_iconst (pc := 4) (v := 2) d_M_lineOf_4 (by decide) ?_
  refine e_irem (pc := 5) d_M_lineOf_5 (by decide) ?_
  refine e_topi (y := nI (k % 2)) (pk_rem (by omega) (by decide) (by decide)) ?_
  refine e_iadd (pc := 6) d_M_lineOf_6 ?_
  refine e_topi (y := nI (2 * c + k % 2)) (ixM 2 c _) ?_
  exact e_iret (pc := 7) d_M_lineOf_7 rfl rfl (Nat.le_of_ble_eq_true rfl) (Nat.le_of_ble_eq_true rfl) rfl
set_option maxHeartbeats 4000000 in
set_option maxRecDepth 100000 in
theorem sM_has {l : Launch} {G : zGP} {K : Nat} {S T : St} {th : Int32} {fo : Nat → Int64} {c k : Nat} (hc : c < 3) (hk : k < 8) : Rn l G m_M_has [.ref 45, .int (nI c), .int (nI k)] (hpA K S T th fo) (.inl (some (.int (if hasS T c k then 1 else 0))), (hpA K S T th fo)) := by
  refine Rn.of (by decide) rfl rfl (Nat.le_of_ble_eq_true rfl) rfl ?_
  show Ev l G m_M_has 0 [.ref 45, .int (nI c), .int (nI k), .double 0] [] (hpA K S T th fo) 0 0 _
  refine e_aload_n (pc := 0) d_M_has_0 rfl ?_
  refine e_iload_n (pc := 1) d_M_has_1 rfl ?_
  refine e_iload_n (pc := 2) d_M_has_2 rfl ?_
  refine e_cV2 (pc := 3) s_M_has_3 (sM_lineOf hc hk) rfl rfl rfl (Nat.le_of_ble_eq_true rfl) (Nat.le_of_ble_eq_true rfl) (Nat.le_of_ble_eq_true rfl) (zGo.v ?_)
  refine e_istore_n (pc := 6) d_M_has_6 (Nat.le_of_ble_eq_true rfl) ?_
  dsimp only [List.set]
  refine e_aload_n (pc := 7) d_M_has_7 rfl ?_
  refine e_get (pc := 8) s_M_has_8 rfl rfl ?_
  refine e_iload_n (pc := 11) d_M_has_11 rfl ?_
  refine e_iald (pc := 12) d_M_has_12 rfl (vp_in_nI (by omega) (by decide)) (fx2 (nI_clamp (by omega)) (Nat.mod_lt _ (by decide))) ?_
  refine e_if_eq (pc := 13) (tgt := 30) d_M_has_13 (by decide) (fun h3 => ?_) (fun h3 => ?_)
  · refine e_iconst (pc := 30) (v := 0) d_M_has_30 (by decide) ?_
    exact e_iret (pc := 31) d_M_has_31 rfl (by decide) (Nat.le_of_ble_eq_true rfl) (Nat.le_of_ble_eq_true rfl) (zR (by simp [hasS, h3]))
  · refine e_aload_n (pc := 16) d_M_has_16 rfl ?_
    refine e_get (pc := 17) s_M_has_17 rfl rfl ?_
    refine e_iload_n (pc := 20) d_M_has_20 rfl ?_
    refine e_iald (pc := 21) d_M_has_21 rfl (vp_in_nI (by omega) (by decide)) (fx2 (nI_clamp (by omega)) (Nat.mod_lt _ (by decide))) ?_
    refine e_iload_n (pc := 22) d_M_has_22 rfl ?_
    refine e_icmp_ne (pc := 23) (tgt := 30) d_M_has_23 (by decide) (fun h4 => ?_) (fun h4 => ?_)
    · refine e_iconst (pc := 30) (v := 0) d_M_has_30 (by decide) ?_
      exact e_iret (pc := 31) d_M_has_31 rfl (by decide) (Nat.le_of_ble_eq_true rfl) (Nat.le_of_ble_eq_true rfl) (zR (by simp [hasS, h3, h4]))
    · refine e_iconst (pc := 26) (v := 1) d_M_has_26 (by decide) ?_
      refine e_goto (pc := 27) (tgt := 31) d_M_has_27 (by decide) ?_
      exact e_iret (pc := 31) d_M_has_31 rfl (by decide) (Nat.le_of_ble_eq_true rfl) (Nat.le_of_ble_eq_true rfl) (zR (by simp [hasS, h3, h4]))
set_option maxHeartbeats 4000000 in
set_option maxRecDepth 100000 in
theorem sM_owns {l : Launch} {G : zGP} {K : Nat} {S T : St} {th : Int32} {fo : Nat → Int64} {c k : Nat} (hc : c < 3) (hk : k < 8) {s : Nat} (hs : s < 4) (h9 : T 9 c (k % 2) = nI s) : Rn l G m_M_owns [.ref 45, .int (nI c), .int (nI k)] (hpA K S T th fo) (.inl (some (.int (if ownS T c k then 1 else 0))), (hpA K S T th fo)) := by
  refine Rn.of (by decide) rfl rfl (Nat.le_of_ble_eq_true rfl) rfl ?_
  show Ev l G m_M_owns 0 [.ref 45, .int (nI c), .int (nI k)] [] (hpA K S T th fo) 0 0 _
  refine e_aload_n (pc := 0) d_M_owns_0 rfl ?_
  refine e_iload_n (pc := 1) d_M_owns_1 rfl ?_
  refine e_iload_n (pc := 2) d_M_owns_2 rfl ?_
  refine e_cV2 (pc := 3) s_M_owns_3 (sM_has hc hk) rfl rfl rfl (Nat.le_of_ble_eq_true rfl) (Nat.le_of_ble_eq_true rfl) (Nat.le_of_ble_eq_true rfl) (zGo.v ?_)
  refine e_if_eq (pc := 6) (tgt := 28) d_M_owns_6 (by decide) (fun h5 => ?_) (fun h5 => ?_)
  · replace h5 := b0.mp h5
    refine e_iconst (pc := 28) (v := 0) d_M_owns_28 (by decide) ?_
    exact e_iret (pc := 29) d_M_owns_29 rfl (by decide) (Nat.le_of_ble_eq_true rfl) (Nat.le_of_ble_eq_true rfl) (zR (if_neg (fun q => h5 q.1)))
  · replace h5 := b1.mp h5
    refine e_aload_n (pc := 9) d_M_owns_9 rfl ?_
    refine e_get (pc := 10) s_M_owns_10 rfl rfl ?_
    refine e_aload_n (pc := 13) d_M_owns_13 rfl ?_
    refine e_iload_n (pc := 14) d_M_owns_14 rfl ?_
    refine e_iload_n (pc := 15) d_M_owns_15 rfl ?_
    refine e_cV2 (pc := 16) s_M_owns_16 (sM_lineOf hc hk) rfl rfl rfl (Nat.le_of_ble_eq_true rfl) (Nat.le_of_ble_eq_true rfl) (Nat.le_of_ble_eq_true rfl) (zGo.v ?_)
    refine e_iald (pc := 19) d_M_owns_19 rfl (vp_in_nI (by omega) (by decide)) (fx2 (nI_clamp (by omega)) (Nat.mod_lt _ (by decide))) ?_
    refine e_iconst (pc := 20) (v := 2) d_M_owns_20 (by decide) ?_
    refine e_icmp_lt (pc := 21) (tgt := 28) d_M_owns_21 (by decide) (fun h6 => ?_) (fun h6 => ?_)
    · refine e_iconst (pc := 28) (v := 0) d_M_owns_28 (by decide) ?_
      exact e_iret (pc := 29) d_M_owns_29 rfl (by decide) (Nat.le_of_ble_eq_true rfl) (Nat.le_of_ble_eq_true rfl) (zR (ownN h5 hs h9 h6))
    · refine e_iconst (pc := 24) (v := 1) d_M_owns_24 (by decide) ?_
      refine e_goto (pc := 25) (tgt := 29) d_M_owns_25 (by decide) ?_
      exact e_iret (pc := 29) d_M_owns_29 rfl (by decide) (Nat.le_of_ble_eq_true rfl) (Nat.le_of_ble_eq_true rfl) (zR (ownP h5 hs h9 h6))
set_option maxHeartbeats 4000000 in
set_option maxRecDepth 100000 in
theorem sM_wordAt {l : Launch} {G : zGP} {K : Nat} {S T : St} {th : Int32} {fo : Nat → Int64} {k : Nat} (hk : k < 8) : Rn l G m_M_wordAt [.ref 45, .int (nI k)] (hpA K S T th fo) (.inl (some (.int (wdM T k))), (hpA K S T th fo)) := by
  refine Rn.of (by decide) rfl rfl (Nat.le_of_ble_eq_true rfl) rfl ?_
  show Ev l G m_M_wordAt 0 [.ref 45, .int (nI k), .double 0, .double 0] [] (hpA K S T th fo) 0 0 _
  refine e_aload_n (pc := 0) d_M_wordAt_0 rfl ?_
  refine e_get (pc := 1) s_M_wordAt_1 rfl rfl ?_
  refine e_iload_n (pc := 4) d_M_wordAt_4 rfl ?_
  refine e_iald (pc := 5) d_M_wordAt_5 rfl (vp_in_nI hk (by decide)) (ixf (nI_clamp (by omega))) ?_
  refine e_istore_n (pc := 6) d_M_wordAt_6 (Nat.le_of_ble_eq_true rfl) ?_
  dsimp only [List.set]
  refine e_iconst (pc := 7) (v := 0) d_M_wordAt_7 (by decide) ?_
  refine e_istore_n (pc := 8) d_M_wordAt_8 (Nat.le_of_ble_eq_true rfl) ?_
  dsimp only [List.set]
  refine e_iload_n (pc := 9) d_M_wordAt_9 rfl ?_
  refine e_iconst (pc := 10) (v := 3) d_M_wordAt_10 (by decide) ?_
  refine e_icmp_ge (pc := 11) (tgt := 60) d_M_wordAt_11 (by decide) (fun h9 => absurd h9 (by decide)) (fun _ => ?_)
  refine e_aload_n (pc := 14) d_M_wordAt_14 rfl ?_
  refine e_iload_n (pc := 15) d_M_wordAt_15 rfl ?_
  refine e_topi (y := nI 0) (by decide) ?_
  refine e_iload_n (pc := 16) d_M_wordAt_16 rfl ?_
  refine e_cV2 (pc := 17) s_M_wordAt_17 (sM_has (c := 0) (by decide) hk) rfl rfl rfl (Nat.le_of_ble_eq_true rfl) (Nat.le_of_ble_eq_true rfl) (Nat.le_of_ble_eq_true rfl) (zGo.v ?_)
  refine e_if_eq (pc := 20) (tgt := 52) d_M_wordAt_20 (by decide) (fun h7 => ?_) (fun h7 => ?_)
  · replace h7 := b0.mp h7
    refine e_iload_n (pc := 52) d_M_wordAt_52 rfl ?_
    refine e_istore_n (pc := 53) d_M_wordAt_53 (Nat.le_of_ble_eq_true rfl) ?_
    dsimp only [List.set]
    refine e_iinc (pc := 54) d_M_wordAt_54 rfl (Nat.le_of_ble_eq_true rfl) ?_
    dsimp only [List.set]
    refine e_goto (pc := 57) (tgt := 9) d_M_wordAt_57 (by decide) ?_
    refine e_iload_n (pc := 9) d_M_wordAt_9 rfl ?_
    refine e_iconst (pc := 10) (v := 3) d_M_wordAt_10 (by decide) ?_
    refine e_icmp_ge (pc := 11) (tgt := 60) d_M_wordAt_11 (by decide) (fun h9 => absurd h9 (by decide)) (fun _ => ?_)
    refine e_aload_n (pc := 14) d_M_wordAt_14 rfl ?_
    refine e_iload_n (pc := 15) d_M_wordAt_15 rfl ?_
    refine e_topi (y := nI 1) (by decide) ?_
    refine e_iload_n (pc := 16) d_M_wordAt_16 rfl ?_
    refine e_cV2 (pc := 17) s_M_wordAt_17 (sM_has (c := 1) (by decide) hk) rfl rfl rfl (Nat.le_of_ble_eq_true rfl) (Nat.le_of_ble_eq_true rfl) (Nat.le_of_ble_eq_true rfl) (zGo.v ?_)
    refine e_if_eq (pc := 20) (tgt := 52) d_M_wordAt_20 (by decide) (fun h8 => ?_) (fun h8 => ?_)
    · replace h8 := b0.mp h8
      refine e_iload_n (pc := 52) d_M_wordAt_52 rfl ?_
      refine e_istore_n (pc := 53) d_M_wordAt_53 (Nat.le_of_ble_eq_true rfl) ?_
      dsimp only [List.set]
      refine e_iinc (pc := 54) d_M_wordAt_54 rfl (Nat.le_of_ble_eq_true rfl) ?_
      dsimp only [List.set]
      refine e_goto (pc := 57) (tgt := 9) d_M_wordAt_57 (by decide) ?_
      refine e_iload_n (pc := 9) d_M_wordAt_9 rfl ?_
      refine e_iconst (pc := 10) (v := 3) d_M_wordAt_10 (by decide) ?_
      refine e_icmp_ge (pc := 11) (tgt := 60) d_M_wordAt_11 (by decide) (fun h9 => absurd h9 (by decide)) (fun _ => ?_)
      refine e_aload_n (pc := 14) d_M_wordAt_14 rfl ?_
      refine e_iload_n (pc := 15) d_M_wordAt_15 rfl ?_
      refine e_topi (y := nI 2) (by decide) ?_
      refine e_iload_n (pc := 16) d_M_wordAt_16 rfl ?_
      refine e_cV2 (pc := 17) s_M_wordAt_17 (sM_has (c := 2) (by decide) hk) rfl rfl rfl (Nat.le_of_ble_eq_true rfl) (Nat.le_of_ble_eq_true rfl) (Nat.le_of_ble_eq_true rfl) (zGo.v ?_)
      refine e_if_eq (pc := 20) (tgt := 52) d_M_wordAt_20 (by decide) (fun h9 => ?_) (fun h9 => ?_)
      · replace h9 := b0.mp h9
        refine e_iload_n (pc := 52) d_M_wordAt_52 rfl ?_
        refine e_istore_n (pc := 53) d_M_wordAt_53 (Nat.le_of_ble_eq_true rfl) ?_
        dsimp only [List.set]
        refine e_iinc (pc := 54) d_M_wordAt_54 rfl (Nat.le_of_ble_eq_true rfl) ?_
        dsimp only [List.set]
        refine e_goto (pc := 57) (tgt := 9) d_M_wordAt_57 (by decide) ?_
        refine e_iload_n (pc := 9) d_M_wordAt_9 rfl ?_
        refine e_iconst (pc := 10) (v := 3) d_M_wordAt_10 (by decide) ?_
        refine e_icmp_ge (pc := 11) (tgt := 60) d_M_wordAt_11 (by decide) (fun _ => ?_) (fun h9 => absurd (by decide) h9)
        refine e_iload_n (pc := 60) d_M_wordAt_60 rfl ?_
        exact e_iret (pc := 61) d_M_wordAt_61 rfl rfl (Nat.le_of_ble_eq_true rfl) (Nat.le_of_ble_eq_true rfl) (zR (by simp [wdM, hasS, h7, h8, h9]))
      · replace h9 := b1.mp h9
        refine e_aload_n (pc := 23) d_M_wordAt_23 rfl ?_
        refine e_get (pc := 24) s_M_wordAt_24 rfl rfl ?_
        refine e_aload_n (pc := 27) d_M_wordAt_27 rfl ?_
        refine e_iload_n (pc := 28) d_M_wordAt_28 rfl ?_
        refine e_topi (y := nI 2) (by decide) ?_
        refine e_iload_n (pc := 29) d_M_wordAt_29 rfl ?_
        refine e_cV2 (pc := 30) s_M_wordAt_30 (sM_lineOf (c := 2) (by decide) hk) rfl rfl rfl (Nat.le_of_ble_eq_true rfl) (Nat.le_of_ble_eq_true rfl) (Nat.le_of_ble_eq_true rfl) (zGo.v ?_)
        refine e_iald (pc := 33) d_M_wordAt_33 rfl (vp_in_nI (by omega) (by decide)) (fx2 (c := 2) (nI_clamp (by omega)) (Nat.mod_lt _ (by decide))) ?_
        refine e_iconst (pc := 34) (v := 3) d_M_wordAt_34 (by decide) ?_
        refine e_icmp_ne (pc := 35) (tgt := 52) d_M_wordAt_35 (by decide) (fun h10 => ?_) (fun h10 => ?_)
        · refine e_iload_n (pc := 52) d_M_wordAt_52 rfl ?_
          refine e_istore_n (pc := 53) d_M_wordAt_53 (Nat.le_of_ble_eq_true rfl) ?_
          dsimp only [List.set]
          refine e_iinc (pc := 54) d_M_wordAt_54 rfl (Nat.le_of_ble_eq_true rfl) ?_
          dsimp only [List.set]
          refine e_goto (pc := 57) (tgt := 9) d_M_wordAt_57 (by decide) ?_
          refine e_iload_n (pc := 9) d_M_wordAt_9 rfl ?_
          refine e_iconst (pc := 10) (v := 3) d_M_wordAt_10 (by decide) ?_
          refine e_icmp_ge (pc := 11) (tgt := 60) d_M_wordAt_11 (by decide) (fun _ => ?_) (fun h9 => absurd (by decide) h9)
          refine e_iload_n (pc := 60) d_M_wordAt_60 rfl ?_
          exact e_iret (pc := 61) d_M_wordAt_61 rfl rfl (Nat.le_of_ble_eq_true rfl) (Nat.le_of_ble_eq_true rfl) (zR (by simp [wdM, hasS, h7, h8, h9, h10]))
        · refine e_aload_n (pc := 38) d_M_wordAt_38 rfl ?_
          refine e_get (pc := 39) s_M_wordAt_39 rfl rfl ?_
          refine e_aload_n (pc := 42) d_M_wordAt_42 rfl ?_
          refine e_iload_n (pc := 43) d_M_wordAt_43 rfl ?_
          refine e_topi (y := nI 2) (by decide) ?_
          refine e_iload_n (pc := 44) d_M_wordAt_44 rfl ?_
          refine e_cV2 (pc := 45) s_M_wordAt_45 (sM_lineOf (c := 2) (by decide) hk) rfl rfl rfl (Nat.le_of_ble_eq_true rfl) (Nat.le_of_ble_eq_true rfl) (Nat.le_of_ble_eq_true rfl) (zGo.v ?_)
          refine e_iald (pc := 48) d_M_wordAt_48 rfl (vp_in_nI (by omega) (by decide)) (fx2 (c := 2) (nI_clamp (by omega)) (Nat.mod_lt _ (by decide))) ?_
          refine e_goto (pc := 49) (tgt := 53) d_M_wordAt_49 (by decide) ?_
          refine e_istore_n (pc := 53) d_M_wordAt_53 (Nat.le_of_ble_eq_true rfl) ?_
          dsimp only [List.set]
          refine e_iinc (pc := 54) d_M_wordAt_54 rfl (Nat.le_of_ble_eq_true rfl) ?_
          dsimp only [List.set]
          refine e_goto (pc := 57) (tgt := 9) d_M_wordAt_57 (by decide) ?_
          refine e_iload_n (pc := 9) d_M_wordAt_9 rfl ?_
          refine e_iconst (pc := 10) (v := 3) d_M_wordAt_10 (by decide) ?_
          refine e_icmp_ge (pc := 11) (tgt := 60) d_M_wordAt_11 (by decide) (fun _ => ?_) (fun h9 => absurd (by decide) h9)
          refine e_iload_n (pc := 60) d_M_wordAt_60 rfl ?_
          exact e_iret (pc := 61) d_M_wordAt_61 rfl rfl (Nat.le_of_ble_eq_true rfl) (Nat.le_of_ble_eq_true rfl) (zR (by simp [wdM, hasS, h7, h8, h9, h10]))
    · replace h8 := b1.mp h8
      refine e_aload_n (pc := 23) d_M_wordAt_23 rfl ?_
      refine e_get (pc := 24) s_M_wordAt_24 rfl rfl ?_
      refine e_aload_n (pc := 27) d_M_wordAt_27 rfl ?_
      refine e_iload_n (pc := 28) d_M_wordAt_28 rfl ?_
      refine e_topi (y := nI 1) (by decide) ?_
      refine e_iload_n (pc := 29) d_M_wordAt_29 rfl ?_
      refine e_cV2 (pc := 30) s_M_wordAt_30 (sM_lineOf (c := 1) (by decide) hk) rfl rfl rfl (Nat.le_of_ble_eq_true rfl) (Nat.le_of_ble_eq_true rfl) (Nat.le_of_ble_eq_true rfl) (zGo.v ?_)
      refine e_iald (pc := 33) d_M_wordAt_33 rfl (vp_in_nI (by omega) (by decide)) (fx2 (c := 1) (nI_clamp (by omega)) (Nat.mod_lt _ (by decide))) ?_
      refine e_iconst (pc := 34) (v := 3) d_M_wordAt_34 (by decide) ?_
      refine e_icmp_ne (pc := 35) (tgt := 52) d_M_wordAt_35 (by decide) (fun h11 => ?_) (fun h11 => ?_)
      · refine e_iload_n (pc := 52) d_M_wordAt_52 rfl ?_
        refine e_istore_n (pc := 53) d_M_wordAt_53 (Nat.le_of_ble_eq_true rfl) ?_
        dsimp only [List.set]
        refine e_iinc (pc := 54) d_M_wordAt_54 rfl (Nat.le_of_ble_eq_true rfl) ?_
        dsimp only [List.set]
        refine e_goto (pc := 57) (tgt := 9) d_M_wordAt_57 (by decide) ?_
        refine e_iload_n (pc := 9) d_M_wordAt_9 rfl ?_
        refine e_iconst (pc := 10) (v := 3) d_M_wordAt_10 (by decide) ?_
        refine e_icmp_ge (pc := 11) (tgt := 60) d_M_wordAt_11 (by decide) (fun h9 => absurd h9 (by decide)) (fun _ => ?_)
        refine e_aload_n (pc := 14) d_M_wordAt_14 rfl ?_
        refine e_iload_n (pc := 15) d_M_wordAt_15 rfl ?_
        refine e_topi (y := nI 2) (by decide) ?_
        refine e_iload_n (pc := 16) d_M_wordAt_16 rfl ?_
        refine e_cV2 (pc := 17) s_M_wordAt_17 (sM_has (c := 2) (by decide) hk) rfl rfl rfl (Nat.le_of_ble_eq_true rfl) (Nat.le_of_ble_eq_true rfl) (Nat.le_of_ble_eq_true rfl) (zGo.v ?_)
        refine e_if_eq (pc := 20) (tgt := 52) d_M_wordAt_20 (by decide) (fun h12 => ?_) (fun h12 => ?_)
        · replace h12 := b0.mp h12
          refine e_iload_n (pc := 52) d_M_wordAt_52 rfl ?_
          refine e_istore_n (pc := 53) d_M_wordAt_53 (Nat.le_of_ble_eq_true rfl) ?_
          dsimp only [List.set]
          refine e_iinc (pc := 54) d_M_wordAt_54 rfl (Nat.le_of_ble_eq_true rfl) ?_
          dsimp only [List.set]
          refine e_goto (pc := 57) (tgt := 9) d_M_wordAt_57 (by decide) ?_
          refine e_iload_n (pc := 9) d_M_wordAt_9 rfl ?_
          refine e_iconst (pc := 10) (v := 3) d_M_wordAt_10 (by decide) ?_
          refine e_icmp_ge (pc := 11) (tgt := 60) d_M_wordAt_11 (by decide) (fun _ => ?_) (fun h9 => absurd (by decide) h9)
          refine e_iload_n (pc := 60) d_M_wordAt_60 rfl ?_
          exact e_iret (pc := 61) d_M_wordAt_61 rfl rfl (Nat.le_of_ble_eq_true rfl) (Nat.le_of_ble_eq_true rfl) (zR (by simp [wdM, hasS, h7, h8, h11, h12]))
        · replace h12 := b1.mp h12
          refine e_aload_n (pc := 23) d_M_wordAt_23 rfl ?_
          refine e_get (pc := 24) s_M_wordAt_24 rfl rfl ?_
          refine e_aload_n (pc := 27) d_M_wordAt_27 rfl ?_
          refine e_iload_n (pc := 28) d_M_wordAt_28 rfl ?_
          refine e_topi (y := nI 2) (by decide) ?_
          refine e_iload_n (pc := 29) d_M_wordAt_29 rfl ?_
          refine e_cV2 (pc := 30) s_M_wordAt_30 (sM_lineOf (c := 2) (by decide) hk) rfl rfl rfl (Nat.le_of_ble_eq_true rfl) (Nat.le_of_ble_eq_true rfl) (Nat.le_of_ble_eq_true rfl) (zGo.v ?_)
          refine e_iald (pc := 33) d_M_wordAt_33 rfl (vp_in_nI (by omega) (by decide)) (fx2 (c := 2) (nI_clamp (by omega)) (Nat.mod_lt _ (by decide))) ?_
          refine e_iconst (pc := 34) (v := 3) d_M_wordAt_34 (by decide) ?_
          refine e_icmp_ne (pc := 35) (tgt := 52) d_M_wordAt_35 (by decide) (fun h13 => ?_) (fun h13 => ?_)
          · refine e_iload_n (pc := 52) d_M_wordAt_52 rfl ?_
            refine e_istore_n (pc := 53) d_M_wordAt_53 (Nat.le_of_ble_eq_true rfl) ?_
            dsimp only [List.set]
            refine e_iinc (pc := 54) d_M_wordAt_54 rfl (Nat.le_of_ble_eq_true rfl) ?_
            dsimp only [List.set]
            refine e_goto (pc := 57) (tgt := 9) d_M_wordAt_57 (by decide) ?_
            refine e_iload_n (pc := 9) d_M_wordAt_9 rfl ?_
            refine e_iconst (pc := 10) (v := 3) d_M_wordAt_10 (by decide) ?_
            refine e_icmp_ge (pc := 11) (tgt := 60) d_M_wordAt_11 (by decide) (fun _ => ?_) (fun h9 => absurd (by decide) h9)
            refine e_iload_n (pc := 60) d_M_wordAt_60 rfl ?_
            exact e_iret (pc := 61) d_M_wordAt_61 rfl rfl (Nat.le_of_ble_eq_true rfl) (Nat.le_of_ble_eq_true rfl) (zR (by simp [wdM, hasS, h7, h8, h11, h12, h13]))
          · refine e_aload_n (pc := 38) d_M_wordAt_38 rfl ?_
            refine e_get (pc := 39) s_M_wordAt_39 rfl rfl ?_
            refine e_aload_n (pc := 42) d_M_wordAt_42 rfl ?_
            refine e_iload_n (pc := 43) d_M_wordAt_43 rfl ?_
            refine e_topi (y := nI 2) (by decide) ?_
            refine e_iload_n (pc := 44) d_M_wordAt_44 rfl ?_
            refine e_cV2 (pc := 45) s_M_wordAt_45 (sM_lineOf (c := 2) (by decide) hk) rfl rfl rfl (Nat.le_of_ble_eq_true rfl) (Nat.le_of_ble_eq_true rfl) (Nat.le_of_ble_eq_true rfl) (zGo.v ?_)
            refine e_iald (pc := 48) d_M_wordAt_48 rfl (vp_in_nI (by omega) (by decide)) (fx2 (c := 2) (nI_clamp (by omega)) (Nat.mod_lt _ (by decide))) ?_
            refine e_goto (pc := 49) (tgt := 53) d_M_wordAt_49 (by decide) ?_
            refine e_istore_n (pc := 53) d_M_wordAt_53 (Nat.le_of_ble_eq_true rfl) ?_
            dsimp only [List.set]
            refine e_iinc (pc := 54) d_M_wordAt_54 rfl (Nat.le_of_ble_eq_true rfl) ?_
            dsimp only [List.set]
            refine e_goto (pc := 57) (tgt := 9) d_M_wordAt_57 (by decide) ?_
            refine e_iload_n (pc := 9) d_M_wordAt_9 rfl ?_
            refine e_iconst (pc := 10) (v := 3) d_M_wordAt_10 (by decide) ?_
            refine e_icmp_ge (pc := 11) (tgt := 60) d_M_wordAt_11 (by decide) (fun _ => ?_) (fun h9 => absurd (by decide) h9)
            refine e_iload_n (pc := 60) d_M_wordAt_60 rfl ?_
            exact e_iret (pc := 61) d_M_wordAt_61 rfl rfl (Nat.le_of_ble_eq_true rfl) (Nat.le_of_ble_eq_true rfl) (zR (by simp [wdM, hasS, h7, h8, h11, h12, h13]))
      · refine e_aload_n (pc := 38) d_M_wordAt_38 rfl ?_
        refine e_get (pc := 39) s_M_wordAt_39 rfl rfl ?_
        refine e_aload_n (pc := 42) d_M_wordAt_42 rfl ?_
        refine e_iload_n (pc := 43) d_M_wordAt_43 rfl ?_
        refine e_topi (y := nI 1) (by decide) ?_
        refine e_iload_n (pc := 44) d_M_wordAt_44 rfl ?_
        refine e_cV2 (pc := 45) s_M_wordAt_45 (sM_lineOf (c := 1) (by decide) hk) rfl rfl rfl (Nat.le_of_ble_eq_true rfl) (Nat.le_of_ble_eq_true rfl) (Nat.le_of_ble_eq_true rfl) (zGo.v ?_)
        refine e_iald (pc := 48) d_M_wordAt_48 rfl (vp_in_nI (by omega) (by decide)) (fx2 (c := 1) (nI_clamp (by omega)) (Nat.mod_lt _ (by decide))) ?_
        refine e_goto (pc := 49) (tgt := 53) d_M_wordAt_49 (by decide) ?_
        refine e_istore_n (pc := 53) d_M_wordAt_53 (Nat.le_of_ble_eq_true rfl) ?_
        dsimp only [List.set]
        refine e_iinc (pc := 54) d_M_wordAt_54 rfl (Nat.le_of_ble_eq_true rfl) ?_
        dsimp only [List.set]
        refine e_goto (pc := 57) (tgt := 9) d_M_wordAt_57 (by decide) ?_
        refine e_iload_n (pc := 9) d_M_wordAt_9 rfl ?_
        refine e_iconst (pc := 10) (v := 3) d_M_wordAt_10 (by decide) ?_
        refine e_icmp_ge (pc := 11) (tgt := 60) d_M_wordAt_11 (by decide) (fun h9 => absurd h9 (by decide)) (fun _ => ?_)
        refine e_aload_n (pc := 14) d_M_wordAt_14 rfl ?_
        refine e_iload_n (pc := 15) d_M_wordAt_15 rfl ?_
        refine e_topi (y := nI 2) (by decide) ?_
        refine e_iload_n (pc := 16) d_M_wordAt_16 rfl ?_
        refine e_cV2 (pc := 17) s_M_wordAt_17 (sM_has (c := 2) (by decide) hk) rfl rfl rfl (Nat.le_of_ble_eq_true rfl) (Nat.le_of_ble_eq_true rfl) (Nat.le_of_ble_eq_true rfl) (zGo.v ?_)
        refine e_if_eq (pc := 20) (tgt := 52) d_M_wordAt_20 (by decide) (fun h14 => ?_) (fun h14 => ?_)
        · replace h14 := b0.mp h14
          refine e_iload_n (pc := 52) d_M_wordAt_52 rfl ?_
          refine e_istore_n (pc := 53) d_M_wordAt_53 (Nat.le_of_ble_eq_true rfl) ?_
          dsimp only [List.set]
          refine e_iinc (pc := 54) d_M_wordAt_54 rfl (Nat.le_of_ble_eq_true rfl) ?_
          dsimp only [List.set]
          refine e_goto (pc := 57) (tgt := 9) d_M_wordAt_57 (by decide) ?_
          refine e_iload_n (pc := 9) d_M_wordAt_9 rfl ?_
          refine e_iconst (pc := 10) (v := 3) d_M_wordAt_10 (by decide) ?_
          refine e_icmp_ge (pc := 11) (tgt := 60) d_M_wordAt_11 (by decide) (fun _ => ?_) (fun h9 => absurd (by decide) h9)
          refine e_iload_n (pc := 60) d_M_wordAt_60 rfl ?_
          exact e_iret (pc := 61) d_M_wordAt_61 rfl rfl (Nat.le_of_ble_eq_true rfl) (Nat.le_of_ble_eq_true rfl) (zR (by simp [wdM, hasS, h7, h8, h11, h14]))
        · replace h14 := b1.mp h14
          refine e_aload_n (pc := 23) d_M_wordAt_23 rfl ?_
          refine e_get (pc := 24) s_M_wordAt_24 rfl rfl ?_
          refine e_aload_n (pc := 27) d_M_wordAt_27 rfl ?_
          refine e_iload_n (pc := 28) d_M_wordAt_28 rfl ?_
          refine e_topi (y := nI 2) (by decide) ?_
          refine e_iload_n (pc := 29) d_M_wordAt_29 rfl ?_
          refine e_cV2 (pc := 30) s_M_wordAt_30 (sM_lineOf (c := 2) (by decide) hk) rfl rfl rfl (Nat.le_of_ble_eq_true rfl) (Nat.le_of_ble_eq_true rfl) (Nat.le_of_ble_eq_true rfl) (zGo.v ?_)
          refine e_iald (pc := 33) d_M_wordAt_33 rfl (vp_in_nI (by omega) (by decide)) (fx2 (c := 2) (nI_clamp (by omega)) (Nat.mod_lt _ (by decide))) ?_
          refine e_iconst (pc := 34) (v := 3) d_M_wordAt_34 (by decide) ?_
          refine e_icmp_ne (pc := 35) (tgt := 52) d_M_wordAt_35 (by decide) (fun h15 => ?_) (fun h15 => ?_)
          · refine e_iload_n (pc := 52) d_M_wordAt_52 rfl ?_
            refine e_istore_n (pc := 53) d_M_wordAt_53 (Nat.le_of_ble_eq_true rfl) ?_
            dsimp only [List.set]
            refine e_iinc (pc := 54) d_M_wordAt_54 rfl (Nat.le_of_ble_eq_true rfl) ?_
            dsimp only [List.set]
            refine e_goto (pc := 57) (tgt := 9) d_M_wordAt_57 (by decide) ?_
            refine e_iload_n (pc := 9) d_M_wordAt_9 rfl ?_
            refine e_iconst (pc := 10) (v := 3) d_M_wordAt_10 (by decide) ?_
            refine e_icmp_ge (pc := 11) (tgt := 60) d_M_wordAt_11 (by decide) (fun _ => ?_) (fun h9 => absurd (by decide) h9)
            refine e_iload_n (pc := 60) d_M_wordAt_60 rfl ?_
            exact e_iret (pc := 61) d_M_wordAt_61 rfl rfl (Nat.le_of_ble_eq_true rfl) (Nat.le_of_ble_eq_true rfl) (zR (by simp [wdM, hasS, h7, h8, h11, h14, h15]))
          · refine e_aload_n (pc := 38) d_M_wordAt_38 rfl ?_
            refine e_get (pc := 39) s_M_wordAt_39 rfl rfl ?_
            refine e_aload_n (pc := 42) d_M_wordAt_42 rfl ?_
            refine e_iload_n (pc := 43) d_M_wordAt_43 rfl ?_
            refine e_topi (y := nI 2) (by decide) ?_
            refine e_iload_n (pc := 44) d_M_wordAt_44 rfl ?_
            refine e_cV2 (pc := 45) s_M_wordAt_45 (sM_lineOf (c := 2) (by decide) hk) rfl rfl rfl (Nat.le_of_ble_eq_true rfl) (Nat.le_of_ble_eq_true rfl) (Nat.le_of_ble_eq_true rfl) (zGo.v ?_)
            refine e_iald (pc := 48) d_M_wordAt_48 rfl (vp_in_nI (by omega) (by decide)) (fx2 (c := 2) (nI_clamp (by omega)) (Nat.mod_lt _ (by decide))) ?_
            refine e_goto (pc := 49) (tgt := 53) d_M_wordAt_49 (by decide) ?_
            refine e_istore_n (pc := 53) d_M_wordAt_53 (Nat.le_of_ble_eq_true rfl) ?_
            dsimp only [List.set]
            refine e_iinc (pc := 54) d_M_wordAt_54 rfl (Nat.le_of_ble_eq_true rfl) ?_
            dsimp only [List.set]
            refine e_goto (pc := 57) (tgt := 9) d_M_wordAt_57 (by decide) ?_
            refine e_iload_n (pc := 9) d_M_wordAt_9 rfl ?_
            refine e_iconst (pc := 10) (v := 3) d_M_wordAt_10 (by decide) ?_
            refine e_icmp_ge (pc := 11) (tgt := 60) d_M_wordAt_11 (by decide) (fun _ => ?_) (fun h9 => absurd (by decide) h9)
            refine e_iload_n (pc := 60) d_M_wordAt_60 rfl ?_
            exact e_iret (pc := 61) d_M_wordAt_61 rfl rfl (Nat.le_of_ble_eq_true rfl) (Nat.le_of_ble_eq_true rfl) (zR (by simp [wdM, hasS, h7, h8, h11, h14, h15]))
  · replace h7 := b1.mp h7
    refine e_aload_n (pc := 23) d_M_wordAt_23 rfl ?_
    refine e_get (pc := 24) s_M_wordAt_24 rfl rfl ?_
    refine e_aload_n (pc := 27) d_M_wordAt_27 rfl ?_
    refine e_iload_n (pc := 28) d_M_wordAt_28 rfl ?_
    refine e_topi (y := nI 0) (by decide) ?_
    refine e_iload_n (pc := 29) d_M_wordAt_29 rfl ?_
    refine e_cV2 (pc := 30) s_M_wordAt_30 (sM_lineOf (c := 0) (by decide) hk) rfl rfl rfl (Nat.le_of_ble_eq_true rfl) (Nat.le_of_ble_eq_true rfl) (Nat.le_of_ble_eq_true rfl) (zGo.v ?_)
    refine e_iald (pc := 33) d_M_wordAt_33 rfl (vp_in_nI (by omega) (by decide)) (fx2 (c := 0) (nI_clamp (by omega)) (Nat.mod_lt _ (by decide))) ?_
    refine e_iconst (pc := 34) (v := 3) d_M_wordAt_34 (by decide) ?_
    refine e_icmp_ne (pc := 35) (tgt := 52) d_M_wordAt_35 (by decide) (fun h16 => ?_) (fun h16 => ?_)
    · refine e_iload_n (pc := 52) d_M_wordAt_52 rfl ?_
      refine e_istore_n (pc := 53) d_M_wordAt_53 (Nat.le_of_ble_eq_true rfl) ?_
      dsimp only [List.set]
      refine e_iinc (pc := 54) d_M_wordAt_54 rfl (Nat.le_of_ble_eq_true rfl) ?_
      dsimp only [List.set]
      refine e_goto (pc := 57) (tgt := 9) d_M_wordAt_57 (by decide) ?_
      refine e_iload_n (pc := 9) d_M_wordAt_9 rfl ?_
      refine e_iconst (pc := 10) (v := 3) d_M_wordAt_10 (by decide) ?_
      refine e_icmp_ge (pc := 11) (tgt := 60) d_M_wordAt_11 (by decide) (fun h9 => absurd h9 (by decide)) (fun _ => ?_)
      refine e_aload_n (pc := 14) d_M_wordAt_14 rfl ?_
      refine e_iload_n (pc := 15) d_M_wordAt_15 rfl ?_
      refine e_topi (y := nI 1) (by decide) ?_
      refine e_iload_n (pc := 16) d_M_wordAt_16 rfl ?_
      refine e_cV2 (pc := 17) s_M_wordAt_17 (sM_has (c := 1) (by decide) hk) rfl rfl rfl (Nat.le_of_ble_eq_true rfl) (Nat.le_of_ble_eq_true rfl) (Nat.le_of_ble_eq_true rfl) (zGo.v ?_)
      refine e_if_eq (pc := 20) (tgt := 52) d_M_wordAt_20 (by decide) (fun h17 => ?_) (fun h17 => ?_)
      · replace h17 := b0.mp h17
        refine e_iload_n (pc := 52) d_M_wordAt_52 rfl ?_
        refine e_istore_n (pc := 53) d_M_wordAt_53 (Nat.le_of_ble_eq_true rfl) ?_
        dsimp only [List.set]
        refine e_iinc (pc := 54) d_M_wordAt_54 rfl (Nat.le_of_ble_eq_true rfl) ?_
        dsimp only [List.set]
        refine e_goto (pc := 57) (tgt := 9) d_M_wordAt_57 (by decide) ?_
        refine e_iload_n (pc := 9) d_M_wordAt_9 rfl ?_
        refine e_iconst (pc := 10) (v := 3) d_M_wordAt_10 (by decide) ?_
        refine e_icmp_ge (pc := 11) (tgt := 60) d_M_wordAt_11 (by decide) (fun h9 => absurd h9 (by decide)) (fun _ => ?_)
        refine e_aload_n (pc := 14) d_M_wordAt_14 rfl ?_
        refine e_iload_n (pc := 15) d_M_wordAt_15 rfl ?_
        refine e_topi (y := nI 2) (by decide) ?_
        refine e_iload_n (pc := 16) d_M_wordAt_16 rfl ?_
        refine e_cV2 (pc := 17) s_M_wordAt_17 (sM_has (c := 2) (by decide) hk) rfl rfl rfl (Nat.le_of_ble_eq_true rfl) (Nat.le_of_ble_eq_true rfl) (Nat.le_of_ble_eq_true rfl) (zGo.v ?_)
        refine e_if_eq (pc := 20) (tgt := 52) d_M_wordAt_20 (by decide) (fun h18 => ?_) (fun h18 => ?_)
        · replace h18 := b0.mp h18
          refine e_iload_n (pc := 52) d_M_wordAt_52 rfl ?_
          refine e_istore_n (pc := 53) d_M_wordAt_53 (Nat.le_of_ble_eq_true rfl) ?_
          dsimp only [List.set]
          refine e_iinc (pc := 54) d_M_wordAt_54 rfl (Nat.le_of_ble_eq_true rfl) ?_
          dsimp only [List.set]
          refine e_goto (pc := 57) (tgt := 9) d_M_wordAt_57 (by decide) ?_
          refine e_iload_n (pc := 9) d_M_wordAt_9 rfl ?_
          refine e_iconst (pc := 10) (v := 3) d_M_wordAt_10 (by decide) ?_
          refine e_icmp_ge (pc := 11) (tgt := 60) d_M_wordAt_11 (by decide) (fun _ => ?_) (fun h9 => absurd (by decide) h9)
          refine e_iload_n (pc := 60) d_M_wordAt_60 rfl ?_
          exact e_iret (pc := 61) d_M_wordAt_61 rfl rfl (Nat.le_of_ble_eq_true rfl) (Nat.le_of_ble_eq_true rfl) (zR (by simp [wdM, hasS, h7, h16, h17, h18]))
        · replace h18 := b1.mp h18
          refine e_aload_n (pc := 23) d_M_wordAt_23 rfl ?_
          refine e_get (pc := 24) s_M_wordAt_24 rfl rfl ?_
          refine e_aload_n (pc := 27) d_M_wordAt_27 rfl ?_
          refine e_iload_n (pc := 28) d_M_wordAt_28 rfl ?_
          refine e_topi (y := nI 2) (by decide) ?_
          refine e_iload_n (pc := 29) d_M_wordAt_29 rfl ?_
          refine e_cV2 (pc := 30) s_M_wordAt_30 (sM_lineOf (c := 2) (by decide) hk) rfl rfl rfl (Nat.le_of_ble_eq_true rfl) (Nat.le_of_ble_eq_true rfl) (Nat.le_of_ble_eq_true rfl) (zGo.v ?_)
          refine e_iald (pc := 33) d_M_wordAt_33 rfl (vp_in_nI (by omega) (by decide)) (fx2 (c := 2) (nI_clamp (by omega)) (Nat.mod_lt _ (by decide))) ?_
          refine e_iconst (pc := 34) (v := 3) d_M_wordAt_34 (by decide) ?_
          refine e_icmp_ne (pc := 35) (tgt := 52) d_M_wordAt_35 (by decide) (fun h19 => ?_) (fun h19 => ?_)
          · refine e_iload_n (pc := 52) d_M_wordAt_52 rfl ?_
            refine e_istore_n (pc := 53) d_M_wordAt_53 (Nat.le_of_ble_eq_true rfl) ?_
            dsimp only [List.set]
            refine e_iinc (pc := 54) d_M_wordAt_54 rfl (Nat.le_of_ble_eq_true rfl) ?_
            dsimp only [List.set]
            refine e_goto (pc := 57) (tgt := 9) d_M_wordAt_57 (by decide) ?_
            refine e_iload_n (pc := 9) d_M_wordAt_9 rfl ?_
            refine e_iconst (pc := 10) (v := 3) d_M_wordAt_10 (by decide) ?_
            refine e_icmp_ge (pc := 11) (tgt := 60) d_M_wordAt_11 (by decide) (fun _ => ?_) (fun h9 => absurd (by decide) h9)
            refine e_iload_n (pc := 60) d_M_wordAt_60 rfl ?_
            exact e_iret (pc := 61) d_M_wordAt_61 rfl rfl (Nat.le_of_ble_eq_true rfl) (Nat.le_of_ble_eq_true rfl) (zR (by simp [wdM, hasS, h7, h16, h17, h18, h19]))
          · refine e_aload_n (pc := 38) d_M_wordAt_38 rfl ?_
            refine e_get (pc := 39) s_M_wordAt_39 rfl rfl ?_
            refine e_aload_n (pc := 42) d_M_wordAt_42 rfl ?_
            refine e_iload_n (pc := 43) d_M_wordAt_43 rfl ?_
            refine e_topi (y := nI 2) (by decide) ?_
            refine e_iload_n (pc := 44) d_M_wordAt_44 rfl ?_
            refine e_cV2 (pc := 45) s_M_wordAt_45 (sM_lineOf (c := 2) (by decide) hk) rfl rfl rfl (Nat.le_of_ble_eq_true rfl) (Nat.le_of_ble_eq_true rfl) (Nat.le_of_ble_eq_true rfl) (zGo.v ?_)
            refine e_iald (pc := 48) d_M_wordAt_48 rfl (vp_in_nI (by omega) (by decide)) (fx2 (c := 2) (nI_clamp (by omega)) (Nat.mod_lt _ (by decide))) ?_
            refine e_goto (pc := 49) (tgt := 53) d_M_wordAt_49 (by decide) ?_
            refine e_istore_n (pc := 53) d_M_wordAt_53 (Nat.le_of_ble_eq_true rfl) ?_
            dsimp only [List.set]
            refine e_iinc (pc := 54) d_M_wordAt_54 rfl (Nat.le_of_ble_eq_true rfl) ?_
            dsimp only [List.set]
            refine e_goto (pc := 57) (tgt := 9) d_M_wordAt_57 (by decide) ?_
            refine e_iload_n (pc := 9) d_M_wordAt_9 rfl ?_
            refine e_iconst (pc := 10) (v := 3) d_M_wordAt_10 (by decide) ?_
            refine e_icmp_ge (pc := 11) (tgt := 60) d_M_wordAt_11 (by decide) (fun _ => ?_) (fun h9 => absurd (by decide) h9)
            refine e_iload_n (pc := 60) d_M_wordAt_60 rfl ?_
            exact e_iret (pc := 61) d_M_wordAt_61 rfl rfl (Nat.le_of_ble_eq_true rfl) (Nat.le_of_ble_eq_true rfl) (zR (by simp [wdM, hasS, h7, h16, h17, h18, h19]))
      · replace h17 := b1.mp h17
        refine e_aload_n (pc := 23) d_M_wordAt_23 rfl ?_
        refine e_get (pc := 24) s_M_wordAt_24 rfl rfl ?_
        refine e_aload_n (pc := 27) d_M_wordAt_27 rfl ?_
        refine e_iload_n (pc := 28) d_M_wordAt_28 rfl ?_
        refine e_topi (y := nI 1) (by decide) ?_
        refine e_iload_n (pc := 29) d_M_wordAt_29 rfl ?_
        refine e_cV2 (pc := 30) s_M_wordAt_30 (sM_lineOf (c := 1) (by decide) hk) rfl rfl rfl (Nat.le_of_ble_eq_true rfl) (Nat.le_of_ble_eq_true rfl) (Nat.le_of_ble_eq_true rfl) (zGo.v ?_)
        refine e_iald (pc := 33) d_M_wordAt_33 rfl (vp_in_nI (by omega) (by decide)) (fx2 (c := 1) (nI_clamp (by omega)) (Nat.mod_lt _ (by decide))) ?_
        refine e_iconst (pc := 34) (v := 3) d_M_wordAt_34 (by decide) ?_
        refine e_icmp_ne (pc := 35) (tgt := 52) d_M_wordAt_35 (by decide) (fun h20 => ?_) (fun h20 => ?_)
        · refine e_iload_n (pc := 52) d_M_wordAt_52 rfl ?_
          refine e_istore_n (pc := 53) d_M_wordAt_53 (Nat.le_of_ble_eq_true rfl) ?_
          dsimp only [List.set]
          refine e_iinc (pc := 54) d_M_wordAt_54 rfl (Nat.le_of_ble_eq_true rfl) ?_
          dsimp only [List.set]
          refine e_goto (pc := 57) (tgt := 9) d_M_wordAt_57 (by decide) ?_
          refine e_iload_n (pc := 9) d_M_wordAt_9 rfl ?_
          refine e_iconst (pc := 10) (v := 3) d_M_wordAt_10 (by decide) ?_
          refine e_icmp_ge (pc := 11) (tgt := 60) d_M_wordAt_11 (by decide) (fun h9 => absurd h9 (by decide)) (fun _ => ?_)
          refine e_aload_n (pc := 14) d_M_wordAt_14 rfl ?_
          refine e_iload_n (pc := 15) d_M_wordAt_15 rfl ?_
          refine e_topi (y := nI 2) (by decide) ?_
          refine e_iload_n (pc := 16) d_M_wordAt_16 rfl ?_
          refine e_cV2 (pc := 17) s_M_wordAt_17 (sM_has (c := 2) (by decide) hk) rfl rfl rfl (Nat.le_of_ble_eq_true rfl) (Nat.le_of_ble_eq_true rfl) (Nat.le_of_ble_eq_true rfl) (zGo.v ?_)
          refine e_if_eq (pc := 20) (tgt := 52) d_M_wordAt_20 (by decide) (fun h21 => ?_) (fun h21 => ?_)
          · replace h21 := b0.mp h21
            refine e_iload_n (pc := 52) d_M_wordAt_52 rfl ?_
            refine e_istore_n (pc := 53) d_M_wordAt_53 (Nat.le_of_ble_eq_true rfl) ?_
            dsimp only [List.set]
            refine e_iinc (pc := 54) d_M_wordAt_54 rfl (Nat.le_of_ble_eq_true rfl) ?_
            dsimp only [List.set]
            refine e_goto (pc := 57) (tgt := 9) d_M_wordAt_57 (by decide) ?_
            refine e_iload_n (pc := 9) d_M_wordAt_9 rfl ?_
            refine e_iconst (pc := 10) (v := 3) d_M_wordAt_10 (by decide) ?_
            refine e_icmp_ge (pc := 11) (tgt := 60) d_M_wordAt_11 (by decide) (fun _ => ?_) (fun h9 => absurd (by decide) h9)
            refine e_iload_n (pc := 60) d_M_wordAt_60 rfl ?_
            exact e_iret (pc := 61) d_M_wordAt_61 rfl rfl (Nat.le_of_ble_eq_true rfl) (Nat.le_of_ble_eq_true rfl) (zR (by simp [wdM, hasS, h7, h16, h17, h20, h21]))
          · replace h21 := b1.mp h21
            refine e_aload_n (pc := 23) d_M_wordAt_23 rfl ?_
            refine e_get (pc := 24) s_M_wordAt_24 rfl rfl ?_
            refine e_aload_n (pc := 27) d_M_wordAt_27 rfl ?_
            refine e_iload_n (pc := 28) d_M_wordAt_28 rfl ?_
            refine e_topi (y := nI 2) (by decide) ?_
            refine e_iload_n (pc := 29) d_M_wordAt_29 rfl ?_
            refine e_cV2 (pc := 30) s_M_wordAt_30 (sM_lineOf (c := 2) (by decide) hk) rfl rfl rfl (Nat.le_of_ble_eq_true rfl) (Nat.le_of_ble_eq_true rfl) (Nat.le_of_ble_eq_true rfl) (zGo.v ?_)
            refine e_iald (pc := 33) d_M_wordAt_33 rfl (vp_in_nI (by omega) (by decide)) (fx2 (c := 2) (nI_clamp (by omega)) (Nat.mod_lt _ (by decide))) ?_
            refine e_iconst (pc := 34) (v := 3) d_M_wordAt_34 (by decide) ?_
            refine e_icmp_ne (pc := 35) (tgt := 52) d_M_wordAt_35 (by decide) (fun h22 => ?_) (fun h22 => ?_)
            · refine e_iload_n (pc := 52) d_M_wordAt_52 rfl ?_
              refine e_istore_n (pc := 53) d_M_wordAt_53 (Nat.le_of_ble_eq_true rfl) ?_
              dsimp only [List.set]
              refine e_iinc (pc := 54) d_M_wordAt_54 rfl (Nat.le_of_ble_eq_true rfl) ?_
              dsimp only [List.set]
              refine e_goto (pc := 57) (tgt := 9) d_M_wordAt_57 (by decide) ?_
              refine e_iload_n (pc := 9) d_M_wordAt_9 rfl ?_
              refine e_iconst (pc := 10) (v := 3) d_M_wordAt_10 (by decide) ?_
              refine e_icmp_ge (pc := 11) (tgt := 60) d_M_wordAt_11 (by decide) (fun _ => ?_) (fun h9 => absurd (by decide) h9)
              refine e_iload_n (pc := 60) d_M_wordAt_60 rfl ?_
              exact e_iret (pc := 61) d_M_wordAt_61 rfl rfl (Nat.le_of_ble_eq_true rfl) (Nat.le_of_ble_eq_true rfl) (zR (by simp [wdM, hasS, h7, h16, h17, h20, h21, h22]))
            · refine e_aload_n (pc := 38) d_M_wordAt_38 rfl ?_
              refine e_get (pc := 39) s_M_wordAt_39 rfl rfl ?_
              refine e_aload_n (pc := 42) d_M_wordAt_42 rfl ?_
              refine e_iload_n (pc := 43) d_M_wordAt_43 rfl ?_
              refine e_topi (y := nI 2) (by decide) ?_
              refine e_iload_n (pc := 44) d_M_wordAt_44 rfl ?_
              refine e_cV2 (pc := 45) s_M_wordAt_45 (sM_lineOf (c := 2) (by decide) hk) rfl rfl rfl (Nat.le_of_ble_eq_true rfl) (Nat.le_of_ble_eq_true rfl) (Nat.le_of_ble_eq_true rfl) (zGo.v ?_)
              refine e_iald (pc := 48) d_M_wordAt_48 rfl (vp_in_nI (by omega) (by decide)) (fx2 (c := 2) (nI_clamp (by omega)) (Nat.mod_lt _ (by decide))) ?_
              refine e_goto (pc := 49) (tgt := 53) d_M_wordAt_49 (by decide) ?_
              refine e_istore_n (pc := 53) d_M_wordAt_53 (Nat.le_of_ble_eq_true rfl) ?_
              dsimp only [List.set]
              refine e_iinc (pc := 54) d_M_wordAt_54 rfl (Nat.le_of_ble_eq_true rfl) ?_
              dsimp only [List.set]
              refine e_goto (pc := 57) (tgt := 9) d_M_wordAt_57 (by decide) ?_
              refine e_iload_n (pc := 9) d_M_wordAt_9 rfl ?_
              refine e_iconst (pc := 10) (v := 3) d_M_wordAt_10 (by decide) ?_
              refine e_icmp_ge (pc := 11) (tgt := 60) d_M_wordAt_11 (by decide) (fun _ => ?_) (fun h9 => absurd (by decide) h9)
              refine e_iload_n (pc := 60) d_M_wordAt_60 rfl ?_
              exact e_iret (pc := 61) d_M_wordAt_61 rfl rfl (Nat.le_of_ble_eq_true rfl) (Nat.le_of_ble_eq_true rfl) (zR (by simp [wdM, hasS, h7, h16, h17, h20, h21, h22]))
        · refine e_aload_n (pc := 38) d_M_wordAt_38 rfl ?_
          refine e_get (pc := 39) s_M_wordAt_39 rfl rfl ?_
          refine e_aload_n (pc := 42) d_M_wordAt_42 rfl ?_
          refine e_iload_n (pc := 43) d_M_wordAt_43 rfl ?_
          refine e_topi (y := nI 1) (by decide) ?_
          refine e_iload_n (pc := 44) d_M_wordAt_44 rfl ?_
          refine e_cV2 (pc := 45) s_M_wordAt_45 (sM_lineOf (c := 1) (by decide) hk) rfl rfl rfl (Nat.le_of_ble_eq_true rfl) (Nat.le_of_ble_eq_true rfl) (Nat.le_of_ble_eq_true rfl) (zGo.v ?_)
          refine e_iald (pc := 48) d_M_wordAt_48 rfl (vp_in_nI (by omega) (by decide)) (fx2 (c := 1) (nI_clamp (by omega)) (Nat.mod_lt _ (by decide))) ?_
          refine e_goto (pc := 49) (tgt := 53) d_M_wordAt_49 (by decide) ?_
          refine e_istore_n (pc := 53) d_M_wordAt_53 (Nat.le_of_ble_eq_true rfl) ?_
          dsimp only [List.set]
          refine e_iinc (pc := 54) d_M_wordAt_54 rfl (Nat.le_of_ble_eq_true rfl) ?_
          dsimp only [List.set]
          refine e_goto (pc := 57) (tgt := 9) d_M_wordAt_57 (by decide) ?_
          refine e_iload_n (pc := 9) d_M_wordAt_9 rfl ?_
          refine e_iconst (pc := 10) (v := 3) d_M_wordAt_10 (by decide) ?_
          refine e_icmp_ge (pc := 11) (tgt := 60) d_M_wordAt_11 (by decide) (fun h9 => absurd h9 (by decide)) (fun _ => ?_)
          refine e_aload_n (pc := 14) d_M_wordAt_14 rfl ?_
          refine e_iload_n (pc := 15) d_M_wordAt_15 rfl ?_
          refine e_topi (y := nI 2) (by decide) ?_
          refine e_iload_n (pc := 16) d_M_wordAt_16 rfl ?_
          refine e_cV2 (pc := 17) s_M_wordAt_17 (sM_has (c := 2) (by decide) hk) rfl rfl rfl (Nat.le_of_ble_eq_true rfl) (Nat.le_of_ble_eq_true rfl) (Nat.le_of_ble_eq_true rfl) (zGo.v ?_)
          refine e_if_eq (pc := 20) (tgt := 52) d_M_wordAt_20 (by decide) (fun h23 => ?_) (fun h23 => ?_)
          · replace h23 := b0.mp h23
            refine e_iload_n (pc := 52) d_M_wordAt_52 rfl ?_
            refine e_istore_n (pc := 53) d_M_wordAt_53 (Nat.le_of_ble_eq_true rfl) ?_
            dsimp only [List.set]
            refine e_iinc (pc := 54) d_M_wordAt_54 rfl (Nat.le_of_ble_eq_true rfl) ?_
            dsimp only [List.set]
            refine e_goto (pc := 57) (tgt := 9) d_M_wordAt_57 (by decide) ?_
            refine e_iload_n (pc := 9) d_M_wordAt_9 rfl ?_
            refine e_iconst (pc := 10) (v := 3) d_M_wordAt_10 (by decide) ?_
            refine e_icmp_ge (pc := 11) (tgt := 60) d_M_wordAt_11 (by decide) (fun _ => ?_) (fun h9 => absurd (by decide) h9)
            refine e_iload_n (pc := 60) d_M_wordAt_60 rfl ?_
            exact e_iret (pc := 61) d_M_wordAt_61 rfl rfl (Nat.le_of_ble_eq_true rfl) (Nat.le_of_ble_eq_true rfl) (zR (by simp [wdM, hasS, h7, h16, h17, h20, h23]))
          · replace h23 := b1.mp h23
            refine e_aload_n (pc := 23) d_M_wordAt_23 rfl ?_
            refine e_get (pc := 24) s_M_wordAt_24 rfl rfl ?_
            refine e_aload_n (pc := 27) d_M_wordAt_27 rfl ?_
            refine e_iload_n (pc := 28) d_M_wordAt_28 rfl ?_
            refine e_topi (y := nI 2) (by decide) ?_
            refine e_iload_n (pc := 29) d_M_wordAt_29 rfl ?_
            refine e_cV2 (pc := 30) s_M_wordAt_30 (sM_lineOf (c := 2) (by decide) hk) rfl rfl rfl (Nat.le_of_ble_eq_true rfl) (Nat.le_of_ble_eq_true rfl) (Nat.le_of_ble_eq_true rfl) (zGo.v ?_)
            refine e_iald (pc := 33) d_M_wordAt_33 rfl (vp_in_nI (by omega) (by decide)) (fx2 (c := 2) (nI_clamp (by omega)) (Nat.mod_lt _ (by decide))) ?_
            refine e_iconst (pc := 34) (v := 3) d_M_wordAt_34 (by decide) ?_
            refine e_icmp_ne (pc := 35) (tgt := 52) d_M_wordAt_35 (by decide) (fun h24 => ?_) (fun h24 => ?_)
            · refine e_iload_n (pc := 52) d_M_wordAt_52 rfl ?_
              refine e_istore_n (pc := 53) d_M_wordAt_53 (Nat.le_of_ble_eq_true rfl) ?_
              dsimp only [List.set]
              refine e_iinc (pc := 54) d_M_wordAt_54 rfl (Nat.le_of_ble_eq_true rfl) ?_
              dsimp only [List.set]
              refine e_goto (pc := 57) (tgt := 9) d_M_wordAt_57 (by decide) ?_
              refine e_iload_n (pc := 9) d_M_wordAt_9 rfl ?_
              refine e_iconst (pc := 10) (v := 3) d_M_wordAt_10 (by decide) ?_
              refine e_icmp_ge (pc := 11) (tgt := 60) d_M_wordAt_11 (by decide) (fun _ => ?_) (fun h9 => absurd (by decide) h9)
              refine e_iload_n (pc := 60) d_M_wordAt_60 rfl ?_
              exact e_iret (pc := 61) d_M_wordAt_61 rfl rfl (Nat.le_of_ble_eq_true rfl) (Nat.le_of_ble_eq_true rfl) (zR (by simp [wdM, hasS, h7, h16, h17, h20, h23, h24]))
            · refine e_aload_n (pc := 38) d_M_wordAt_38 rfl ?_
              refine e_get (pc := 39) s_M_wordAt_39 rfl rfl ?_
              refine e_aload_n (pc := 42) d_M_wordAt_42 rfl ?_
              refine e_iload_n (pc := 43) d_M_wordAt_43 rfl ?_
              refine e_topi (y := nI 2) (by decide) ?_
              refine e_iload_n (pc := 44) d_M_wordAt_44 rfl ?_
              refine e_cV2 (pc := 45) s_M_wordAt_45 (sM_lineOf (c := 2) (by decide) hk) rfl rfl rfl (Nat.le_of_ble_eq_true rfl) (Nat.le_of_ble_eq_true rfl) (Nat.le_of_ble_eq_true rfl) (zGo.v ?_)
              refine e_iald (pc := 48) d_M_wordAt_48 rfl (vp_in_nI (by omega) (by decide)) (fx2 (c := 2) (nI_clamp (by omega)) (Nat.mod_lt _ (by decide))) ?_
              refine e_goto (pc := 49) (tgt := 53) d_M_wordAt_49 (by decide) ?_
              refine e_istore_n (pc := 53) d_M_wordAt_53 (Nat.le_of_ble_eq_true rfl) ?_
              dsimp only [List.set]
              refine e_iinc (pc := 54) d_M_wordAt_54 rfl (Nat.le_of_ble_eq_true rfl) ?_
              dsimp only [List.set]
              refine e_goto (pc := 57) (tgt := 9) d_M_wordAt_57 (by decide) ?_
              refine e_iload_n (pc := 9) d_M_wordAt_9 rfl ?_
              refine e_iconst (pc := 10) (v := 3) d_M_wordAt_10 (by decide) ?_
              refine e_icmp_ge (pc := 11) (tgt := 60) d_M_wordAt_11 (by decide) (fun _ => ?_) (fun h9 => absurd (by decide) h9)
              refine e_iload_n (pc := 60) d_M_wordAt_60 rfl ?_
              exact e_iret (pc := 61) d_M_wordAt_61 rfl rfl (Nat.le_of_ble_eq_true rfl) (Nat.le_of_ble_eq_true rfl) (zR (by simp [wdM, hasS, h7, h16, h17, h20, h23, h24]))
    · refine e_aload_n (pc := 38) d_M_wordAt_38 rfl ?_
      refine e_get (pc := 39) s_M_wordAt_39 rfl rfl ?_
      refine e_aload_n (pc := 42) d_M_wordAt_42 rfl ?_
      refine e_iload_n (pc := 43) d_M_wordAt_43 rfl ?_
      refine e_topi (y := nI 0) (by decide) ?_
      refine e_iload_n (pc := 44) d_M_wordAt_44 rfl ?_
      refine e_cV2 (pc := 45) s_M_wordAt_45 (sM_lineOf (c := 0) (by decide) hk) rfl rfl rfl (Nat.le_of_ble_eq_true rfl) (Nat.le_of_ble_eq_true rfl) (Nat.le_of_ble_eq_true rfl) (zGo.v ?_)
      refine e_iald (pc := 48) d_M_wordAt_48 rfl (vp_in_nI (by omega) (by decide)) (fx2 (c := 0) (nI_clamp (by omega)) (Nat.mod_lt _ (by decide))) ?_
      refine e_goto (pc := 49) (tgt := 53) d_M_wordAt_49 (by decide) ?_
      refine e_istore_n (pc := 53) d_M_wordAt_53 (Nat.le_of_ble_eq_true rfl) ?_
      dsimp only [List.set]
      refine e_iinc (pc := 54) d_M_wordAt_54 rfl (Nat.le_of_ble_eq_true rfl) ?_
      dsimp only [List.set]
      refine e_goto (pc := 57) (tgt := 9) d_M_wordAt_57 (by decide) ?_
      refine e_iload_n (pc := 9) d_M_wordAt_9 rfl ?_
      refine e_iconst (pc := 10) (v := 3) d_M_wordAt_10 (by decide) ?_
      refine e_icmp_ge (pc := 11) (tgt := 60) d_M_wordAt_11 (by decide) (fun h9 => absurd h9 (by decide)) (fun _ => ?_)
      refine e_aload_n (pc := 14) d_M_wordAt_14 rfl ?_
      refine e_iload_n (pc := 15) d_M_wordAt_15 rfl ?_
      refine e_topi (y := nI 1) (by decide) ?_
      refine e_iload_n (pc := 16) d_M_wordAt_16 rfl ?_
      refine e_cV2 (pc := 17) s_M_wordAt_17 (sM_has (c := 1) (by decide) hk) rfl rfl rfl (Nat.le_of_ble_eq_true rfl) (Nat.le_of_ble_eq_true rfl) (Nat.le_of_ble_eq_true rfl) (zGo.v ?_)
      refine e_if_eq (pc := 20) (tgt := 52) d_M_wordAt_20 (by decide) (fun h25 => ?_) (fun h25 => ?_)
      · replace h25 := b0.mp h25
        refine e_iload_n (pc := 52) d_M_wordAt_52 rfl ?_
        refine e_istore_n (pc := 53) d_M_wordAt_53 (Nat.le_of_ble_eq_true rfl) ?_
        dsimp only [List.set]
        refine e_iinc (pc := 54) d_M_wordAt_54 rfl (Nat.le_of_ble_eq_true rfl) ?_
        dsimp only [List.set]
        refine e_goto (pc := 57) (tgt := 9) d_M_wordAt_57 (by decide) ?_
        refine e_iload_n (pc := 9) d_M_wordAt_9 rfl ?_
        refine e_iconst (pc := 10) (v := 3) d_M_wordAt_10 (by decide) ?_
        refine e_icmp_ge (pc := 11) (tgt := 60) d_M_wordAt_11 (by decide) (fun h9 => absurd h9 (by decide)) (fun _ => ?_)
        refine e_aload_n (pc := 14) d_M_wordAt_14 rfl ?_
        refine e_iload_n (pc := 15) d_M_wordAt_15 rfl ?_
        refine e_topi (y := nI 2) (by decide) ?_
        refine e_iload_n (pc := 16) d_M_wordAt_16 rfl ?_
        refine e_cV2 (pc := 17) s_M_wordAt_17 (sM_has (c := 2) (by decide) hk) rfl rfl rfl (Nat.le_of_ble_eq_true rfl) (Nat.le_of_ble_eq_true rfl) (Nat.le_of_ble_eq_true rfl) (zGo.v ?_)
        refine e_if_eq (pc := 20) (tgt := 52) d_M_wordAt_20 (by decide) (fun h26 => ?_) (fun h26 => ?_)
        · replace h26 := b0.mp h26
          refine e_iload_n (pc := 52) d_M_wordAt_52 rfl ?_
          refine e_istore_n (pc := 53) d_M_wordAt_53 (Nat.le_of_ble_eq_true rfl) ?_
          dsimp only [List.set]
          refine e_iinc (pc := 54) d_M_wordAt_54 rfl (Nat.le_of_ble_eq_true rfl) ?_
          dsimp only [List.set]
          refine e_goto (pc := 57) (tgt := 9) d_M_wordAt_57 (by decide) ?_
          refine e_iload_n (pc := 9) d_M_wordAt_9 rfl ?_
          refine e_iconst (pc := 10) (v := 3) d_M_wordAt_10 (by decide) ?_
          refine e_icmp_ge (pc := 11) (tgt := 60) d_M_wordAt_11 (by decide) (fun _ => ?_) (fun h9 => absurd (by decide) h9)
          refine e_iload_n (pc := 60) d_M_wordAt_60 rfl ?_
          exact e_iret (pc := 61) d_M_wordAt_61 rfl rfl (Nat.le_of_ble_eq_true rfl) (Nat.le_of_ble_eq_true rfl) (zR (by simp [wdM, hasS, h7, h16, h25, h26]))
        · replace h26 := b1.mp h26
          refine e_aload_n (pc := 23) d_M_wordAt_23 rfl ?_
          refine e_get (pc := 24) s_M_wordAt_24 rfl rfl ?_
          refine e_aload_n (pc := 27) d_M_wordAt_27 rfl ?_
          refine e_iload_n (pc := 28) d_M_wordAt_28 rfl ?_
          refine e_topi (y := nI 2) (by decide) ?_
          refine e_iload_n (pc := 29) d_M_wordAt_29 rfl ?_
          refine e_cV2 (pc := 30) s_M_wordAt_30 (sM_lineOf (c := 2) (by decide) hk) rfl rfl rfl (Nat.le_of_ble_eq_true rfl) (Nat.le_of_ble_eq_true rfl) (Nat.le_of_ble_eq_true rfl) (zGo.v ?_)
          refine e_iald (pc := 33) d_M_wordAt_33 rfl (vp_in_nI (by omega) (by decide)) (fx2 (c := 2) (nI_clamp (by omega)) (Nat.mod_lt _ (by decide))) ?_
          refine e_iconst (pc := 34) (v := 3) d_M_wordAt_34 (by decide) ?_
          refine e_icmp_ne (pc := 35) (tgt := 52) d_M_wordAt_35 (by decide) (fun h27 => ?_) (fun h27 => ?_)
          · refine e_iload_n (pc := 52) d_M_wordAt_52 rfl ?_
            refine e_istore_n (pc := 53) d_M_wordAt_53 (Nat.le_of_ble_eq_true rfl) ?_
            dsimp only [List.set]
            refine e_iinc (pc := 54) d_M_wordAt_54 rfl (Nat.le_of_ble_eq_true rfl) ?_
            dsimp only [List.set]
            refine e_goto (pc := 57) (tgt := 9) d_M_wordAt_57 (by decide) ?_
            refine e_iload_n (pc := 9) d_M_wordAt_9 rfl ?_
            refine e_iconst (pc := 10) (v := 3) d_M_wordAt_10 (by decide) ?_
            refine e_icmp_ge (pc := 11) (tgt := 60) d_M_wordAt_11 (by decide) (fun _ => ?_) (fun h9 => absurd (by decide) h9)
            refine e_iload_n (pc := 60) d_M_wordAt_60 rfl ?_
            exact e_iret (pc := 61) d_M_wordAt_61 rfl rfl (Nat.le_of_ble_eq_true rfl) (Nat.le_of_ble_eq_true rfl) (zR (by simp [wdM, hasS, h7, h16, h25, h26, h27]))
          · refine e_aload_n (pc := 38) d_M_wordAt_38 rfl ?_
            refine e_get (pc := 39) s_M_wordAt_39 rfl rfl ?_
            refine e_aload_n (pc := 42) d_M_wordAt_42 rfl ?_
            refine e_iload_n (pc := 43) d_M_wordAt_43 rfl ?_
            refine e_topi (y := nI 2) (by decide) ?_
            refine e_iload_n (pc := 44) d_M_wordAt_44 rfl ?_
            refine e_cV2 (pc := 45) s_M_wordAt_45 (sM_lineOf (c := 2) (by decide) hk) rfl rfl rfl (Nat.le_of_ble_eq_true rfl) (Nat.le_of_ble_eq_true rfl) (Nat.le_of_ble_eq_true rfl) (zGo.v ?_)
            refine e_iald (pc := 48) d_M_wordAt_48 rfl (vp_in_nI (by omega) (by decide)) (fx2 (c := 2) (nI_clamp (by omega)) (Nat.mod_lt _ (by decide))) ?_
            refine e_goto (pc := 49) (tgt := 53) d_M_wordAt_49 (by decide) ?_
            refine e_istore_n (pc := 53) d_M_wordAt_53 (Nat.le_of_ble_eq_true rfl) ?_
            dsimp only [List.set]
            refine e_iinc (pc := 54) d_M_wordAt_54 rfl (Nat.le_of_ble_eq_true rfl) ?_
            dsimp only [List.set]
            refine e_goto (pc := 57) (tgt := 9) d_M_wordAt_57 (by decide) ?_
            refine e_iload_n (pc := 9) d_M_wordAt_9 rfl ?_
            refine e_iconst (pc := 10) (v := 3) d_M_wordAt_10 (by decide) ?_
            refine e_icmp_ge (pc := 11) (tgt := 60) d_M_wordAt_11 (by decide) (fun _ => ?_) (fun h9 => absurd (by decide) h9)
            refine e_iload_n (pc := 60) d_M_wordAt_60 rfl ?_
            exact e_iret (pc := 61) d_M_wordAt_61 rfl rfl (Nat.le_of_ble_eq_true rfl) (Nat.le_of_ble_eq_true rfl) (zR (by simp [wdM, hasS, h7, h16, h25, h26, h27]))
      · replace h25 := b1.mp h25
        refine e_aload_n (pc := 23) d_M_wordAt_23 rfl ?_
        refine e_get (pc := 24) s_M_wordAt_24 rfl rfl ?_
        refine e_aload_n (pc := 27) d_M_wordAt_27 rfl ?_
        refine e_iload_n (pc := 28) d_M_wordAt_28 rfl ?_
        refine e_topi (y := nI 1) (by decide) ?_
        refine e_iload_n (pc := 29) d_M_wordAt_29 rfl ?_
        refine e_cV2 (pc := 30) s_M_wordAt_30 (sM_lineOf (c := 1) (by decide) hk) rfl rfl rfl (Nat.le_of_ble_eq_true rfl) (Nat.le_of_ble_eq_true rfl) (Nat.le_of_ble_eq_true rfl) (zGo.v ?_)
        refine e_iald (pc := 33) d_M_wordAt_33 rfl (vp_in_nI (by omega) (by decide)) (fx2 (c := 1) (nI_clamp (by omega)) (Nat.mod_lt _ (by decide))) ?_
        refine e_iconst (pc := 34) (v := 3) d_M_wordAt_34 (by decide) ?_
        refine e_icmp_ne (pc := 35) (tgt := 52) d_M_wordAt_35 (by decide) (fun h28 => ?_) (fun h28 => ?_)
        · refine e_iload_n (pc := 52) d_M_wordAt_52 rfl ?_
          refine e_istore_n (pc := 53) d_M_wordAt_53 (Nat.le_of_ble_eq_true rfl) ?_
          dsimp only [List.set]
          refine e_iinc (pc := 54) d_M_wordAt_54 rfl (Nat.le_of_ble_eq_true rfl) ?_
          dsimp only [List.set]
          refine e_goto (pc := 57) (tgt := 9) d_M_wordAt_57 (by decide) ?_
          refine e_iload_n (pc := 9) d_M_wordAt_9 rfl ?_
          refine e_iconst (pc := 10) (v := 3) d_M_wordAt_10 (by decide) ?_
          refine e_icmp_ge (pc := 11) (tgt := 60) d_M_wordAt_11 (by decide) (fun h9 => absurd h9 (by decide)) (fun _ => ?_)
          refine e_aload_n (pc := 14) d_M_wordAt_14 rfl ?_
          refine e_iload_n (pc := 15) d_M_wordAt_15 rfl ?_
          refine e_topi (y := nI 2) (by decide) ?_
          refine e_iload_n (pc := 16) d_M_wordAt_16 rfl ?_
          refine e_cV2 (pc := 17) s_M_wordAt_17 (sM_has (c := 2) (by decide) hk) rfl rfl rfl (Nat.le_of_ble_eq_true rfl) (Nat.le_of_ble_eq_true rfl) (Nat.le_of_ble_eq_true rfl) (zGo.v ?_)
          refine e_if_eq (pc := 20) (tgt := 52) d_M_wordAt_20 (by decide) (fun h29 => ?_) (fun h29 => ?_)
          · replace h29 := b0.mp h29
            refine e_iload_n (pc := 52) d_M_wordAt_52 rfl ?_
            refine e_istore_n (pc := 53) d_M_wordAt_53 (Nat.le_of_ble_eq_true rfl) ?_
            dsimp only [List.set]
            refine e_iinc (pc := 54) d_M_wordAt_54 rfl (Nat.le_of_ble_eq_true rfl) ?_
            dsimp only [List.set]
            refine e_goto (pc := 57) (tgt := 9) d_M_wordAt_57 (by decide) ?_
            refine e_iload_n (pc := 9) d_M_wordAt_9 rfl ?_
            refine e_iconst (pc := 10) (v := 3) d_M_wordAt_10 (by decide) ?_
            refine e_icmp_ge (pc := 11) (tgt := 60) d_M_wordAt_11 (by decide) (fun _ => ?_) (fun h9 => absurd (by decide) h9)
            refine e_iload_n (pc := 60) d_M_wordAt_60 rfl ?_
            exact e_iret (pc := 61) d_M_wordAt_61 rfl rfl (Nat.le_of_ble_eq_true rfl) (Nat.le_of_ble_eq_true rfl) (zR (by simp [wdM, hasS, h7, h16, h25, h28, h29]))
          · replace h29 := b1.mp h29
            refine e_aload_n (pc := 23) d_M_wordAt_23 rfl ?_
            refine e_get (pc := 24) s_M_wordAt_24 rfl rfl ?_
            refine e_aload_n (pc := 27) d_M_wordAt_27 rfl ?_
            refine e_iload_n (pc := 28) d_M_wordAt_28 rfl ?_
            refine e_topi (y := nI 2) (by decide) ?_
            refine e_iload_n (pc := 29) d_M_wordAt_29 rfl ?_
            refine e_cV2 (pc := 30) s_M_wordAt_30 (sM_lineOf (c := 2) (by decide) hk) rfl rfl rfl (Nat.le_of_ble_eq_true rfl) (Nat.le_of_ble_eq_true rfl) (Nat.le_of_ble_eq_true rfl) (zGo.v ?_)
            refine e_iald (pc := 33) d_M_wordAt_33 rfl (vp_in_nI (by omega) (by decide)) (fx2 (c := 2) (nI_clamp (by omega)) (Nat.mod_lt _ (by decide))) ?_
            refine e_iconst (pc := 34) (v := 3) d_M_wordAt_34 (by decide) ?_
            refine e_icmp_ne (pc := 35) (tgt := 52) d_M_wordAt_35 (by decide) (fun h30 => ?_) (fun h30 => ?_)
            · refine e_iload_n (pc := 52) d_M_wordAt_52 rfl ?_
              refine e_istore_n (pc := 53) d_M_wordAt_53 (Nat.le_of_ble_eq_true rfl) ?_
              dsimp only [List.set]
              refine e_iinc (pc := 54) d_M_wordAt_54 rfl (Nat.le_of_ble_eq_true rfl) ?_
              dsimp only [List.set]
              refine e_goto (pc := 57) (tgt := 9) d_M_wordAt_57 (by decide) ?_
              refine e_iload_n (pc := 9) d_M_wordAt_9 rfl ?_
              refine e_iconst (pc := 10) (v := 3) d_M_wordAt_10 (by decide) ?_
              refine e_icmp_ge (pc := 11) (tgt := 60) d_M_wordAt_11 (by decide) (fun _ => ?_) (fun h9 => absurd (by decide) h9)
              refine e_iload_n (pc := 60) d_M_wordAt_60 rfl ?_
              exact e_iret (pc := 61) d_M_wordAt_61 rfl rfl (Nat.le_of_ble_eq_true rfl) (Nat.le_of_ble_eq_true rfl) (zR (by simp [wdM, hasS, h7, h16, h25, h28, h29, h30]))
            · refine e_aload_n (pc := 38) d_M_wordAt_38 rfl ?_
              refine e_get (pc := 39) s_M_wordAt_39 rfl rfl ?_
              refine e_aload_n (pc := 42) d_M_wordAt_42 rfl ?_
              refine e_iload_n (pc := 43) d_M_wordAt_43 rfl ?_
              refine e_topi (y := nI 2) (by decide) ?_
              refine e_iload_n (pc := 44) d_M_wordAt_44 rfl ?_
              refine e_cV2 (pc := 45) s_M_wordAt_45 (sM_lineOf (c := 2) (by decide) hk) rfl rfl rfl (Nat.le_of_ble_eq_true rfl) (Nat.le_of_ble_eq_true rfl) (Nat.le_of_ble_eq_true rfl) (zGo.v ?_)
              refine e_iald (pc := 48) d_M_wordAt_48 rfl (vp_in_nI (by omega) (by decide)) (fx2 (c := 2) (nI_clamp (by omega)) (Nat.mod_lt _ (by decide))) ?_
              refine e_goto (pc := 49) (tgt := 53) d_M_wordAt_49 (by decide) ?_
              refine e_istore_n (pc := 53) d_M_wordAt_53 (Nat.le_of_ble_eq_true rfl) ?_
              dsimp only [List.set]
              refine e_iinc (pc := 54) d_M_wordAt_54 rfl (Nat.le_of_ble_eq_true rfl) ?_
              dsimp only [List.set]
              refine e_goto (pc := 57) (tgt := 9) d_M_wordAt_57 (by decide) ?_
              refine e_iload_n (pc := 9) d_M_wordAt_9 rfl ?_
              refine e_iconst (pc := 10) (v := 3) d_M_wordAt_10 (by decide) ?_
              refine e_icmp_ge (pc := 11) (tgt := 60) d_M_wordAt_11 (by decide) (fun _ => ?_) (fun h9 => absurd (by decide) h9)
              refine e_iload_n (pc := 60) d_M_wordAt_60 rfl ?_
              exact e_iret (pc := 61) d_M_wordAt_61 rfl rfl (Nat.le_of_ble_eq_true rfl) (Nat.le_of_ble_eq_true rfl) (zR (by simp [wdM, hasS, h7, h16, h25, h28, h29, h30]))
        · refine e_aload_n (pc := 38) d_M_wordAt_38 rfl ?_
          refine e_get (pc := 39) s_M_wordAt_39 rfl rfl ?_
          refine e_aload_n (pc := 42) d_M_wordAt_42 rfl ?_
          refine e_iload_n (pc := 43) d_M_wordAt_43 rfl ?_
          refine e_topi (y := nI 1) (by decide) ?_
          refine e_iload_n (pc := 44) d_M_wordAt_44 rfl ?_
          refine e_cV2 (pc := 45) s_M_wordAt_45 (sM_lineOf (c := 1) (by decide) hk) rfl rfl rfl (Nat.le_of_ble_eq_true rfl) (Nat.le_of_ble_eq_true rfl) (Nat.le_of_ble_eq_true rfl) (zGo.v ?_)
          refine e_iald (pc := 48) d_M_wordAt_48 rfl (vp_in_nI (by omega) (by decide)) (fx2 (c := 1) (nI_clamp (by omega)) (Nat.mod_lt _ (by decide))) ?_
          refine e_goto (pc := 49) (tgt := 53) d_M_wordAt_49 (by decide) ?_
          refine e_istore_n (pc := 53) d_M_wordAt_53 (Nat.le_of_ble_eq_true rfl) ?_
          dsimp only [List.set]
          refine e_iinc (pc := 54) d_M_wordAt_54 rfl (Nat.le_of_ble_eq_true rfl) ?_
          dsimp only [List.set]
          refine e_goto (pc := 57) (tgt := 9) d_M_wordAt_57 (by decide) ?_
          refine e_iload_n (pc := 9) d_M_wordAt_9 rfl ?_
          refine e_iconst (pc := 10) (v := 3) d_M_wordAt_10 (by decide) ?_
          refine e_icmp_ge (pc := 11) (tgt := 60) d_M_wordAt_11 (by decide) (fun h9 => absurd h9 (by decide)) (fun _ => ?_)
          refine e_aload_n (pc := 14) d_M_wordAt_14 rfl ?_
          refine e_iload_n (pc := 15) d_M_wordAt_15 rfl ?_
          refine e_topi (y := nI 2) (by decide) ?_
          refine e_iload_n (pc := 16) d_M_wordAt_16 rfl ?_
          refine e_cV2 (pc := 17) s_M_wordAt_17 (sM_has (c := 2) (by decide) hk) rfl rfl rfl (Nat.le_of_ble_eq_true rfl) (Nat.le_of_ble_eq_true rfl) (Nat.le_of_ble_eq_true rfl) (zGo.v ?_)
          refine e_if_eq (pc := 20) (tgt := 52) d_M_wordAt_20 (by decide) (fun h31 => ?_) (fun h31 => ?_)
          · replace h31 := b0.mp h31
            refine e_iload_n (pc := 52) d_M_wordAt_52 rfl ?_
            refine e_istore_n (pc := 53) d_M_wordAt_53 (Nat.le_of_ble_eq_true rfl) ?_
            dsimp only [List.set]
            refine e_iinc (pc := 54) d_M_wordAt_54 rfl (Nat.le_of_ble_eq_true rfl) ?_
            dsimp only [List.set]
            refine e_goto (pc := 57) (tgt := 9) d_M_wordAt_57 (by decide) ?_
            refine e_iload_n (pc := 9) d_M_wordAt_9 rfl ?_
            refine e_iconst (pc := 10) (v := 3) d_M_wordAt_10 (by decide) ?_
            refine e_icmp_ge (pc := 11) (tgt := 60) d_M_wordAt_11 (by decide) (fun _ => ?_) (fun h9 => absurd (by decide) h9)
            refine e_iload_n (pc := 60) d_M_wordAt_60 rfl ?_
            exact e_iret (pc := 61) d_M_wordAt_61 rfl rfl (Nat.le_of_ble_eq_true rfl) (Nat.le_of_ble_eq_true rfl) (zR (by simp [wdM, hasS, h7, h16, h25, h28, h31]))
          · replace h31 := b1.mp h31
            refine e_aload_n (pc := 23) d_M_wordAt_23 rfl ?_
            refine e_get (pc := 24) s_M_wordAt_24 rfl rfl ?_
            refine e_aload_n (pc := 27) d_M_wordAt_27 rfl ?_
            refine e_iload_n (pc := 28) d_M_wordAt_28 rfl ?_
            refine e_topi (y := nI 2) (by decide) ?_
            refine e_iload_n (pc := 29) d_M_wordAt_29 rfl ?_
            refine e_cV2 (pc := 30) s_M_wordAt_30 (sM_lineOf (c := 2) (by decide) hk) rfl rfl rfl (Nat.le_of_ble_eq_true rfl) (Nat.le_of_ble_eq_true rfl) (Nat.le_of_ble_eq_true rfl) (zGo.v ?_)
            refine e_iald (pc := 33) d_M_wordAt_33 rfl (vp_in_nI (by omega) (by decide)) (fx2 (c := 2) (nI_clamp (by omega)) (Nat.mod_lt _ (by decide))) ?_
            refine e_iconst (pc := 34) (v := 3) d_M_wordAt_34 (by decide) ?_
            refine e_icmp_ne (pc := 35) (tgt := 52) d_M_wordAt_35 (by decide) (fun h32 => ?_) (fun h32 => ?_)
            · refine e_iload_n (pc := 52) d_M_wordAt_52 rfl ?_
              refine e_istore_n (pc := 53) d_M_wordAt_53 (Nat.le_of_ble_eq_true rfl) ?_
              dsimp only [List.set]
              refine e_iinc (pc := 54) d_M_wordAt_54 rfl (Nat.le_of_ble_eq_true rfl) ?_
              dsimp only [List.set]
              refine e_goto (pc := 57) (tgt := 9) d_M_wordAt_57 (by decide) ?_
              refine e_iload_n (pc := 9) d_M_wordAt_9 rfl ?_
              refine e_iconst (pc := 10) (v := 3) d_M_wordAt_10 (by decide) ?_
              refine e_icmp_ge (pc := 11) (tgt := 60) d_M_wordAt_11 (by decide) (fun _ => ?_) (fun h9 => absurd (by decide) h9)
              refine e_iload_n (pc := 60) d_M_wordAt_60 rfl ?_
              exact e_iret (pc := 61) d_M_wordAt_61 rfl rfl (Nat.le_of_ble_eq_true rfl) (Nat.le_of_ble_eq_true rfl) (zR (by simp [wdM, hasS, h7, h16, h25, h28, h31, h32]))
            · refine e_aload_n (pc := 38) d_M_wordAt_38 rfl ?_
              refine e_get (pc := 39) s_M_wordAt_39 rfl rfl ?_
              refine e_aload_n (pc := 42) d_M_wordAt_42 rfl ?_
              refine e_iload_n (pc := 43) d_M_wordAt_43 rfl ?_
              refine e_topi (y := nI 2) (by decide) ?_
              refine e_iload_n (pc := 44) d_M_wordAt_44 rfl ?_
              refine e_cV2 (pc := 45) s_M_wordAt_45 (sM_lineOf (c := 2) (by decide) hk) rfl rfl rfl (Nat.le_of_ble_eq_true rfl) (Nat.le_of_ble_eq_true rfl) (Nat.le_of_ble_eq_true rfl) (zGo.v ?_)
              refine e_iald (pc := 48) d_M_wordAt_48 rfl (vp_in_nI (by omega) (by decide)) (fx2 (c := 2) (nI_clamp (by omega)) (Nat.mod_lt _ (by decide))) ?_
              refine e_goto (pc := 49) (tgt := 53) d_M_wordAt_49 (by decide) ?_
              refine e_istore_n (pc := 53) d_M_wordAt_53 (Nat.le_of_ble_eq_true rfl) ?_
              dsimp only [List.set]
              refine e_iinc (pc := 54) d_M_wordAt_54 rfl (Nat.le_of_ble_eq_true rfl) ?_
              dsimp only [List.set]
              refine e_goto (pc := 57) (tgt := 9) d_M_wordAt_57 (by decide) ?_
              refine e_iload_n (pc := 9) d_M_wordAt_9 rfl ?_
              refine e_iconst (pc := 10) (v := 3) d_M_wordAt_10 (by decide) ?_
              refine e_icmp_ge (pc := 11) (tgt := 60) d_M_wordAt_11 (by decide) (fun _ => ?_) (fun h9 => absurd (by decide) h9)
              refine e_iload_n (pc := 60) d_M_wordAt_60 rfl ?_
              exact e_iret (pc := 61) d_M_wordAt_61 rfl rfl (Nat.le_of_ble_eq_true rfl) (Nat.le_of_ble_eq_true rfl) (zR (by simp [wdM, hasS, h7, h16, h25, h28, h31, h32]))
set_option maxHeartbeats 4000000 in
set_option maxRecDepth 100000 in
theorem sM_note {l : Launch} {G : zGP} {K : Nat} {S T : St} {th : Int32} {fo : Nat → Int64} {n : Nat} {kd co x v : Int32} (hn : n < 1024) (h17 : T 17 0 0 = nI n) : Rn l G m_M_note [.ref 45, .int kd, .int co, .int x, .int v] (hpA K S T th fo) (.inl none, (hpA K S (noteS T n kd co x v) th fo)) := by
  refine Rn.of (by decide) rfl rfl (Nat.le_of_ble_eq_true rfl) rfl ?_
  show Ev l G m_M_note 0 [.ref 45, .int kd, .int co, .int x, .int v] [] (hpA K S T th fo) 0 0 _
  refine e_aload_n (pc := 0) d_M_note_0 rfl ?_
  refine e_get (pc := 1) s_M_note_1 rfl rfl ?_
  refine e_aload_n (pc := 4) d_M_note_4 rfl ?_
  refine e_get (pc := 5) s_M_note_5 rfl rfl ?_
  refine e_topi (y := nI n) h17 ?_
  refine e_bipush (pc := 8) (v := 40) d_M_note_8 (by decide) ?_
  refine e_irem (pc := 10) d_M_note_10 (by decide) ?_
  refine e_topi (y := nI (n % 40)) (pk_rem (by omega) (by decide) (by decide)) ?_
  refine e_iload_n (pc := 11) d_M_note_11 rfl ?_
  refine e_iconst (pc := 12) (v := 4) d_M_note_12 (by decide) ?_
  refine e_iload_n (pc := 13) d_M_note_13 rfl ?_
  refine e_imul (pc := 14) d_M_note_14 ?_
  refine e_iadd (pc := 15) d_M_note_15 ?_
  refine e_bipush (pc := 16) (v := 16) d_M_note_16 (by decide) ?_
  refine e_iload_n (pc := 18) d_M_note_18 rfl ?_
  refine e_imul (pc := 19) d_M_note_19 ?_
  refine e_iadd (pc := 20) d_M_note_20 ?_
  refine e_iast (pc := 21) d_M_note_21 rfl (vp_in_nI (by omega) (by decide)) (vHd (nI_clamp (by omega))) ?_
  refine e_aload_n (pc := 22) d_M_note_22 rfl ?_
  refine e_get (pc := 23) s_M_note_23 rfl rfl ?_
  refine e_aload_n (pc := 26) d_M_note_26 rfl ?_
  refine e_get (pc := 27) s_M_note_27 rfl rfl ?_
  refine e_topi (y := nI n) h17 ?_
  refine e_bipush (pc := 30) (v := 40) d_M_note_30 (by decide) ?_
  refine e_irem (pc := 32) d_M_note_32 (by decide) ?_
  refine e_topi (y := nI (n % 40)) (pk_rem (by omega) (by decide) (by decide)) ?_
  refine e_iload (pc := 33) d_M_note_33 rfl ?_
  refine e_iast (pc := 35) d_M_note_35 rfl (vp_in_nI (by omega) (by decide)) (vHv (nI_clamp (by omega))) ?_
  refine e_aload_n (pc := 36) d_M_note_36 rfl ?_
  refine e_dup (pc := 37) d_M_note_37 rfl ?_
  refine e_get (pc := 38) s_M_note_38 rfl rfl ?_
  refine e_iconst (pc := 41) (v := 1) d_M_note_41 (by decide) ?_
  refine e_iadd (pc := 42) d_M_note_42 ?_
  refine e_put (pc := 43) s_M_note_43 rfl (Nat.le_of_ble_eq_true rfl) zFit.int vEv ?_
  exact e_vret (pc := 46) d_M_note_46 rfl (Nat.le_of_ble_eq_true rfl) (Nat.le_of_ble_eq_true rfl) rfl
set_option maxHeartbeats 4000000 in
set_option maxRecDepth 100000 in
theorem sM_writeBack {l : Launch} {G : zGP} {K : Nat} {S T : St} {th : Int32} {fo : Nat → Int64} {c j t : Nat} (hc : c < 3) (hj : j < 2) (ht : t < 8) (h10 : T 10 c j = nI t) : Rn l G m_M_writeBack [.ref 45, .int (nI (2 * c + j))] (hpA K S T th fo) (.inl none, (hpA K S (wbS T c j) th fo)) := by
  refine Rn.of (by decide) rfl rfl (Nat.le_of_ble_eq_true rfl) rfl ?_
  show Ev l G m_M_writeBack 0 [.ref 45, .int (nI (2 * c + j))] [] (hpA K S T th fo) 0 0 _
  refine e_aload_n (pc := 0) d_M_writeBack_0 rfl ?_
  refine e_get (pc := 1) s_M_writeBack_1 rfl rfl ?_
  refine e_iload_n (pc := 4) d_M_writeBack_4 rfl ?_
  refine e_iald (pc := 5) d_M_writeBack_5 rfl (vp_in_nI (by omega) (by decide)) (fx2 (nI_clamp (by omega)) hj) ?_
  refine e_iconst (pc := 6) (v := 3) d_M_writeBack_6 (by decide) ?_
  refine e_icmp_ne (pc := 7) (tgt := 27) d_M_writeBack_7 (by decide) (fun h33 => ?_) (fun h33 => ?_)
  · exact e_vret (pc := 27) d_M_writeBack_27 rfl (Nat.le_of_ble_eq_true rfl) (Nat.le_of_ble_eq_true rfl) (zN2 (by simp [wbS, h33]))
  · refine e_aload_n (pc := 10) d_M_writeBack_10 rfl ?_
    refine e_get (pc := 11) s_M_writeBack_11 rfl rfl ?_
    refine e_aload_n (pc := 14) d_M_writeBack_14 rfl ?_
    refine e_get (pc := 15) s_M_writeBack_15 rfl rfl ?_
    refine e_iload_n (pc := 18) d_M_writeBack_18 rfl ?_
    refine e_iald (pc := 19) d_M_writeBack_19 rfl (vp_in_nI (by omega) (by decide)) ((fx2 (nI_clamp (by omega)) hj).trans h10) ?_
    refine e_aload_n (pc := 20) d_M_writeBack_20 rfl ?_
    refine e_get (pc := 21) s_M_writeBack_21 rfl rfl ?_
    refine e_iload_n (pc := 24) d_M_writeBack_24 rfl ?_
    refine e_iald (pc := 25) d_M_writeBack_25 rfl (vp_in_nI (by omega) (by decide)) (fx2 (nI_clamp (by omega)) hj) ?_
    refine e_iast (pc := 26) d_M_writeBack_26 rfl (vp_in_nI ht (by decide)) (vMem (congrArg Int32.toNatClampNeg h10.symm)) ?_
    exact e_vret (pc := 27) d_M_writeBack_27 rfl (Nat.le_of_ble_eq_true rfl) (Nat.le_of_ble_eq_true rfl) (zN2 (by simp [wbS, h33]))
set_option maxHeartbeats 4000000 in
set_option maxRecDepth 100000 in
theorem sM_askR {l : Launch} {G : zGP} {K : Nat} {S T : St} {th : Int32} {fo : Nat → Int64} {c : Nat} (hc : c < 3) {x : Int32} : Rn l G m_M_ask [.ref 45, .int (nI c), .int x, .int 0] (hpA K S T th fo) (.inl none, (hpA K S (askM T c 1 x) th fo)) := by
  refine Rn.of (by decide) rfl rfl (Nat.le_of_ble_eq_true rfl) rfl ?_
  show Ev l G m_M_ask 0 [.ref 45, .int (nI c), .int x, .int 0] [] (hpA K S T th fo) 0 0 _
  refine e_aload_n (pc := 0) d_M_ask_0 rfl ?_
  refine e_get (pc := 1) s_M_ask_1 rfl rfl ?_
  refine e_iload_n (pc := 4) d_M_ask_4 rfl ?_
  refine e_iald (pc := 5) d_M_ask_5 rfl (vp_in_nI (by omega) (by decide)) (fx1 (nI_clamp (by omega))) ?_
  refine e_if_ne (pc := 6) (tgt := 38) d_M_ask_6 (by decide) (fun h34 => ?_) (fun h34 => ?_)
  · exact e_vret (pc := 38) d_M_ask_38 rfl (Nat.le_of_ble_eq_true rfl) (Nat.le_of_ble_eq_true rfl) (zN2 (by simp [askM, h34]))
  · refine e_aload_n (pc := 9) d_M_ask_9 rfl ?_
    refine e_get (pc := 10) s_M_ask_10 rfl rfl ?_
    refine e_iload_n (pc := 13) d_M_ask_13 rfl ?_
    refine e_iload_n (pc := 14) d_M_ask_14 rfl ?_
    refine e_if_eq (pc := 15) (tgt := 22) d_M_ask_15 (by decide) (fun _ => ?_) (fun h9 => absurd (by decide) h9)
    refine e_iconst (pc := 22) (v := 1) d_M_ask_22 (by decide) ?_
    refine e_iast (pc := 23) d_M_ask_23 rfl (vp_in_nI (by omega) (by decide)) (vWk (nI_clamp (by omega))) ?_
    refine e_aload_n (pc := 24) d_M_ask_24 rfl ?_
    refine e_get (pc := 25) s_M_ask_25 rfl rfl ?_
    refine e_iload_n (pc := 28) d_M_ask_28 rfl ?_
    refine e_iload_n (pc := 29) d_M_ask_29 rfl ?_
    refine e_iast (pc := 30) d_M_ask_30 rfl (vp_in_nI (by omega) (by decide)) (vWx (nI_clamp (by omega))) ?_
    refine e_aload_n (pc := 31) d_M_ask_31 rfl ?_
    refine e_get (pc := 32) s_M_ask_32 rfl rfl ?_
    refine e_iload_n (pc := 35) d_M_ask_35 rfl ?_
    refine e_iconst (pc := 36) (v := 0) d_M_ask_36 (by decide) ?_
    refine e_zast (pc := 37) d_M_ask_37 rfl (vp_in_nI (by omega) (by decide)) (Or.inl rfl) (vWf (nI_clamp (by omega))) ?_
    exact e_vret (pc := 38) d_M_ask_38 rfl (Nat.le_of_ble_eq_true rfl) (Nat.le_of_ble_eq_true rfl) (zN2 (by simp [askM, h34]))
set_option maxHeartbeats 4000000 in
set_option maxRecDepth 100000 in
theorem sM_askO {l : Launch} {G : zGP} {K : Nat} {S T : St} {th : Int32} {fo : Nat → Int64} {c : Nat} (hc : c < 3) {x : Int32} : Rn l G m_M_ask [.ref 45, .int (nI c), .int x, .int 1] (hpA K S T th fo) (.inl none, (hpA K S (askM T c 2 x) th fo)) := by
  refine Rn.of (by decide) rfl rfl (Nat.le_of_ble_eq_true rfl) rfl ?_
  show Ev l G m_M_ask 0 [.ref 45, .int (nI c), .int x, .int 1] [] (hpA K S T th fo) 0 0 _
  refine e_aload_n (pc := 0) d_M_ask_0 rfl ?_
  refine e_get (pc := 1) s_M_ask_1 rfl rfl ?_
  refine e_iload_n (pc := 4) d_M_ask_4 rfl ?_
  refine e_iald (pc := 5) d_M_ask_5 rfl (vp_in_nI (by omega) (by decide)) (fx1 (nI_clamp (by omega))) ?_
  refine e_if_ne (pc := 6) (tgt := 38) d_M_ask_6 (by decide) (fun h35 => ?_) (fun h35 => ?_)
  · exact e_vret (pc := 38) d_M_ask_38 rfl (Nat.le_of_ble_eq_true rfl) (Nat.le_of_ble_eq_true rfl) (zN2 (by simp [askM, h35]))
  · refine e_aload_n (pc := 9) d_M_ask_9 rfl ?_
    refine e_get (pc := 10) s_M_ask_10 rfl rfl ?_
    refine e_iload_n (pc := 13) d_M_ask_13 rfl ?_
    refine e_iload_n (pc := 14) d_M_ask_14 rfl ?_
    refine e_if_eq (pc := 15) (tgt := 22) d_M_ask_15 (by decide) (fun h9 => absurd h9 (by decide)) (fun _ => ?_)
    refine e_iconst (pc := 18) (v := 2) d_M_ask_18 (by decide) ?_
    refine e_goto (pc := 19) (tgt := 23) d_M_ask_19 (by decide) ?_
    refine e_iast (pc := 23) d_M_ask_23 rfl (vp_in_nI (by omega) (by decide)) (vWk (nI_clamp (by omega))) ?_
    refine e_aload_n (pc := 24) d_M_ask_24 rfl ?_
    refine e_get (pc := 25) s_M_ask_25 rfl rfl ?_
    refine e_iload_n (pc := 28) d_M_ask_28 rfl ?_
    refine e_iload_n (pc := 29) d_M_ask_29 rfl ?_
    refine e_iast (pc := 30) d_M_ask_30 rfl (vp_in_nI (by omega) (by decide)) (vWx (nI_clamp (by omega))) ?_
    refine e_aload_n (pc := 31) d_M_ask_31 rfl ?_
    refine e_get (pc := 32) s_M_ask_32 rfl rfl ?_
    refine e_iload_n (pc := 35) d_M_ask_35 rfl ?_
    refine e_iconst (pc := 36) (v := 0) d_M_ask_36 (by decide) ?_
    refine e_zast (pc := 37) d_M_ask_37 rfl (vp_in_nI (by omega) (by decide)) (Or.inl rfl) (vWf (nI_clamp (by omega))) ?_
    exact e_vret (pc := 38) d_M_ask_38 rfl (Nat.le_of_ble_eq_true rfl) (Nat.le_of_ble_eq_true rfl) (zN2 (by simp [askM, h35]))
