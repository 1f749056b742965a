/-! ===== lines, words, the buffer's loops ===== -/
theorem zR {a b : Int32} {hp : List va_E} (h : a = b) : (((Sum.inl (some (Value.int a)), hp)) : zRes) = (Sum.inl (some (Value.int b)), hp) := by rw [h]
theorem zH {K : Nat} {S S2 T : St} {th : Int32} {fo : Nat → Int64} {q : Option Value ⊕ String} (h : S = S2) : ((q, hpA K S T th fo) : zRes) = (q, hpA K S2 T th fo) := by rw [h]
theorem b0 {P : Prop} [Decidable P] : (if P then (1 : Int32) else 0) = 0 ↔ ¬ P := by
  by_cases h : P
  · rw [if_pos h]; exact ⟨fun q => absurd q (by decide), fun q => absurd h q⟩
  · rw [if_neg h]; exact ⟨fun _ => h, fun _ => rfl⟩
theorem b1 {P : Prop} [Decidable P] : ¬ (if P then (1 : Int32) else 0) = 0 ↔ P := by
  rw [b0]; exact Decidable.not_not
theorem vp_dec {i : Int32} {n : Nat} (h : ¬ (i < 0 ∨ n ≤ i.toNatClampNeg)) : vp_in i n := h
theorem vp_lit {i : Int32} {n N : Nat} (e : i = nI n) (h : n < N) (hN : N < 2 ^ 31) : vp_in i N := by subst e; exact vp_in_nI h hN
theorem pC_inj {a b : Nat} : pC a = pC b ↔ a = b := by unfold pC; omega
abbrev hasS (S : St) (c k : Nat) : Prop := ¬ S 9 c (k % 2) = 0 ∧ S 10 c (k % 2) = nI k
abbrev flyS (S : St) (c k : Nat) : Prop := ¬ S 14 c 0 = 0 ∧ S 13 c 0 = nI k
def wbS (S : St) (c j : Nat) : St := if S 9 c j = 3 then su S 16 0 (S 10 c j).toNatClampNeg (S 11 c j) else S
def mrS (S : St) (c k : Nat) : St := if hasS S c k then S else su (wbS S c (k % 2)) 9 c (k % 2) 0
def gwS (S : St) (c k : Nat) (kd : Int32) : St := if hasS S c k then su (wbS S c (k % 2)) 9 c (k % 2) (if kd = 1 then 1 else 0) else S
def wdS (S : St) (k : Nat) : Int32 := if hasS S 0 k ∧ S 9 0 (k % 2) = 3 then S 11 0 (k % 2) else if hasS S 1 k ∧ S 9 1 (k % 2) = 3 then S 11 1 (k % 2) else if hasS S 2 k ∧ S 9 2 (k % 2) = 3 then S 11 2 (k % 2) else S 16 0 k
abbrev useS (S : St) (k : Nat) : Prop := hasS S 0 k ∨ flyS S 0 k ∨ hasS S 1 k ∨ flyS S 1 k ∨ hasS S 2 k ∨ flyS S 2 k
abbrev elF (S : St) (c k : Nat) : Prop := (¬ 0 = c ∧ flyS S 0 k) ∨ (¬ 1 = c ∧ flyS S 1 k) ∨ (¬ 2 = c ∧ flyS S 2 k)
abbrev elH (S : St) (c k : Nat) : Prop := (¬ 0 = c ∧ hasS S 0 k) ∨ (¬ 1 = c ∧ hasS S 1 k) ∨ (¬ 2 = c ∧ hasS S 2 k)
def ynS (S : St) (c k : Nat) : Nat → Int32
  | 0 => -1
  | n + 1 => if S 7 c n = nI k then nI n else ynS S c k n
def shS (S : St) (c : Nat) : Nat → St
  | 0 => S
  | m + 1 => su (su (shS S c m) 7 c m (shS S c m 7 c (m + 1))) 8 c m (shS S c m 8 c (m + 1))
def rmS (S : St) (c n : Nat) : St := shS (su S 6 c 0 (nI (n - 1))) c (n - 1)
def vB (op : Nat) (a b : Int32) : Bool := match op with
  | 0 => if 0 ≤ a ∧ a < 4 then (if 0 ≤ b ∧ b < 4 then true else false) else false
  | 1 => if 0 ≤ a ∧ a < 4 then (if 0 ≤ b ∧ b < 4 then true else false) else false
  | 2 => true
  | 3 => if 0 ≤ a ∧ a < 4 then (if 0 ≤ b ∧ b < 4 then true else false) else false
  | 4 => if 0 ≤ a ∧ a < 4 then (if 0 ≤ b ∧ b < 4 then true else false) else false
  | 5 => if 0 ≤ a ∧ a < 4 then true else false
  | 6 => if 0 ≤ a ∧ a < 4 then (if b < 0 then false else if 16 ≤ b then false else true) else false
  | 7 => true
  | _ => false
set_option maxHeartbeats 4000000 in
set_option maxRecDepth 100000 in
theorem sA_writeBack {l : Launch} {G : zGP} {K : Nat} {S T : St} {th : Int32} {fo : Nat → Int64} {c j : Nat} (hc : c < 3) (hj : j < 2) {t : Nat} (ht : t < 8) (h10 : S 10 c j = nI t) : Rn l G m_B_writeBack [.ref 0, .ref (pC c + 11 + j)] (hpA K S T th fo) (.inl none, (hpA K (wbS S c j) T th fo)) := by
  refine Rn.of (by decide) rfl rfl (Nat.le_of_ble_eq_true rfl) rfl ?_
  show Ev l G m_B_writeBack 0 [.ref 0, .ref (pC c + 11 + j)] [] (hpA K S T th fo) 0 0 _
  refine e_aload_n (pc := 0) d_B_writeBack_0 rfl ?_
  refine e_get (pc := 1) s_B_writeBack_1 (rL hc hj) rfl ?_
  refine e_iconst (pc := 4) (v := 3) d_B_writeBack_4 (by decide) ?_
  refine e_icmp_ne (pc := 5) (tgt := 21) d_B_writeBack_5 (by decide) (fun h1 => ?_) (fun h1 => ?_)
  · exact e_vret (pc := 21) d_B_writeBack_21 rfl (Nat.le_of_ble_eq_true rfl) (Nat.le_of_ble_eq_true rfl) (zH (by simp [wbS, h1]))
  · refine e_aload_n (pc := 8) d_B_writeBack_8 rfl ?_
    refine e_get (pc := 9) s_B_writeBack_9 rfl rfl ?_
    refine e_aload_n (pc := 12) d_B_writeBack_12 rfl ?_
    refine e_get (pc := 13) s_B_writeBack_13 (rL hc hj) rfl ?_
    refine e_topi (y := nI t) h10 ?_
    refine e_aload_n (pc := 16) d_B_writeBack_16 rfl ?_
    refine e_get (pc := 17) s_B_writeBack_17 (rL hc hj) rfl ?_
    refine e_iast (pc := 20) d_B_writeBack_20 rfl (vp_in_nI (by omega) (by decide)) (wMem (congrArg Int32.toNatClampNeg h10.symm)) ?_
    exact e_vret (pc := 21) d_B_writeBack_21 rfl (Nat.le_of_ble_eq_true rfl) (Nat.le_of_ble_eq_true rfl) (zH (by simp [wbS, h1]))
set_option maxHeartbeats 4000000 in
set_option maxRecDepth 100000 in
theorem sA_makeRoom {l : Launch} {G : zGP} {K : Nat} {S T : St} {th : Int32} {fo : Nat → Int64} {c k t : Nat} (hc : c < 3) (hk : k < 8) (ht : t < 8) (h10 : S 10 c (k % 2) = nI t) : Rn l G m_B_makeRoom [.ref 0, .ref (pC c + 11 + k % 2), .int (nI k)] (hpA K S T th fo) (.inl none, (hpA K (mrS S c k) T th fo)) := by
  refine Rn.of (by decide) rfl rfl (Nat.le_of_ble_eq_true rfl) rfl ?_
  show Ev l G m_B_makeRoom 0 [.ref 0, .ref (pC c + 11 + k % 2), .int (nI k)] [] (hpA K S T th fo) 0 0 _
  refine e_aload_n (pc := 0) d_B_makeRoom_0 rfl ?_
  refine e_iload_n (pc := 1) d_B_makeRoom_1 rfl ?_
  refine e_cV1 (pc := 2) s_B_makeRoom_2 (sA_has hc (Nat.mod_lt _ (by decide))) (rL hc (Nat.mod_lt _ (by decide))) rfl rfl (Nat.le_of_ble_eq_true rfl) (Nat.le_of_ble_eq_true rfl) (Nat.le_of_ble_eq_true rfl) (zGo.v ?_)
  refine e_if_ne (pc := 5) (tgt := 18) d_B_makeRoom_5 (by decide) (fun h2 => ?_) (fun h2 => ?_)
  · replace h2 := b1.mp h2
    exact e_vret (pc := 18) d_B_makeRoom_18 rfl (Nat.le_of_ble_eq_true rfl) (Nat.le_of_ble_eq_true rfl) (zH (by simp [mrS, hasS, h2]))
  · replace h2 := b0.mp h2
    refine e_aload_n (pc := 8) d_B_makeRoom_8 rfl ?_
    refine e_aload_n (pc := 9) d_B_makeRoom_9 rfl ?_
    refine e_cV1 (pc := 10) s_B_makeRoom_10 (sA_writeBack hc (Nat.mod_lt _ (by decide)) ht h10) rfl rfl rfl (Nat.le_of_ble_eq_true rfl) (Nat.le_of_ble_eq_true rfl) (Nat.le_of_ble_eq_true rfl) (zGo.n ?_)
    refine e_aload_n (pc := 13) d_B_makeRoom_13 rfl ?_
    refine e_iconst (pc := 14) (v := 0) d_B_makeRoom_14 (by decide) ?_
    refine e_put (pc := 15) s_B_makeRoom_15 (rL hc (Nat.mod_lt _ (by decide))) (Nat.le_of_ble_eq_true rfl) zFit.int (wLs hc (Nat.mod_lt _ (by decide))) ?_
    exact e_vret (pc := 18) d_B_makeRoom_18 rfl (Nat.le_of_ble_eq_true rfl) (Nat.le_of_ble_eq_true rfl) (zH (by simp [mrS, hasS, h2]))
set_option maxHeartbeats 4000000 in
set_option maxRecDepth 100000 in
theorem sA_giveWay {l : Launch} {G : zGP} {K : Nat} {S T : St} {th : Int32} {fo : Nat → Int64} {c k t : Nat} (hc : c < 3) (hk : k < 8) (ht : t < 8) (h10 : S 10 c (k % 2) = nI t) {kd : Int32} : Rn l G m_B_giveWay [.ref 0, .ref (pC c + 11 + k % 2), .int (nI k), .int kd] (hpA K S T th fo) (.inl none, (hpA K (gwS S c k kd) T th fo)) := by
  refine Rn.of (by decide) rfl rfl (Nat.le_of_ble_eq_true rfl) rfl ?_
  show Ev l G m_B_giveWay 0 [.ref 0, .ref (pC c + 11 + k % 2), .int (nI k), .int kd] [] (hpA K S T th fo) 0 0 _
  refine e_aload_n (pc := 0) d_B_giveWay_0 rfl ?_
  refine e_iload_n (pc := 1) d_B_giveWay_1 rfl ?_
  refine e_cV1 (pc := 2) s_B_giveWay_2 (sA_has hc (Nat.mod_lt _ (by decide))) (rL hc (Nat.mod_lt _ (by decide))) rfl rfl (Nat.le_of_ble_eq_true rfl) (Nat.le_of_ble_eq_true rfl) (Nat.le_of_ble_eq_true rfl) (zGo.v ?_)
  refine e_if_eq (pc := 5) (tgt := 27) d_B_giveWay_5 (by decide) (fun h3 => ?_) (fun h3 => ?_)
  · replace h3 := b0.mp h3
    exact e_vret (pc := 27) d_B_giveWay_27 rfl (Nat.le_of_ble_eq_true rfl) (Nat.le_of_ble_eq_true rfl) (zH (by simp [gwS, hasS, h3]))
  · replace h3 := b1.mp h3
    refine e_aload_n (pc := 8) d_B_giveWay_8 rfl ?_
    refine e_aload_n (pc := 9) d_B_giveWay_9 rfl ?_
    refine e_cV1 (pc := 10) s_B_giveWay_10 (sA_writeBack hc (Nat.mod_lt _ (by decide)) ht h10) rfl rfl rfl (Nat.le_of_ble_eq_true rfl) (Nat.le_of_ble_eq_true rfl) (Nat.le_of_ble_eq_true rfl) (zGo.n ?_)
    refine e_aload_n (pc := 13) d_B_giveWay_13 rfl ?_
    refine e_iload_n (pc := 14) d_B_giveWay_14 rfl ?_
    refine e_iconst (pc := 15) (v := 1) d_B_giveWay_15 (by decide) ?_
    refine e_icmp_ne (pc := 16) (tgt := 23) d_B_giveWay_16 (by decide) (fun h4 => ?_) (fun h4 => ?_)
    · refine e_iconst (pc := 23) (v := 0) d_B_giveWay_23 (by decide) ?_
      refine e_put (pc := 24) s_B_giveWay_24 (rL hc (Nat.mod_lt _ (by decide))) (Nat.le_of_ble_eq_true rfl) zFit.int (wLs hc (Nat.mod_lt _ (by decide))) ?_
      exact e_vret (pc := 27) d_B_giveWay_27 rfl (Nat.le_of_ble_eq_true rfl) (Nat.le_of_ble_eq_true rfl) (zH (by simp [gwS, hasS, h3, h4]))
    · refine e_iconst (pc := 19) (v := 1) d_B_giveWay_19 (by decide) ?_
      refine e_goto (pc := 20) (tgt := 24) d_B_giveWay_20 (by decide) ?_
      refine e_put (pc := 24) s_B_giveWay_24 (rL hc (Nat.mod_lt _ (by decide))) (Nat.le_of_ble_eq_true rfl) zFit.int (wLs hc (Nat.mod_lt _ (by decide))) ?_
      exact e_vret (pc := 27) d_B_giveWay_27 rfl (Nat.le_of_ble_eq_true rfl) (Nat.le_of_ble_eq_true rfl) (zH (by simp [gwS, hasS, h3, h4]))
set_option maxHeartbeats 4000000 in
set_option maxRecDepth 100000 in
theorem sA_wordAt {l : Launch} {G : zGP} {K : Nat} {S T : St} {th : Int32} {fo : Nat → Int64} {k : Nat} (hk : k < 8) : Rn l G m_B_wordAt [.ref 0, .int (nI k)] (hpA K S T th fo) (.inl (some (.int (wdS S k))), (hpA K S T th fo)) := by
  refine Rn.of (by decide) rfl rfl (Nat.le_of_ble_eq_true rfl) rfl ?_
  show Ev l G m_B_wordAt 0 [.ref 0, .int (nI k), .double 0, .double 0] [] (hpA K S T th fo) 0 0 _
  refine e_iconst (pc := 0) (v := 0) d_B_wordAt_0 (by decide) ?_
  refine e_istore_n (pc := 1) d_B_wordAt_1 (Nat.le_of_ble_eq_true rfl) ?_
  dsimp only [List.set]
  refine e_iload_n (pc := 2) d_B_wordAt_2 rfl ?_
  refine e_iconst (pc := 3) (v := 3) d_B_wordAt_3 (by decide) ?_
  refine e_icmp_ge (pc := 4) (tgt := 45) d_B_wordAt_4 (by decide) (fun h9 => absurd h9 (by decide)) (fun _ => ?_)
  refine e_aload_n (pc := 7) d_B_wordAt_7 rfl ?_
  refine e_get (pc := 8) s_B_wordAt_8 rfl rfl ?_
  refine e_iload_n (pc := 11) d_B_wordAt_11 rfl ?_
  refine e_aald (pc := 12) d_B_wordAt_12 rfl rfl (vp_dec (by decide)) (ixg (n := 0) (by decide) (crR_at (c := 0) (by decide))) ?_
  refine e_iload_n (pc := 13) d_B_wordAt_13 rfl ?_
  refine e_cV1 (pc := 14) s_B_wordAt_14 (sA_lineFor (c := 0) (by decide) hk) (rC (c := 0) (by decide)) rfl rfl (Nat.le_of_ble_eq_true rfl) (Nat.le_of_ble_eq_true rfl) (Nat.le_of_ble_eq_true rfl) (zGo.v ?_)
  refine e_astore_n (pc := 17) d_B_wordAt_17 (Nat.le_of_ble_eq_true rfl) ?_
  dsimp only [List.set]
  refine e_aload_n (pc := 18) d_B_wordAt_18 rfl ?_
  refine e_iload_n (pc := 19) d_B_wordAt_19 rfl ?_
  refine e_cV1 (pc := 20) s_B_wordAt_20 (sA_has (c := 0) (j := k % 2) (by decide) (Nat.mod_lt _ (by decide))) (rL (c := 0) (j := k % 2) (by decide) (Nat.mod_lt _ (by decide))) rfl rfl (Nat.le_of_ble_eq_true rfl) (Nat.le_of_ble_eq_true rfl) (Nat.le_of_ble_eq_true rfl) (zGo.v ?_)
  refine e_if_eq (pc := 23) (tgt := 39) d_B_wordAt_23 (by decide) (fun h5 => ?_) (fun h5 => ?_)
  · replace h5 := b0.mp h5
    refine e_iinc (pc := 39) d_B_wordAt_39 rfl (Nat.le_of_ble_eq_true rfl) ?_
    dsimp only [List.set]
    refine e_goto (pc := 42) (tgt := 2) d_B_wordAt_42 (by decide) ?_
    refine e_iload_n (pc := 2) d_B_wordAt_2 rfl ?_
    refine e_iconst (pc := 3) (v := 3) d_B_wordAt_3 (by decide) ?_
    refine e_icmp_ge (pc := 4) (tgt := 45) d_B_wordAt_4 (by decide) (fun h9 => absurd h9 (by decide)) (fun _ => ?_)
    refine e_aload_n (pc := 7) d_B_wordAt_7 rfl ?_
    refine e_get (pc := 8) s_B_wordAt_8 rfl rfl ?_
    refine e_iload_n (pc := 11) d_B_wordAt_11 rfl ?_
    refine e_aald (pc := 12) d_B_wordAt_12 rfl rfl (vp_dec (by decide)) (ixg (n := 1) (by decide) (crR_at (c := 1) (by decide))) ?_
    refine e_iload_n (pc := 13) d_B_wordAt_13 rfl ?_
    refine e_cV1 (pc := 14) s_B_wordAt_14 (sA_lineFor (c := 1) (by decide) hk) (rC (c := 1) (by decide)) rfl rfl (Nat.le_of_ble_eq_true rfl) (Nat.le_of_ble_eq_true rfl) (Nat.le_of_ble_eq_true rfl) (zGo.v ?_)
    refine e_astore_n (pc := 17) d_B_wordAt_17 (Nat.le_of_ble_eq_true rfl) ?_
    dsimp only [List.set]
    refine e_aload_n (pc := 18) d_B_wordAt_18 rfl ?_
    refine e_iload_n (pc := 19) d_B_wordAt_19 rfl ?_
    refine e_cV1 (pc := 20) s_B_wordAt_20 (sA_has (c := 1) (j := k % 2) (by decide) (Nat.mod_lt _ (by decide))) (rL (c := 1) (j := k % 2) (by decide) (Nat.mod_lt _ (by decide))) rfl rfl (Nat.le_of_ble_eq_true rfl) (Nat.le_of_ble_eq_true rfl) (Nat.le_of_ble_eq_true rfl) (zGo.v ?_)
    refine e_if_eq (pc := 23) (tgt := 39) d_B_wordAt_23 (by decide) (fun h6 => ?_) (fun h6 => ?_)
    · replace h6 := b0.mp h6
      refine e_iinc (pc := 39) d_B_wordAt_39 rfl (Nat.le_of_ble_eq_true rfl) ?_
      dsimp only [List.set]
      refine e_goto (pc := 42) (tgt := 2) d_B_wordAt_42 (by decide) ?_
      refine e_iload_n (pc := 2) d_B_wordAt_2 rfl ?_
      refine e_iconst (pc := 3) (v := 3) d_B_wordAt_3 (by decide) ?_
      refine e_icmp_ge (pc := 4) (tgt := 45) d_B_wordAt_4 (by decide) (fun h9 => absurd h9 (by decide)) (fun _ => ?_)
      refine e_aload_n (pc := 7) d_B_wordAt_7 rfl ?_
      refine e_get (pc := 8) s_B_wordAt_8 rfl rfl ?_
      refine e_iload_n (pc := 11) d_B_wordAt_11 rfl ?_
      refine e_aald (pc := 12) d_B_wordAt_12 rfl rfl (vp_dec (by decide)) (ixg (n := 2) (by decide) (crR_at (c := 2) (by decide))) ?_
      refine e_iload_n (pc := 13) d_B_wordAt_13 rfl ?_
      refine e_cV1 (pc := 14) s_B_wordAt_14 (sA_lineFor (c := 2) (by decide) hk) (rC (c := 2) (by decide)) rfl rfl (Nat.le_of_ble_eq_true rfl) (Nat.le_of_ble_eq_true rfl) (Nat.le_of_ble_eq_true rfl) (zGo.v ?_)
      refine e_astore_n (pc := 17) d_B_wordAt_17 (Nat.le_of_ble_eq_true rfl) ?_
      dsimp only [List.set]
      refine e_aload_n (pc := 18) d_B_wordAt_18 rfl ?_
      refine e_iload_n (pc := 19) d_B_wordAt_19 rfl ?_
      refine e_cV1 (pc := 20) s_B_wordAt_20 (sA_has (c := 2) (j := k % 2) (by decide) (Nat.mod_lt _ (by decide))) (rL (c := 2) (j := k % 2) (by decide) (Nat.mod_lt _ (by decide))) rfl rfl (Nat.le_of_ble_eq_true rfl) (Nat.le_of_ble_eq_true rfl) (Nat.le_of_ble_eq_true rfl) (zGo.v ?_)
      refine e_if_eq (pc := 23) (tgt := 39) d_B_wordAt_23 (by decide) (fun h7 => ?_) (fun h7 => ?_)
      · replace h7 := b0.mp h7
        refine e_iinc (pc := 39) d_B_wordAt_39 rfl (Nat.le_of_ble_eq_true rfl) ?_
        dsimp only [List.set]
        refine e_goto (pc := 42) (tgt := 2) d_B_wordAt_42 (by decide) ?_
        refine e_iload_n (pc := 2) d_B_wordAt_2 rfl ?_
        refine e_iconst (pc := 3) (v := 3) d_B_wordAt_3 (by decide) ?_
        refine e_icmp_ge (pc := 4) (tgt := 45) d_B_wordAt_4 (by decide) (fun _ => ?_) (fun h9 => absurd (by decide) h9)
        refine e_aload_n (pc := 45) d_B_wordAt_45 rfl ?_
        refine e_get (pc := 46) s_B_wordAt_46 rfl rfl ?_
        refine e_iload_n (pc := 49) d_B_wordAt_49 rfl ?_
        refine e_iald (pc := 50) d_B_wordAt_50 rfl (vp_in_nI hk (by decide)) (ixf (nI_clamp (by omega))) ?_
        exact e_iret (pc := 51) d_B_wordAt_51 rfl rfl (Nat.le_of_ble_eq_true rfl) (Nat.le_of_ble_eq_true rfl) (zR (by simp [wdS, hasS, h5, h6, h7]))
      · replace h7 := b1.mp h7
        refine e_aload_n (pc := 26) d_B_wordAt_26 rfl ?_
        refine e_get (pc := 27) s_B_wordAt_27 (rL (c := 2) (j := k % 2) (by decide) (Nat.mod_lt _ (by decide))) rfl ?_
        refine e_iconst (pc := 30) (v := 3) d_B_wordAt_30 (by decide) ?_
        refine e_icmp_ne (pc := 31) (tgt := 39) d_B_wordAt_31 (by decide) (fun h8 => ?_) (fun h8 => ?_)
        · refine e_iinc (pc := 39) d_B_wordAt_39 rfl (Nat.le_of_ble_eq_true rfl) ?_
          dsimp only [List.set]
          refine e_goto (pc := 42) (tgt := 2) d_B_wordAt_42 (by decide) ?_
          refine e_iload_n (pc := 2) d_B_wordAt_2 rfl ?_
          refine e_iconst (pc := 3) (v := 3) d_B_wordAt_3 (by decide) ?_
          refine e_icmp_ge (pc := 4) (tgt := 45) d_B_wordAt_4 (by decide) (fun _ => ?_) (fun h9 => absurd (by decide) h9)
          refine e_aload_n (pc := 45) d_B_wordAt_45 rfl ?_
          refine e_get (pc := 46) s_B_wordAt_46 rfl rfl ?_
          refine e_iload_n (pc := 49) d_B_wordAt_49 rfl ?_
          refine e_iald (pc := 50) d_B_wordAt_50 rfl (vp_in_nI hk (by decide)) (ixf (nI_clamp (by omega))) ?_
          exact e_iret (pc := 51) d_B_wordAt_51 rfl rfl (Nat.le_of_ble_eq_true rfl) (Nat.le_of_ble_eq_true rfl) (zR (by simp [wdS, hasS, h5, h6, h7, h8]))
        · refine e_aload_n (pc := 34) d_B_wordAt_34 rfl ?_
          refine e_get (pc := 35) s_B_wordAt_35 (rL (c := 2) (j := k % 2) (by decide) (Nat.mod_lt _ (by decide))) rfl ?_
          exact e_iret (pc := 38) d_B_wordAt_38 rfl rfl (Nat.le_of_ble_eq_true rfl) (Nat.le_of_ble_eq_true rfl) (zR (by simp [wdS, hasS, h5, h6, h7, h8]))
    · replace h6 := b1.mp h6
      refine e_aload_n (pc := 26) d_B_wordAt_26 rfl ?_
      refine e_get (pc := 27) s_B_wordAt_27 (rL (c := 1) (j := k % 2) (by decide) (Nat.mod_lt _ (by decide))) rfl ?_
      refine e_iconst (pc := 30) (v := 3) d_B_wordAt_30 (by decide) ?_
      refine e_icmp_ne (pc := 31) (tgt := 39) d_B_wordAt_31 (by decide) (fun h9 => ?_) (fun h9 => ?_)
      · refine e_iinc (pc := 39) d_B_wordAt_39 rfl (Nat.le_of_ble_eq_true rfl) ?_
        dsimp only [List.set]
        refine e_goto (pc := 42) (tgt := 2) d_B_wordAt_42 (by decide) ?_
        refine e_iload_n (pc := 2) d_B_wordAt_2 rfl ?_
        refine e_iconst (pc := 3) (v := 3) d_B_wordAt_3 (by decide) ?_
        refine e_icmp_ge (pc := 4) (tgt := 45) d_B_wordAt_4 (by decide) (fun h9 => absurd h9 (by decide)) (fun _ => ?_)
        refine e_aload_n (pc := 7) d_B_wordAt_7 rfl ?_
        refine e_get (pc := 8) s_B_wordAt_8 rfl rfl ?_
        refine e_iload_n (pc := 11) d_B_wordAt_11 rfl ?_
        refine e_aald (pc := 12) d_B_wordAt_12 rfl rfl (vp_dec (by decide)) (ixg (n := 2) (by decide) (crR_at (c := 2) (by decide))) ?_
        refine e_iload_n (pc := 13) d_B_wordAt_13 rfl ?_
        refine e_cV1 (pc := 14) s_B_wordAt_14 (sA_lineFor (c := 2) (by decide) hk) (rC (c := 2) (by decide)) rfl rfl (Nat.le_of_ble_eq_true rfl) (Nat.le_of_ble_eq_true rfl) (Nat.le_of_ble_eq_true rfl) (zGo.v ?_)
        refine e_astore_n (pc := 17) d_B_wordAt_17 (Nat.le_of_ble_eq_true rfl) ?_
        dsimp only [List.set]
        refine e_aload_n (pc := 18) d_B_wordAt_18 rfl ?_
        refine e_iload_n (pc := 19) d_B_wordAt_19 rfl ?_
        refine e_cV1 (pc := 20) s_B_wordAt_20 (sA_has (c := 2) (j := k % 2) (by decide) (Nat.mod_lt _ (by decide))) (rL (c := 2) (j := k % 2) (by decide) (Nat.mod_lt _ (by decide))) rfl rfl (Nat.le_of_ble_eq_true rfl) (Nat.le_of_ble_eq_true rfl) (Nat.le_of_ble_eq_true rfl) (zGo.v ?_)
        refine e_if_eq (pc := 23) (tgt := 39) d_B_wordAt_23 (by decide) (fun h10 => ?_) (fun h10 => ?_)
        · replace h10 := b0.mp h10
          refine e_iinc (pc := 39) d_B_wordAt_39 rfl (Nat.le_of_ble_eq_true rfl) ?_
          dsimp only [List.set]
          refine e_goto (pc := 42) (tgt := 2) d_B_wordAt_42 (by decide) ?_
          refine e_iload_n (pc := 2) d_B_wordAt_2 rfl ?_
          refine e_iconst (pc := 3) (v := 3) d_B_wordAt_3 (by decide) ?_
          refine e_icmp_ge (pc := 4) (tgt := 45) d_B_wordAt_4 (by decide) (fun _ => ?_) (fun h9 => absurd (by decide) h9)
          refine e_aload_n (pc := 45) d_B_wordAt_45 rfl ?_
          refine e_get (pc := 46) s_B_wordAt_46 rfl rfl ?_
          refine e_iload_n (pc := 49) d_B_wordAt_49 rfl ?_
          refine e_iald (pc := 50) d_B_wordAt_50 rfl (vp_in_nI hk (by decide)) (ixf (nI_clamp (by omega))) ?_
          exact e_iret (pc := 51) d_B_wordAt_51 rfl rfl (Nat.le_of_ble_eq_true rfl) (Nat.le_of_ble_eq_true rfl) (zR (by simp [wdS, hasS, h5, h6, h9, h10]))
        · replace h10 := b1.mp h10
          refine e_aload_n (pc := 26) d_B_wordAt_26 rfl ?_
          refine e_get (pc := 27) s_B_wordAt_27 (rL (c := 2) (j := k % 2) (by decide) (Nat.mod_lt _ (by decide))) rfl ?_
          refine e_iconst (pc := 30) (v := 3) d_B_wordAt_30 (by decide) ?_
          refine e_icmp_ne (pc := 31) (tgt := 39) d_B_wordAt_31 (by decide) (fun h11 => ?_) (fun h11 => ?_)
          · refine e_iinc (pc := 39) d_B_wordAt_39 rfl (Nat.le_of_ble_eq_true rfl) ?_
            dsimp only [List.set]
            refine e_goto (pc := 42) (tgt := 2) d_B_wordAt_42 (by decide) ?_
            refine e_iload_n (pc := 2) d_B_wordAt_2 rfl ?_
            refine e_iconst (pc := 3) (v := 3) d_B_wordAt_3 (by decide) ?_
            refine e_icmp_ge (pc := 4) (tgt := 45) d_B_wordAt_4 (by decide) (fun _ => ?_) (fun h9 => absurd (by decide) h9)
            refine e_aload_n (pc := 45) d_B_wordAt_45 rfl ?_
            refine e_get (pc := 46) s_B_wordAt_46 rfl rfl ?_
            refine e_iload_n (pc := 49) d_B_wordAt_49 rfl ?_
            refine e_iald (pc := 50) d_B_wordAt_50 rfl (vp_in_nI hk (by decide)) (ixf (nI_clamp (by omega))) ?_
            exact e_iret (pc := 51) d_B_wordAt_51 rfl rfl (Nat.le_of_ble_eq_true rfl) (Nat.le_of_ble_eq_true rfl) (zR (by simp [wdS, hasS, h5, h6, h9, h10, h11]))
          · refine e_aload_n (pc := 34) d_B_wordAt_34 rfl ?_
            refine e_get (pc := 35) s_B_wordAt_35 (rL (c := 2) (j := k % 2) (by decide) (Nat.mod_lt _ (by decide))) rfl ?_
            exact e_iret (pc := 38) d_B_wordAt_38 rfl rfl (Nat.le_of_ble_eq_true rfl) (Nat.le_of_ble_eq_true rfl) (zR (by simp [wdS, hasS, h5, h6, h9, h10, h11]))
      · refine e_aload_n (pc := 34) d_B_wordAt_34 rfl ?_
        refine e_get (pc := 35) s_B_wordAt_35 (rL (c := 1) (j := k % 2) (by decide) (Nat.mod_lt _ (by decide))) rfl ?_
        exact e_iret (pc := 38) d_B_wordAt_38 rfl rfl (Nat.le_of_ble_eq_true rfl) (Nat.le_of_ble_eq_true rfl) (zR (by simp [wdS, hasS, h5, h6, h9]))
  · replace h5 := b1.mp h5
    refine e_aload_n (pc := 26) d_B_wordAt_26 rfl ?_
    refine e_get (pc := 27) s_B_wordAt_27 (rL (c := 0) (j := k % 2) (by decide) (Nat.mod_lt _ (by decide))) rfl ?_
    refine e_iconst (pc := 30) (v := 3) d_B_wordAt_30 (by decide) ?_
    refine e_icmp_ne (pc := 31) (tgt := 39) d_B_wordAt_31 (by decide) (fun h12 => ?_) (fun h12 => ?_)
    · refine e_iinc (pc := 39) d_B_wordAt_39 rfl (Nat.le_of_ble_eq_true rfl) ?_
      dsimp only [List.set]
      refine e_goto (pc := 42) (tgt := 2) d_B_wordAt_42 (by decide) ?_
      refine e_iload_n (pc := 2) d_B_wordAt_2 rfl ?_
      refine e_iconst (pc := 3) (v := 3) d_B_wordAt_3 (by decide) ?_
      refine e_icmp_ge (pc := 4) (tgt := 45) d_B_wordAt_4 (by decide) (fun h9 => absurd h9 (by decide)) (fun _ => ?_)
      refine e_aload_n (pc := 7) d_B_wordAt_7 rfl ?_
      refine e_get (pc := 8) s_B_wordAt_8 rfl rfl ?_
      refine e_iload_n (pc := 11) d_B_wordAt_11 rfl ?_
      refine e_aald (pc := 12) d_B_wordAt_12 rfl rfl (vp_dec (by decide)) (ixg (n := 1) (by decide) (crR_at (c := 1) (by decide))) ?_
      refine e_iload_n (pc := 13) d_B_wordAt_13 rfl ?_
      refine e_cV1 (pc := 14) s_B_wordAt_14 (sA_lineFor (c := 1) (by decide) hk) (rC (c := 1) (by decide)) rfl rfl (Nat.le_of_ble_eq_true rfl) (Nat.le_of_ble_eq_true rfl) (Nat.le_of_ble_eq_true rfl) (zGo.v ?_)
      refine e_astore_n (pc := 17) d_B_wordAt_17 (Nat.le_of_ble_eq_true rfl) ?_
      dsimp only [List.set]
      refine e_aload_n (pc := 18) d_B_wordAt_18 rfl ?_
      refine e_iload_n (pc := 19) d_B_wordAt_19 rfl ?_
      refine e_cV1 (pc := 20) s_B_wordAt_20 (sA_has (c := 1) (j := k % 2) (by decide) (Nat.mod_lt _ (by decide))) (rL (c := 1) (j := k % 2) (by decide) (Nat.mod_lt _ (by decide))) rfl rfl (Nat.le_of_ble_eq_true rfl) (Nat.le_of_ble_eq_true rfl) (Nat.le_of_ble_eq_true rfl) (zGo.v ?_)
      refine e_if_eq (pc := 23) (tgt := 39) d_B_wordAt_23 (by decide) (fun h13 => ?_) (fun h13 => ?_)
      · replace h13 := b0.mp h13
        refine e_iinc (pc := 39) d_B_wordAt_39 rfl (Nat.le_of_ble_eq_true rfl) ?_
        dsimp only [List.set]
        refine e_goto (pc := 42) (tgt := 2) d_B_wordAt_42 (by decide) ?_
        refine e_iload_n (pc := 2) d_B_wordAt_2 rfl ?_
        refine e_iconst (pc := 3) (v := 3) d_B_wordAt_3 (by decide) ?_
        refine e_icmp_ge (pc := 4) (tgt := 45) d_B_wordAt_4 (by decide) (fun h9 => absurd h9 (by decide)) (fun _ => ?_)
        refine e_aload_n (pc := 7) d_B_wordAt_7 rfl ?_
        refine e_get (pc := 8) s_B_wordAt_8 rfl rfl ?_
        refine e_iload_n (pc := 11) d_B_wordAt_11 rfl ?_
        refine e_aald (pc := 12) d_B_wordAt_12 rfl rfl (vp_dec (by decide)) (ixg (n := 2) (by decide) (crR_at (c := 2) (by decide))) ?_
        refine e_iload_n (pc := 13) d_B_wordAt_13 rfl ?_
        refine e_cV1 (pc := 14) s_B_wordAt_14 (sA_lineFor (c := 2) (by decide) hk) (rC (c := 2) (by decide)) rfl rfl (Nat.le_of_ble_eq_true rfl) (Nat.le_of_ble_eq_true rfl) (Nat.le_of_ble_eq_true rfl) (zGo.v ?_)
        refine e_astore_n (pc := 17) d_B_wordAt_17 (Nat.le_of_ble_eq_true rfl) ?_
        dsimp only [List.set]
        refine e_aload_n (pc := 18) d_B_wordAt_18 rfl ?_
        refine e_iload_n (pc := 19) d_B_wordAt_19 rfl ?_
        refine e_cV1 (pc := 20) s_B_wordAt_20 (sA_has (c := 2) (j := k % 2) (by decide) (Nat.mod_lt _ (by decide))) (rL (c := 2) (j := k % 2) (by decide) (Nat.mod_lt _ (by decide))) rfl rfl (Nat.le_of_ble_eq_true rfl) (Nat.le_of_ble_eq_true rfl) (Nat.le_of_ble_eq_true rfl) (zGo.v ?_)
        refine e_if_eq (pc := 23) (tgt := 39) d_B_wordAt_23 (by decide) (fun h14 => ?_) (fun h14 => ?_)
        · replace h14 := b0.mp h14
          refine e_iinc (pc := 39) d_B_wordAt_39 rfl (Nat.le_of_ble_eq_true rfl) ?_
          dsimp only [List.set]
          refine e_goto (pc := 42) (tgt := 2) d_B_wordAt_42 (by decide) ?_
          refine e_iload_n (pc := 2) d_B_wordAt_2 rfl ?_
          refine e_iconst (pc := 3) (v := 3) d_B_wordAt_3 (by decide) ?_
          refine e_icmp_ge (pc := 4) (tgt := 45) d_B_wordAt_4 (by decide) (fun _ => ?_) (fun h9 => absurd (by decide) h9)
          refine e_aload_n (pc := 45) d_B_wordAt_45 rfl ?_
          refine e_get (pc := 46) s_B_wordAt_46 rfl rfl ?_
          refine e_iload_n (pc := 49) d_B_wordAt_49 rfl ?_
          refine e_iald (pc := 50) d_B_wordAt_50 rfl (vp_in_nI hk (by decide)) (ixf (nI_clamp (by omega))) ?_
          exact e_iret (pc := 51) d_B_wordAt_51 rfl rfl (Nat.le_of_ble_eq_true rfl) (Nat.le_of_ble_eq_true rfl) (zR (by simp [wdS, hasS, h5, h12, h13, h14]))
        · replace h14 := b1.mp h14
          refine e_aload_n (pc := 26) d_B_wordAt_26 rfl ?_
          refine e_get (pc := 27) s_B_wordAt_27 (rL (c := 2) (j := k % 2) (by decide) (Nat.mod_lt _ (by decide))) rfl ?_
          refine e_iconst (pc := 30) (v := 3) d_B_wordAt_30 (by decide) ?_
          refine e_icmp_ne (pc := 31) (tgt := 39) d_B_wordAt_31 (by decide) (fun h15 => ?_) (fun h15 => ?_)
          · refine e_iinc (pc := 39) d_B_wordAt_39 rfl (Nat.le_of_ble_eq_true rfl) ?_
            dsimp only [List.set]
            refine e_goto (pc := 42) (tgt := 2) d_B_wordAt_42 (by decide) ?_
            refine e_iload_n (pc := 2) d_B_wordAt_2 rfl ?_
            refine e_iconst (pc := 3) (v := 3) d_B_wordAt_3 (by decide) ?_
            refine e_icmp_ge (pc := 4) (tgt := 45) d_B_wordAt_4 (by decide) (fun _ => ?_) (fun h9 => absurd (by decide) h9)
            refine e_aload_n (pc := 45) d_B_wordAt_45 rfl ?_
            refine e_get (pc := 46) s_B_wordAt_46 rfl rfl ?_
            refine e_iload_n (pc := 49) d_B_wordAt_49 rfl ?_
            refine e_iald (pc := 50) d_B_wordAt_50 rfl (vp_in_nI hk (by decide)) (ixf (nI_clamp (by omega))) ?_
            exact e_iret (pc := 51) d_B_wordAt_51 rfl rfl (Nat.le_of_ble_eq_true rfl) (Nat.le_of_ble_eq_true rfl) (zR (by simp [wdS, hasS, h5, h12, h13, h14, h15]))
          · refine e_aload_n (pc := 34) d_B_wordAt_34 rfl ?_
            refine e_get (pc := 35) s_B_wordAt_35 (rL (c := 2) (j := k % 2) (by decide) (Nat.mod_lt _ (by decide))) rfl ?_
            exact e_iret (pc := 38) d_B_wordAt_38 rfl rfl (Nat.le_of_ble_eq_true rfl) (Nat.le_of_ble_eq_true rfl) (zR (by simp [wdS, hasS, h5, h12, h13, h14, h15]))
      · replace h13 := b1.mp h13
        refine e_aload_n (pc := 26) d_B_wordAt_26 rfl ?_
        refine e_get (pc := 27) s_B_wordAt_27 (rL (c := 1) (j := k % 2) (by decide) (Nat.mod_lt _ (by decide))) rfl ?_
        refine e_iconst (pc := 30) (v := 3) d_B_wordAt_30 (by decide) ?_
        refine e_icmp_ne (pc := 31) (tgt := 39) d_B_wordAt_31 (by decide) (fun h16 => ?_) (fun h16 => ?_)
        · refine e_iinc (pc := 39) d_B_wordAt_39 rfl (Nat.le_of_ble_eq_true rfl) ?_
          dsimp only [List.set]
          refine e_goto (pc := 42) (tgt := 2) d_B_wordAt_42 (by decide) ?_
          refine e_iload_n (pc := 2) d_B_wordAt_2 rfl ?_
          refine e_iconst (pc := 3) (v := 3) d_B_wordAt_3 (by decide) ?_
          refine e_icmp_ge (pc := 4) (tgt := 45) d_B_wordAt_4 (by decide) (fun h9 => absurd h9 (by decide)) (fun _ => ?_)
          refine e_aload_n (pc := 7) d_B_wordAt_7 rfl ?_
          refine e_get (pc := 8) s_B_wordAt_8 rfl rfl ?_
          refine e_iload_n (pc := 11) d_B_wordAt_11 rfl ?_
          refine e_aald (pc := 12) d_B_wordAt_12 rfl rfl (vp_dec (by decide)) (ixg (n := 2) (by decide) (crR_at (c := 2) (by decide))) ?_
          refine e_iload_n (pc := 13) d_B_wordAt_13 rfl ?_
          refine e_cV1 (pc := 14) s_B_wordAt_14 (sA_lineFor (c := 2) (by decide) hk) (rC (c := 2) (by decide)) rfl rfl (Nat.le_of_ble_eq_true rfl) (Nat.le_of_ble_eq_true rfl) (Nat.le_of_ble_eq_true rfl) (zGo.v ?_)
          refine e_astore_n (pc := 17) d_B_wordAt_17 (Nat.le_of_ble_eq_true rfl) ?_
          dsimp only [List.set]
          refine e_aload_n (pc := 18) d_B_wordAt_18 rfl ?_
          refine e_iload_n (pc := 19) d_B_wordAt_19 rfl ?_
          refine e_cV1 (pc := 20) s_B_wordAt_20 (sA_has (c := 2) (j := k % 2) (by decide) (Nat.mod_lt _ (by decide))) (rL (c := 2) (j := k % 2) (by decide) (Nat.mod_lt _ (by decide))) rfl rfl (Nat.le_of_ble_eq_true rfl) (Nat.le_of_ble_eq_true rfl) (Nat.le_of_ble_eq_true rfl) (zGo.v ?_)
          refine e_if_eq (pc := 23) (tgt := 39) d_B_wordAt_23 (by decide) (fun h17 => ?_) (fun h17 => ?_)
          · replace h17 := b0.mp h17
            refine e_iinc (pc := 39) d_B_wordAt_39 rfl (Nat.le_of_ble_eq_true rfl) ?_
            dsimp only [List.set]
            refine e_goto (pc := 42) (tgt := 2) d_B_wordAt_42 (by decide) ?_
            refine e_iload_n (pc := 2) d_B_wordAt_2 rfl ?_
            refine e_iconst (pc := 3) (v := 3) d_B_wordAt_3 (by decide) ?_
            refine e_icmp_ge (pc := 4) (tgt := 45) d_B_wordAt_4 (by decide) (fun _ => ?_) (fun h9 => absurd (by decide) h9)
            refine e_aload_n (pc := 45) d_B_wordAt_45 rfl ?_
            refine e_get (pc := 46) s_B_wordAt_46 rfl rfl ?_
            refine e_iload_n (pc := 49) d_B_wordAt_49 rfl ?_
            refine e_iald (pc := 50) d_B_wordAt_50 rfl (vp_in_nI hk (by decide)) (ixf (nI_clamp (by omega))) ?_
            exact e_iret (pc := 51) d_B_wordAt_51 rfl rfl (Nat.le_of_ble_eq_true rfl) (Nat.le_of_ble_eq_true rfl) (zR (by simp [wdS, hasS, h5, h12, h13, h16, h17]))
          · replace h17 := b1.mp h17
            refine e_aload_n (pc := 26) d_B_wordAt_26 rfl ?_
            refine e_get (pc := 27) s_B_wordAt_27 (rL (c := 2) (j := k % 2) (by decide) (Nat.mod_lt _ (by decide))) rfl ?_
            refine e_iconst (pc := 30) (v := 3) d_B_wordAt_30 (by decide) ?_
            refine e_icmp_ne (pc := 31) (tgt := 39) d_B_wordAt_31 (by decide) (fun h18 => ?_) (fun h18 => ?_)
            · refine e_iinc (pc := 39) d_B_wordAt_39 rfl (Nat.le_of_ble_eq_true rfl) ?_
              dsimp only [List.set]
              refine e_goto (pc := 42) (tgt := 2) d_B_wordAt_42 (by decide) ?_
              refine e_iload_n (pc := 2) d_B_wordAt_2 rfl ?_
              refine e_iconst (pc := 3) (v := 3) d_B_wordAt_3 (by decide) ?_
              refine e_icmp_ge (pc := 4) (tgt := 45) d_B_wordAt_4 (by decide) (fun _ => ?_) (fun h9 => absurd (by decide) h9)
              refine e_aload_n (pc := 45) d_B_wordAt_45 rfl ?_
              refine e_get (pc := 46) s_B_wordAt_46 rfl rfl ?_
              refine e_iload_n (pc := 49) d_B_wordAt_49 rfl ?_
              refine e_iald (pc := 50) d_B_wordAt_50 rfl (vp_in_nI hk (by decide)) (ixf (nI_clamp (by omega))) ?_
              exact e_iret (pc := 51) d_B_wordAt_51 rfl rfl (Nat.le_of_ble_eq_true rfl) (Nat.le_of_ble_eq_true rfl) (zR (by simp [wdS, hasS, h5, h12, h13, h16, h17, h18]))
            · refine e_aload_n (pc := 34) d_B_wordAt_34 rfl ?_
              refine e_get (pc := 35) s_B_wordAt_35 (rL (c := 2) (j := k % 2) (by decide) (Nat.mod_lt _ (by decide))) rfl ?_
              exact e_iret (pc := 38) d_B_wordAt_38 rfl rfl (Nat.le_of_ble_eq_true rfl) (Nat.le_of_ble_eq_true rfl) (zR (by simp [wdS, hasS, h5, h12, h13, h16, h17, h18]))
        · refine e_aload_n (pc := 34) d_B_wordAt_34 rfl ?_
          refine e_get (pc := 35) s_B_wordAt_35 (rL (c := 1) (j := k % 2) (by decide) (Nat.mod_lt _ (by decide))) rfl ?_
          exact e_iret (pc := 38) d_B_wordAt_38 rfl rfl (Nat.le_of_ble_eq_true rfl) (Nat.le_of_ble_eq_true rfl) (zR (by simp [wdS, hasS, h5, h12, h13, h16]))
    · refine e_aload_n (pc := 34) d_B_wordAt_34 rfl ?_
      refine e_get (pc := 35) s_B_wordAt_35 (rL (c := 0) (j := k % 2) (by decide) (Nat.mod_lt _ (by decide))) rfl ?_
      exact e_iret (pc := 38) d_B_wordAt_38 rfl rfl (Nat.le_of_ble_eq_true rfl) (Nat.le_of_ble_eq_true rfl) (zR (by simp [wdS, hasS, h5, h12]))
set_option maxHeartbeats 4000000 in
set_option maxRecDepth 100000 in
theorem sA_isInUse {l : Launch} {G : zGP} {K : Nat} {S T : St} {th : Int32} {fo : Nat → Int64} {k : Nat} (hk : k < 8) : Rn l G m_B_isInUse [.ref 0, .int (nI k)] (hpA K S T th fo) (.inl (some (.int (if useS S k then 1 else 0))), (hpA K S T th fo)) := by
  refine Rn.of (by decide) rfl rfl (Nat.le_of_ble_eq_true rfl) rfl ?_
  show Ev l G m_B_isInUse 0 [.ref 0, .int (nI k), .double 0] [] (hpA K S T th fo) 0 0 _
  refine e_iconst (pc := 0) (v := 0) d_B_isInUse_0 (by decide) ?_
  refine e_istore_n (pc := 1) d_B_isInUse_1 (Nat.le_of_ble_eq_true rfl) ?_
  dsimp only [List.set]
  refine e_iload_n (pc := 2) d_B_isInUse_2 rfl ?_
  refine e_iconst (pc := 3) (v := 3) d_B_isInUse_3 (by decide) ?_
  refine e_icmp_ge (pc := 4) (tgt := 48) d_B_isInUse_4 (by decide) (fun h9 => absurd h9 (by decide)) (fun _ => ?_)
  refine e_aload_n (pc := 7) d_B_isInUse_7 rfl ?_
  refine e_get (pc := 8) s_B_isInUse_8 rfl rfl ?_
  refine e_iload_n (pc := 11) d_B_isInUse_11 rfl ?_
  refine e_aald (pc := 12) d_B_isInUse_12 rfl rfl (vp_dec (by decide)) (ixg (n := 0) (by decide) (crR_at (c := 0) (by decide))) ?_
  refine e_iload_n (pc := 13) d_B_isInUse_13 rfl ?_
  refine e_cV1 (pc := 14) s_B_isInUse_14 (sA_lineFor (c := 0) (by decide) hk) (rC (c := 0) (by decide)) rfl rfl (Nat.le_of_ble_eq_true rfl) (Nat.le_of_ble_eq_true rfl) (Nat.le_of_ble_eq_true rfl) (zGo.v ?_)
  refine e_iload_n (pc := 17) d_B_isInUse_17 rfl ?_
  refine e_cV1 (pc := 18) s_B_isInUse_18 (sA_has (c := 0) (j := k % 2) (by decide) (Nat.mod_lt _ (by decide))) (rL (c := 0) (j := k % 2) (by decide) (Nat.mod_lt _ (by decide))) rfl rfl (Nat.le_of_ble_eq_true rfl) (Nat.le_of_ble_eq_true rfl) (Nat.le_of_ble_eq_true rfl) (zGo.v ?_)
  refine e_if_ne (pc := 21) (tgt := 40) d_B_isInUse_21 (by decide) (fun h19 => ?_) (fun h19 => ?_)
  · replace h19 := b1.mp h19
    refine e_iconst (pc := 40) (v := 1) d_B_isInUse_40 (by decide) ?_
    exact e_iret (pc := 41) d_B_isInUse_41 rfl (by decide) (Nat.le_of_ble_eq_true rfl) (Nat.le_of_ble_eq_true rfl) (zR (by simp [useS, hasS, flyS, h19]))
  · replace h19 := b0.mp h19
    refine e_aload_n (pc := 24) d_B_isInUse_24 rfl ?_
    refine e_get (pc := 25) s_B_isInUse_25 rfl rfl ?_
    refine e_iload_n (pc := 28) d_B_isInUse_28 rfl ?_
    refine e_aald (pc := 29) d_B_isInUse_29 rfl rfl (vp_dec (by decide)) (ixg (n := 0) (by decide) (crR_at (c := 0) (by decide))) ?_
    refine e_get (pc := 30) s_B_isInUse_30 (rC (c := 0) (by decide)) rfl ?_
    refine e_iload_n (pc := 33) d_B_isInUse_33 rfl ?_
    refine e_cV1 (pc := 34) s_B_isInUse_34 (sA_fliesFor (c := 0) (by decide)) (rQ (c := 0) (by decide)) rfl rfl (Nat.le_of_ble_eq_true rfl) (Nat.le_of_ble_eq_true rfl) (Nat.le_of_ble_eq_true rfl) (zGo.v ?_)
    refine e_if_eq (pc := 37) (tgt := 42) d_B_isInUse_37 (by decide) (fun h20 => ?_) (fun h20 => ?_)
    · replace h20 := b0.mp h20
      refine e_iinc (pc := 42) d_B_isInUse_42 rfl (Nat.le_of_ble_eq_true rfl) ?_
      dsimp only [List.set]
      refine e_goto (pc := 45) (tgt := 2) d_B_isInUse_45 (by decide) ?_
      refine e_iload_n (pc := 2) d_B_isInUse_2 rfl ?_
      refine e_iconst (pc := 3) (v := 3) d_B_isInUse_3 (by decide) ?_
      refine e_icmp_ge (pc := 4) (tgt := 48) d_B_isInUse_4 (by decide) (fun h9 => absurd h9 (by decide)) (fun _ => ?_)
      refine e_aload_n (pc := 7) d_B_isInUse_7 rfl ?_
      refine e_get (pc := 8) s_B_isInUse_8 rfl rfl ?_
      refine e_iload_n (pc := 11) d_B_isInUse_11 rfl ?_
      refine e_aald (pc := 12) d_B_isInUse_12 rfl rfl (vp_dec (by decide)) (ixg (n := 1) (by decide) (crR_at (c := 1) (by decide))) ?_
      refine e_iload_n (pc := 13) d_B_isInUse_13 rfl ?_
      refine e_cV1 (pc := 14) s_B_isInUse_14 (sA_lineFor (c := 1) (by decide) hk) (rC (c := 1) (by decide)) rfl rfl (Nat.le_of_ble_eq_true rfl) (Nat.le_of_ble_eq_true rfl) (Nat.le_of_ble_eq_true rfl) (zGo.v ?_)
      refine e_iload_n (pc := 17) d_B_isInUse_17 rfl ?_
      refine e_cV1 (pc := 18) s_B_isInUse_18 (sA_has (c := 1) (j := k % 2) (by decide) (Nat.mod_lt _ (by decide))) (rL (c := 1) (j := k % 2) (by decide) (Nat.mod_lt _ (by decide))) rfl rfl (Nat.le_of_ble_eq_true rfl) (Nat.le_of_ble_eq_true rfl) (Nat.le_of_ble_eq_true rfl) (zGo.v ?_)
      refine e_if_ne (pc := 21) (tgt := 40) d_B_isInUse_21 (by decide) (fun h21 => ?_) (fun h21 => ?_)
      · replace h21 := b1.mp h21
        refine e_iconst (pc := 40) (v := 1) d_B_isInUse_40 (by decide) ?_
        exact e_iret (pc := 41) d_B_isInUse_41 rfl (by decide) (Nat.le_of_ble_eq_true rfl) (Nat.le_of_ble_eq_true rfl) (zR (by simp [useS, hasS, flyS, h19, h20, h21]))
      · replace h21 := b0.mp h21
        refine e_aload_n (pc := 24) d_B_isInUse_24 rfl ?_
        refine e_get (pc := 25) s_B_isInUse_25 rfl rfl ?_
        refine e_iload_n (pc := 28) d_B_isInUse_28 rfl ?_
        refine e_aald (pc := 29) d_B_isInUse_29 rfl rfl (vp_dec (by decide)) (ixg (n := 1) (by decide) (crR_at (c := 1) (by decide))) ?_
        refine e_get (pc := 30) s_B_isInUse_30 (rC (c := 1) (by decide)) rfl ?_
        refine e_iload_n (pc := 33) d_B_isInUse_33 rfl ?_
        refine e_cV1 (pc := 34) s_B_isInUse_34 (sA_fliesFor (c := 1) (by decide)) (rQ (c := 1) (by decide)) rfl rfl (Nat.le_of_ble_eq_true rfl) (Nat.le_of_ble_eq_true rfl) (Nat.le_of_ble_eq_true rfl) (zGo.v ?_)
        refine e_if_eq (pc := 37) (tgt := 42) d_B_isInUse_37 (by decide) (fun h22 => ?_) (fun h22 => ?_)
        · replace h22 := b0.mp h22
          refine e_iinc (pc := 42) d_B_isInUse_42 rfl (Nat.le_of_ble_eq_true rfl) ?_
          dsimp only [List.set]
          refine e_goto (pc := 45) (tgt := 2) d_B_isInUse_45 (by decide) ?_
          refine e_iload_n (pc := 2) d_B_isInUse_2 rfl ?_
          refine e_iconst (pc := 3) (v := 3) d_B_isInUse_3 (by decide) ?_
          refine e_icmp_ge (pc := 4) (tgt := 48) d_B_isInUse_4 (by decide) (fun h9 => absurd h9 (by decide)) (fun _ => ?_)
          refine e_aload_n (pc := 7) d_B_isInUse_7 rfl ?_
          refine e_get (pc := 8) s_B_isInUse_8 rfl rfl ?_
          refine e_iload_n (pc := 11) d_B_isInUse_11 rfl ?_
          refine e_aald (pc := 12) d_B_isInUse_12 rfl rfl (vp_dec (by decide)) (ixg (n := 2) (by decide) (crR_at (c := 2) (by decide))) ?_
          refine e_iload_n (pc := 13) d_B_isInUse_13 rfl ?_
          refine e_cV1 (pc := 14) s_B_isInUse_14 (sA_lineFor (c := 2) (by decide) hk) (rC (c := 2) (by decide)) rfl rfl (Nat.le_of_ble_eq_true rfl) (Nat.le_of_ble_eq_true rfl) (Nat.le_of_ble_eq_true rfl) (zGo.v ?_)
          refine e_iload_n (pc := 17) d_B_isInUse_17 rfl ?_
          refine e_cV1 (pc := 18) s_B_isInUse_18 (sA_has (c := 2) (j := k % 2) (by decide) (Nat.mod_lt _ (by decide))) (rL (c := 2) (j := k % 2) (by decide) (Nat.mod_lt _ (by decide))) rfl rfl (Nat.le_of_ble_eq_true rfl) (Nat.le_of_ble_eq_true rfl) (Nat.le_of_ble_eq_true rfl) (zGo.v ?_)
          refine e_if_ne (pc := 21) (tgt := 40) d_B_isInUse_21 (by decide) (fun h23 => ?_) (fun h23 => ?_)
          · replace h23 := b1.mp h23
            refine e_iconst (pc := 40) (v := 1) d_B_isInUse_40 (by decide) ?_
            exact e_iret (pc := 41) d_B_isInUse_41 rfl (by decide) (Nat.le_of_ble_eq_true rfl) (Nat.le_of_ble_eq_true rfl) (zR (by simp [useS, hasS, flyS, h19, h20, h21, h22, h23]))
          · replace h23 := b0.mp h23
            refine e_aload_n (pc := 24) d_B_isInUse_24 rfl ?_
            refine e_get (pc := 25) s_B_isInUse_25 rfl rfl ?_
            refine e_iload_n (pc := 28) d_B_isInUse_28 rfl ?_
            refine e_aald (pc := 29) d_B_isInUse_29 rfl rfl (vp_dec (by decide)) (ixg (n := 2) (by decide) (crR_at (c := 2) (by decide))) ?_
            refine e_get (pc := 30) s_B_isInUse_30 (rC (c := 2) (by decide)) rfl ?_
            refine e_iload_n (pc := 33) d_B_isInUse_33 rfl ?_
            refine e_cV1 (pc := 34) s_B_isInUse_34 (sA_fliesFor (c := 2) (by decide)) (rQ (c := 2) (by decide)) rfl rfl (Nat.le_of_ble_eq_true rfl) (Nat.le_of_ble_eq_true rfl) (Nat.le_of_ble_eq_true rfl) (zGo.v ?_)
            refine e_if_eq (pc := 37) (tgt := 42) d_B_isInUse_37 (by decide) (fun h24 => ?_) (fun h24 => ?_)
            · replace h24 := b0.mp h24
              refine e_iinc (pc := 42) d_B_isInUse_42 rfl (Nat.le_of_ble_eq_true rfl) ?_
              dsimp only [List.set]
              refine e_goto (pc := 45) (tgt := 2) d_B_isInUse_45 (by decide) ?_
              refine e_iload_n (pc := 2) d_B_isInUse_2 rfl ?_
              refine e_iconst (pc := 3) (v := 3) d_B_isInUse_3 (by decide) ?_
              refine e_icmp_ge (pc := 4) (tgt := 48) d_B_isInUse_4 (by decide) (fun _ => ?_) (fun h9 => absurd (by decide) h9)
              refine e_iconst (pc := 48) (v := 0) d_B_isInUse_48 (by decide) ?_
              exact e_iret (pc := 49) d_B_isInUse_49 rfl (by decide) (Nat.le_of_ble_eq_true rfl) (Nat.le_of_ble_eq_true rfl) (zR (by simp [useS, hasS, flyS, h19, h20, h21, h22, h23, h24]))
            · replace h24 := b1.mp h24
              refine e_iconst (pc := 40) (v := 1) d_B_isInUse_40 (by decide) ?_
              exact e_iret (pc := 41) d_B_isInUse_41 rfl (by decide) (Nat.le_of_ble_eq_true rfl) (Nat.le_of_ble_eq_true rfl) (zR (by simp [useS, hasS, flyS, h19, h20, h21, h22, h23, h24]))
        · replace h22 := b1.mp h22
          refine e_iconst (pc := 40) (v := 1) d_B_isInUse_40 (by decide) ?_
          exact e_iret (pc := 41) d_B_isInUse_41 rfl (by decide) (Nat.le_of_ble_eq_true rfl) (Nat.le_of_ble_eq_true rfl) (zR (by simp [useS, hasS, flyS, h19, h20, h21, h22]))
    · replace h20 := b1.mp h20
      refine e_iconst (pc := 40) (v := 1) d_B_isInUse_40 (by decide) ?_
      exact e_iret (pc := 41) d_B_isInUse_41 rfl (by decide) (Nat.le_of_ble_eq_true rfl) (Nat.le_of_ble_eq_true rfl) (zR (by simp [useS, hasS, flyS, h19, h20]))
set_option maxHeartbeats 4000000 in
set_option maxRecDepth 100000 in
theorem sA_inFlightE {l : Launch} {G : zGP} {K : Nat} {S T : St} {th : Int32} {fo : Nat → Int64} {c k : Nat} (hk : k < 8) : Rn l G m_B_isInFlightElsewhere [.ref 0, .ref (pC c), .int (nI k)] (hpA K S T th fo) (.inl (some (.int (if elF S c k then 1 else 0))), (hpA K S T th fo)) := by
  refine Rn.of (by decide) rfl rfl (Nat.le_of_ble_eq_true rfl) rfl ?_
  show Ev l G m_B_isInFlightElsewhere 0 [.ref 0, .ref (pC c), .int (nI k), .double 0] [] (hpA K S T th fo) 0 0 _
  refine e_iconst (pc := 0) (v := 0) d_B_isInFlightElsewhere_0 (by decide) ?_
  refine e_istore_n (pc := 1) d_B_isInFlightElsewhere_1 (Nat.le_of_ble_eq_true rfl) ?_
  dsimp only [List.set]
  refine e_iload_n (pc := 2) d_B_isInFlightElsewhere_2 rfl ?_
  refine e_iconst (pc := 3) (v := 3) d_B_isInFlightElsewhere_3 (by decide) ?_
  refine e_icmp_ge (pc := 4) (tgt := 41) d_B_isInFlightElsewhere_4 (by decide) (fun h9 => absurd h9 (by decide)) (fun _ => ?_)
  refine e_aload_n (pc := 7) d_B_isInFlightElsewhere_7 rfl ?_
  refine e_get (pc := 8) s_B_isInFlightElsewhere_8 rfl rfl ?_
  refine e_iload_n (pc := 11) d_B_isInFlightElsewhere_11 rfl ?_
  refine e_aald (pc := 12) d_B_isInFlightElsewhere_12 rfl rfl (vp_dec (by decide)) (ixg (n := 0) (by decide) (crR_at (c := 0) (by decide))) ?_
  refine e_aload_n (pc := 13) d_B_isInFlightElsewhere_13 rfl ?_
  refine e_acmp_eq (pc := 14) (tgt := 35) d_B_isInFlightElsewhere_14 (by decide) (fun h25 => ?_) (fun h25 => ?_)
  · replace h25 := (pC_inj.mp h25).symm
    refine e_iinc (pc := 35) d_B_isInFlightElsewhere_35 rfl (Nat.le_of_ble_eq_true rfl) ?_
    dsimp only [List.set]
    refine e_goto (pc := 38) (tgt := 2) d_B_isInFlightElsewhere_38 (by decide) ?_
    refine e_iload_n (pc := 2) d_B_isInFlightElsewhere_2 rfl ?_
    refine e_iconst (pc := 3) (v := 3) d_B_isInFlightElsewhere_3 (by decide) ?_
    refine e_icmp_ge (pc := 4) (tgt := 41) d_B_isInFlightElsewhere_4 (by decide) (fun h9 => absurd h9 (by decide)) (fun _ => ?_)
    refine e_aload_n (pc := 7) d_B_isInFlightElsewhere_7 rfl ?_
    refine e_get (pc := 8) s_B_isInFlightElsewhere_8 rfl rfl ?_
    refine e_iload_n (pc := 11) d_B_isInFlightElsewhere_11 rfl ?_
    refine e_aald (pc := 12) d_B_isInFlightElsewhere_12 rfl rfl (vp_dec (by decide)) (ixg (n := 1) (by decide) (crR_at (c := 1) (by decide))) ?_
    refine e_aload_n (pc := 13) d_B_isInFlightElsewhere_13 rfl ?_
    refine e_acmp_eq (pc := 14) (tgt := 35) d_B_isInFlightElsewhere_14 (by decide) (fun h26 => ?_) (fun h26 => ?_)
    · replace h26 := (pC_inj.mp h26).symm
      refine e_iinc (pc := 35) d_B_isInFlightElsewhere_35 rfl (Nat.le_of_ble_eq_true rfl) ?_
      dsimp only [List.set]
      refine e_goto (pc := 38) (tgt := 2) d_B_isInFlightElsewhere_38 (by decide) ?_
      refine e_iload_n (pc := 2) d_B_isInFlightElsewhere_2 rfl ?_
      refine e_iconst (pc := 3) (v := 3) d_B_isInFlightElsewhere_3 (by decide) ?_
      refine e_icmp_ge (pc := 4) (tgt := 41) d_B_isInFlightElsewhere_4 (by decide) (fun h9 => absurd h9 (by decide)) (fun _ => ?_)
      refine e_aload_n (pc := 7) d_B_isInFlightElsewhere_7 rfl ?_
      refine e_get (pc := 8) s_B_isInFlightElsewhere_8 rfl rfl ?_
      refine e_iload_n (pc := 11) d_B_isInFlightElsewhere_11 rfl ?_
      refine e_aald (pc := 12) d_B_isInFlightElsewhere_12 rfl rfl (vp_dec (by decide)) (ixg (n := 2) (by decide) (crR_at (c := 2) (by decide))) ?_
      refine e_aload_n (pc := 13) d_B_isInFlightElsewhere_13 rfl ?_
      refine e_acmp_eq (pc := 14) (tgt := 35) d_B_isInFlightElsewhere_14 (by decide) (fun h27 => ?_) (fun h27 => ?_)
      · replace h27 := (pC_inj.mp h27).symm
        refine e_iinc (pc := 35) d_B_isInFlightElsewhere_35 rfl (Nat.le_of_ble_eq_true rfl) ?_
        dsimp only [List.set]
        refine e_goto (pc := 38) (tgt := 2) d_B_isInFlightElsewhere_38 (by decide) ?_
        refine e_iload_n (pc := 2) d_B_isInFlightElsewhere_2 rfl ?_
        refine e_iconst (pc := 3) (v := 3) d_B_isInFlightElsewhere_3 (by decide) ?_
        refine e_icmp_ge (pc := 4) (tgt := 41) d_B_isInFlightElsewhere_4 (by decide) (fun _ => ?_) (fun h9 => absurd (by decide) h9)
        refine e_iconst (pc := 41) (v := 0) d_B_isInFlightElsewhere_41 (by decide) ?_
        exact e_iret (pc := 42) d_B_isInFlightElsewhere_42 rfl (by decide) (Nat.le_of_ble_eq_true rfl) (Nat.le_of_ble_eq_true rfl) (zR (by first | (exfalso; omega) | simp [elF, elH, hasS, flyS, h25, h26, h27]))
      · replace h27 := mt pC_inj.mpr h27
        refine e_aload_n (pc := 17) d_B_isInFlightElsewhere_17 rfl ?_
        refine e_get (pc := 18) s_B_isInFlightElsewhere_18 rfl rfl ?_
        refine e_iload_n (pc := 21) d_B_isInFlightElsewhere_21 rfl ?_
        refine e_aald (pc := 22) d_B_isInFlightElsewhere_22 rfl rfl (vp_dec (by decide)) (ixg (n := 2) (by decide) (crR_at (c := 2) (by decide))) ?_
        refine e_get (pc := 23) s_B_isInFlightElsewhere_23 (rC (c := 2) (by decide)) rfl ?_
        refine e_iload_n (pc := 26) d_B_isInFlightElsewhere_26 rfl ?_
        refine e_cV1 (pc := 27) s_B_isInFlightElsewhere_27 (sA_fliesFor (c := 2) (by decide)) (rQ (c := 2) (by decide)) rfl rfl (Nat.le_of_ble_eq_true rfl) (Nat.le_of_ble_eq_true rfl) (Nat.le_of_ble_eq_true rfl) (zGo.v ?_)
        refine e_if_eq (pc := 30) (tgt := 35) d_B_isInFlightElsewhere_30 (by decide) (fun h28 => ?_) (fun h28 => ?_)
        · replace h28 := b0.mp h28
          refine e_iinc (pc := 35) d_B_isInFlightElsewhere_35 rfl (Nat.le_of_ble_eq_true rfl) ?_
          dsimp only [List.set]
          refine e_goto (pc := 38) (tgt := 2) d_B_isInFlightElsewhere_38 (by decide) ?_
          refine e_iload_n (pc := 2) d_B_isInFlightElsewhere_2 rfl ?_
          refine e_iconst (pc := 3) (v := 3) d_B_isInFlightElsewhere_3 (by decide) ?_
          refine e_icmp_ge (pc := 4) (tgt := 41) d_B_isInFlightElsewhere_4 (by decide) (fun _ => ?_) (fun h9 => absurd (by decide) h9)
          refine e_iconst (pc := 41) (v := 0) d_B_isInFlightElsewhere_41 (by decide) ?_
          exact e_iret (pc := 42) d_B_isInFlightElsewhere_42 rfl (by decide) (Nat.le_of_ble_eq_true rfl) (Nat.le_of_ble_eq_true rfl) (zR (by first | (exfalso; omega) | simp [elF, elH, hasS, flyS, h25, h26, h27, h28]))
        · replace h28 := b1.mp h28
          refine e_iconst (pc := 33) (v := 1) d_B_isInFlightElsewhere_33 (by decide) ?_
          exact e_iret (pc := 34) d_B_isInFlightElsewhere_34 rfl (by decide) (Nat.le_of_ble_eq_true rfl) (Nat.le_of_ble_eq_true rfl) (zR (by first | (exfalso; omega) | simp [elF, elH, hasS, flyS, h25, h26, h27, h28]))
    · replace h26 := mt pC_inj.mpr h26
      refine e_aload_n (pc := 17) d_B_isInFlightElsewhere_17 rfl ?_
      refine e_get (pc := 18) s_B_isInFlightElsewhere_18 rfl rfl ?_
      refine e_iload_n (pc := 21) d_B_isInFlightElsewhere_21 rfl ?_
      refine e_aald (pc := 22) d_B_isInFlightElsewhere_22 rfl rfl (vp_dec (by decide)) (ixg (n := 1) (by decide) (crR_at (c := 1) (by decide))) ?_
      refine e_get (pc := 23) s_B_isInFlightElsewhere_23 (rC (c := 1) (by decide)) rfl ?_
      refine e_iload_n (pc := 26) d_B_isInFlightElsewhere_26 rfl ?_
      refine e_cV1 (pc := 27) s_B_isInFlightElsewhere_27 (sA_fliesFor (c := 1) (by decide)) (rQ (c := 1) (by decide)) rfl rfl (Nat.le_of_ble_eq_true rfl) (Nat.le_of_ble_eq_true rfl) (Nat.le_of_ble_eq_true rfl) (zGo.v ?_)
      refine e_if_eq (pc := 30) (tgt := 35) d_B_isInFlightElsewhere_30 (by decide) (fun h29 => ?_) (fun h29 => ?_)
      · replace h29 := b0.mp h29
        refine e_iinc (pc := 35) d_B_isInFlightElsewhere_35 rfl (Nat.le_of_ble_eq_true rfl) ?_
        dsimp only [List.set]
        refine e_goto (pc := 38) (tgt := 2) d_B_isInFlightElsewhere_38 (by decide) ?_
        refine e_iload_n (pc := 2) d_B_isInFlightElsewhere_2 rfl ?_
        refine e_iconst (pc := 3) (v := 3) d_B_isInFlightElsewhere_3 (by decide) ?_
        refine e_icmp_ge (pc := 4) (tgt := 41) d_B_isInFlightElsewhere_4 (by decide) (fun h9 => absurd h9 (by decide)) (fun _ => ?_)
        refine e_aload_n (pc := 7) d_B_isInFlightElsewhere_7 rfl ?_
        refine e_get (pc := 8) s_B_isInFlightElsewhere_8 rfl rfl ?_
        refine e_iload_n (pc := 11) d_B_isInFlightElsewhere_11 rfl ?_
        refine e_aald (pc := 12) d_B_isInFlightElsewhere_12 rfl rfl (vp_dec (by decide)) (ixg (n := 2) (by decide) (crR_at (c := 2) (by decide))) ?_
        refine e_aload_n (pc := 13) d_B_isInFlightElsewhere_13 rfl ?_
        refine e_acmp_eq (pc := 14) (tgt := 35) d_B_isInFlightElsewhere_14 (by decide) (fun h30 => ?_) (fun h30 => ?_)
        · replace h30 := (pC_inj.mp h30).symm
          refine e_iinc (pc := 35) d_B_isInFlightElsewhere_35 rfl (Nat.le_of_ble_eq_true rfl) ?_
          dsimp only [List.set]
          refine e_goto (pc := 38) (tgt := 2) d_B_isInFlightElsewhere_38 (by decide) ?_
          refine e_iload_n (pc := 2) d_B_isInFlightElsewhere_2 rfl ?_
          refine e_iconst (pc := 3) (v := 3) d_B_isInFlightElsewhere_3 (by decide) ?_
          refine e_icmp_ge (pc := 4) (tgt := 41) d_B_isInFlightElsewhere_4 (by decide) (fun _ => ?_) (fun h9 => absurd (by decide) h9)
          refine e_iconst (pc := 41) (v := 0) d_B_isInFlightElsewhere_41 (by decide) ?_
          exact e_iret (pc := 42) d_B_isInFlightElsewhere_42 rfl (by decide) (Nat.le_of_ble_eq_true rfl) (Nat.le_of_ble_eq_true rfl) (zR (by first | (exfalso; omega) | simp [elF, elH, hasS, flyS, h25, h26, h29, h30]))
        · replace h30 := mt pC_inj.mpr h30
          refine e_aload_n (pc := 17) d_B_isInFlightElsewhere_17 rfl ?_
          refine e_get (pc := 18) s_B_isInFlightElsewhere_18 rfl rfl ?_
          refine e_iload_n (pc := 21) d_B_isInFlightElsewhere_21 rfl ?_
          refine e_aald (pc := 22) d_B_isInFlightElsewhere_22 rfl rfl (vp_dec (by decide)) (ixg (n := 2) (by decide) (crR_at (c := 2) (by decide))) ?_
          refine e_get (pc := 23) s_B_isInFlightElsewhere_23 (rC (c := 2) (by decide)) rfl ?_
          refine e_iload_n (pc := 26) d_B_isInFlightElsewhere_26 rfl ?_
          refine e_cV1 (pc := 27) s_B_isInFlightElsewhere_27 (sA_fliesFor (c := 2) (by decide)) (rQ (c := 2) (by decide)) rfl rfl (Nat.le_of_ble_eq_true rfl) (Nat.le_of_ble_eq_true rfl) (Nat.le_of_ble_eq_true rfl) (zGo.v ?_)
          refine e_if_eq (pc := 30) (tgt := 35) d_B_isInFlightElsewhere_30 (by decide) (fun h31 => ?_) (fun h31 => ?_)
          · replace h31 := b0.mp h31
            refine e_iinc (pc := 35) d_B_isInFlightElsewhere_35 rfl (Nat.le_of_ble_eq_true rfl) ?_
            dsimp only [List.set]
            refine e_goto (pc := 38) (tgt := 2) d_B_isInFlightElsewhere_38 (by decide) ?_
            refine e_iload_n (pc := 2) d_B_isInFlightElsewhere_2 rfl ?_
            refine e_iconst (pc := 3) (v := 3) d_B_isInFlightElsewhere_3 (by decide) ?_
            refine e_icmp_ge (pc := 4) (tgt := 41) d_B_isInFlightElsewhere_4 (by decide) (fun _ => ?_) (fun h9 => absurd (by decide) h9)
            refine e_iconst (pc := 41) (v := 0) d_B_isInFlightElsewhere_41 (by decide) ?_
            exact e_iret (pc := 42) d_B_isInFlightElsewhere_42 rfl (by decide) (Nat.le_of_ble_eq_true rfl) (Nat.le_of_ble_eq_true rfl) (zR (by first | (exfalso; omega) | simp [elF, elH, hasS, flyS, h25, h26, h29, h30, h31]))
          · replace h31 := b1.mp h31
            refine e_iconst (pc := 33) (v := 1) d_B_isInFlightElsewhere_33 (by decide) ?_
            exact e_iret (pc := 34) d_B_isInFlightElsewhere_34 rfl (by decide) (Nat.le_of_ble_eq_true rfl) (Nat.le_of_ble_eq_true rfl) (zR (by first | (exfalso; omega) | simp [elF, elH, hasS, flyS, h25, h26, h29, h30, h31]))
      · replace h29 := b1.mp h29
        refine e_iconst (pc := 33) (v := 1) d_B_isInFlightElsewhere_33 (by decide) ?_
        exact e_iret (pc := 34) d_B_isInFlightElsewhere_34 rfl (by decide) (Nat.le_of_ble_eq_true rfl) (Nat.le_of_ble_eq_true rfl) (zR (by first | (exfalso; omega) | simp [elF, elH, hasS, flyS, h25, h26, h29]))
  · replace h25 := mt pC_inj.mpr h25
    refine e_aload_n (pc := 17) d_B_isInFlightElsewhere_17 rfl ?_
    refine e_get (pc := 18) s_B_isInFlightElsewhere_18 rfl rfl ?_
    refine e_iload_n (pc := 21) d_B_isInFlightElsewhere_21 rfl ?_
    refine e_aald (pc := 22) d_B_isInFlightElsewhere_22 rfl rfl (vp_dec (by decide)) (ixg (n := 0) (by decide) (crR_at (c := 0) (by decide))) ?_
    refine e_get (pc := 23) s_B_isInFlightElsewhere_23 (rC (c := 0) (by decide)) rfl ?_
    refine e_iload_n (pc := 26) d_B_isInFlightElsewhere_26 rfl ?_
    refine e_cV1 (pc := 27) s_B_isInFlightElsewhere_27 (sA_fliesFor (c := 0) (by decide)) (rQ (c := 0) (by decide)) rfl rfl (Nat.le_of_ble_eq_true rfl) (Nat.le_of_ble_eq_true rfl) (Nat.le_of_ble_eq_true rfl) (zGo.v ?_)
    refine e_if_eq (pc := 30) (tgt := 35) d_B_isInFlightElsewhere_30 (by decide) (fun h32 => ?_) (fun h32 => ?_)
    · replace h32 := b0.mp h32
      refine e_iinc (pc := 35) d_B_isInFlightElsewhere_35 rfl (Nat.le_of_ble_eq_true rfl) ?_
      dsimp only [List.set]
      refine e_goto (pc := 38) (tgt := 2) d_B_isInFlightElsewhere_38 (by decide) ?_
      refine e_iload_n (pc := 2) d_B_isInFlightElsewhere_2 rfl ?_
      refine e_iconst (pc := 3) (v := 3) d_B_isInFlightElsewhere_3 (by decide) ?_
      refine e_icmp_ge (pc := 4) (tgt := 41) d_B_isInFlightElsewhere_4 (by decide) (fun h9 => absurd h9 (by decide)) (fun _ => ?_)
      refine e_aload_n (pc := 7) d_B_isInFlightElsewhere_7 rfl ?_
      refine e_get (pc := 8) s_B_isInFlightElsewhere_8 rfl rfl ?_
      refine e_iload_n (pc := 11) d_B_isInFlightElsewhere_11 rfl ?_
      refine e_aald (pc := 12) d_B_isInFlightElsewhere_12 rfl rfl (vp_dec (by decide)) (ixg (n := 1) (by decide) (crR_at (c := 1) (by decide))) ?_
      refine e_aload_n (pc := 13) d_B_isInFlightElsewhere_13 rfl ?_
      refine e_acmp_eq (pc := 14) (tgt := 35) d_B_isInFlightElsewhere_14 (by decide) (fun h33 => ?_) (fun h33 => ?_)
      · replace h33 := (pC_inj.mp h33).symm
        refine e_iinc (pc := 35) d_B_isInFlightElsewhere_35 rfl (Nat.le_of_ble_eq_true rfl) ?_
        dsimp only [List.set]
        refine e_goto (pc := 38) (tgt := 2) d_B_isInFlightElsewhere_38 (by decide) ?_
        refine e_iload_n (pc := 2) d_B_isInFlightElsewhere_2 rfl ?_
        refine e_iconst (pc := 3) (v := 3) d_B_isInFlightElsewhere_3 (by decide) ?_
        refine e_icmp_ge (pc := 4) (tgt := 41) d_B_isInFlightElsewhere_4 (by decide) (fun h9 => absurd h9 (by decide)) (fun _ => ?_)
        refine e_aload_n (pc := 7) d_B_isInFlightElsewhere_7 rfl ?_
        refine e_get (pc := 8) s_B_isInFlightElsewhere_8 rfl rfl ?_
        refine e_iload_n (pc := 11) d_B_isInFlightElsewhere_11 rfl ?_
        refine e_aald (pc := 12) d_B_isInFlightElsewhere_12 rfl rfl (vp_dec (by decide)) (ixg (n := 2) (by decide) (crR_at (c := 2) (by decide))) ?_
        refine e_aload_n (pc := 13) d_B_isInFlightElsewhere_13 rfl ?_
        refine e_acmp_eq (pc := 14) (tgt := 35) d_B_isInFlightElsewhere_14 (by decide) (fun h34 => ?_) (fun h34 => ?_)
        · replace h34 := (pC_inj.mp h34).symm
          refine e_iinc (pc := 35) d_B_isInFlightElsewhere_35 rfl (Nat.le_of_ble_eq_true rfl) ?_
          dsimp only [List.set]
          refine e_goto (pc := 38) (tgt := 2) d_B_isInFlightElsewhere_38 (by decide) ?_
          refine e_iload_n (pc := 2) d_B_isInFlightElsewhere_2 rfl ?_
          refine e_iconst (pc := 3) (v := 3) d_B_isInFlightElsewhere_3 (by decide) ?_
          refine e_icmp_ge (pc := 4) (tgt := 41) d_B_isInFlightElsewhere_4 (by decide) (fun _ => ?_) (fun h9 => absurd (by decide) h9)
          refine e_iconst (pc := 41) (v := 0) d_B_isInFlightElsewhere_41 (by decide) ?_
          exact e_iret (pc := 42) d_B_isInFlightElsewhere_42 rfl (by decide) (Nat.le_of_ble_eq_true rfl) (Nat.le_of_ble_eq_true rfl) (zR (by first | (exfalso; omega) | simp [elF, elH, hasS, flyS, h25, h32, h33, h34]))
        · replace h34 := mt pC_inj.mpr h34
          refine e_aload_n (pc := 17) d_B_isInFlightElsewhere_17 rfl ?_
          refine e_get (pc := 18) s_B_isInFlightElsewhere_18 rfl rfl ?_
          refine e_iload_n (pc := 21) d_B_isInFlightElsewhere_21 rfl ?_
          refine e_aald (pc := 22) d_B_isInFlightElsewhere_22 rfl rfl (vp_dec (by decide)) (ixg (n := 2) (by decide) (crR_at (c := 2) (by decide))) ?_
          refine e_get (pc := 23) s_B_isInFlightElsewhere_23 (rC (c := 2) (by decide)) rfl ?_
          refine e_iload_n (pc := 26) d_B_isInFlightElsewhere_26 rfl ?_
          refine e_cV1 (pc := 27) s_B_isInFlightElsewhere_27 (sA_fliesFor (c := 2) (by decide)) (rQ (c := 2) (by decide)) rfl rfl (Nat.le_of_ble_eq_true rfl) (Nat.le_of_ble_eq_true rfl) (Nat.le_of_ble_eq_true rfl) (zGo.v ?_)
          refine e_if_eq (pc := 30) (tgt := 35) d_B_isInFlightElsewhere_30 (by decide) (fun h35 => ?_) (fun h35 => ?_)
          · replace h35 := b0.mp h35
            refine e_iinc (pc := 35) d_B_isInFlightElsewhere_35 rfl (Nat.le_of_ble_eq_true rfl) ?_
            dsimp only [List.set]
            refine e_goto (pc := 38) (tgt := 2) d_B_isInFlightElsewhere_38 (by decide) ?_
            refine e_iload_n (pc := 2) d_B_isInFlightElsewhere_2 rfl ?_
            refine e_iconst (pc := 3) (v := 3) d_B_isInFlightElsewhere_3 (by decide) ?_
            refine e_icmp_ge (pc := 4) (tgt := 41) d_B_isInFlightElsewhere_4 (by decide) (fun _ => ?_) (fun h9 => absurd (by decide) h9)
            refine e_iconst (pc := 41) (v := 0) d_B_isInFlightElsewhere_41 (by decide) ?_
            exact e_iret (pc := 42) d_B_isInFlightElsewhere_42 rfl (by decide) (Nat.le_of_ble_eq_true rfl) (Nat.le_of_ble_eq_true rfl) (zR (by first | (exfalso; omega) | simp [elF, elH, hasS, flyS, h25, h32, h33, h34, h35]))
          · replace h35 := b1.mp h35
            refine e_iconst (pc := 33) (v := 1) d_B_isInFlightElsewhere_33 (by decide) ?_
            exact e_iret (pc := 34) d_B_isInFlightElsewhere_34 rfl (by decide) (Nat.le_of_ble_eq_true rfl) (Nat.le_of_ble_eq_true rfl) (zR (by first | (exfalso; omega) | simp [elF, elH, hasS, flyS, h25, h32, h33, h34, h35]))
      · replace h33 := mt pC_inj.mpr h33
        refine e_aload_n (pc := 17) d_B_isInFlightElsewhere_17 rfl ?_
        refine e_get (pc := 18) s_B_isInFlightElsewhere_18 rfl rfl ?_
        refine e_iload_n (pc := 21) d_B_isInFlightElsewhere_21 rfl ?_
        refine e_aald (pc := 22) d_B_isInFlightElsewhere_22 rfl rfl (vp_dec (by decide)) (ixg (n := 1) (by decide) (crR_at (c := 1) (by decide))) ?_
        refine e_get (pc := 23) s_B_isInFlightElsewhere_23 (rC (c := 1) (by decide)) rfl ?_
        refine e_iload_n (pc := 26) d_B_isInFlightElsewhere_26 rfl ?_
        refine e_cV1 (pc := 27) s_B_isInFlightElsewhere_27 (sA_fliesFor (c := 1) (by decide)) (rQ (c := 1) (by decide)) rfl rfl (Nat.le_of_ble_eq_true rfl) (Nat.le_of_ble_eq_true rfl) (Nat.le_of_ble_eq_true rfl) (zGo.v ?_)
        refine e_if_eq (pc := 30) (tgt := 35) d_B_isInFlightElsewhere_30 (by decide) (fun h36 => ?_) (fun h36 => ?_)
        · replace h36 := b0.mp h36
          refine e_iinc (pc := 35) d_B_isInFlightElsewhere_35 rfl (Nat.le_of_ble_eq_true rfl) ?_
          dsimp only [List.set]
          refine e_goto (pc := 38) (tgt := 2) d_B_isInFlightElsewhere_38 (by decide) ?_
          refine e_iload_n (pc := 2) d_B_isInFlightElsewhere_2 rfl ?_
          refine e_iconst (pc := 3) (v := 3) d_B_isInFlightElsewhere_3 (by decide) ?_
          refine e_icmp_ge (pc := 4) (tgt := 41) d_B_isInFlightElsewhere_4 (by decide) (fun h9 => absurd h9 (by decide)) (fun _ => ?_)
          refine e_aload_n (pc := 7) d_B_isInFlightElsewhere_7 rfl ?_
          refine e_get (pc := 8) s_B_isInFlightElsewhere_8 rfl rfl ?_
          refine e_iload_n (pc := 11) d_B_isInFlightElsewhere_11 rfl ?_
          refine e_aald (pc := 12) d_B_isInFlightElsewhere_12 rfl rfl (vp_dec (by decide)) (ixg (n := 2) (by decide) (crR_at (c := 2) (by decide))) ?_
          refine e_aload_n (pc := 13) d_B_isInFlightElsewhere_13 rfl ?_
          refine e_acmp_eq (pc := 14) (tgt := 35) d_B_isInFlightElsewhere_14 (by decide) (fun h37 => ?_) (fun h37 => ?_)
          · replace h37 := (pC_inj.mp h37).symm
            refine e_iinc (pc := 35) d_B_isInFlightElsewhere_35 rfl (Nat.le_of_ble_eq_true rfl) ?_
            dsimp only [List.set]
            refine e_goto (pc := 38) (tgt := 2) d_B_isInFlightElsewhere_38 (by decide) ?_
            refine e_iload_n (pc := 2) d_B_isInFlightElsewhere_2 rfl ?_
            refine e_iconst (pc := 3) (v := 3) d_B_isInFlightElsewhere_3 (by decide) ?_
            refine e_icmp_ge (pc := 4) (tgt := 41) d_B_isInFlightElsewhere_4 (by decide) (fun _ => ?_) (fun h9 => absurd (by decide) h9)
            refine e_iconst (pc := 41) (v := 0) d_B_isInFlightElsewhere_41 (by decide) ?_
            exact e_iret (pc := 42) d_B_isInFlightElsewhere_42 rfl (by decide) (Nat.le_of_ble_eq_true rfl) (Nat.le_of_ble_eq_true rfl) (zR (by first | (exfalso; omega) | simp [elF, elH, hasS, flyS, h25, h32, h33, h36, h37]))
          · replace h37 := mt pC_inj.mpr h37
            refine e_aload_n (pc := 17) d_B_isInFlightElsewhere_17 rfl ?_
            refine e_get (pc := 18) s_B_isInFlightElsewhere_18 rfl rfl ?_
            refine e_iload_n (pc := 21) d_B_isInFlightElsewhere_21 rfl ?_
            refine e_aald (pc := 22) d_B_isInFlightElsewhere_22 rfl rfl (vp_dec (by decide)) (ixg (n := 2) (by decide) (crR_at (c := 2) (by decide))) ?_
            refine e_get (pc := 23) s_B_isInFlightElsewhere_23 (rC (c := 2) (by decide)) rfl ?_
            refine e_iload_n (pc := 26) d_B_isInFlightElsewhere_26 rfl ?_
            refine e_cV1 (pc := 27) s_B_isInFlightElsewhere_27 (sA_fliesFor (c := 2) (by decide)) (rQ (c := 2) (by decide)) rfl rfl (Nat.le_of_ble_eq_true rfl) (Nat.le_of_ble_eq_true rfl) (Nat.le_of_ble_eq_true rfl) (zGo.v ?_)
            refine e_if_eq (pc := 30) (tgt := 35) d_B_isInFlightElsewhere_30 (by decide) (fun h38 => ?_) (fun h38 => ?_)
            · replace h38 := b0.mp h38
              refine e_iinc (pc := 35) d_B_isInFlightElsewhere_35 rfl (Nat.le_of_ble_eq_true rfl) ?_
              dsimp only [List.set]
              refine e_goto (pc := 38) (tgt := 2) d_B_isInFlightElsewhere_38 (by decide) ?_
              refine e_iload_n (pc := 2) d_B_isInFlightElsewhere_2 rfl ?_
              refine e_iconst (pc := 3) (v := 3) d_B_isInFlightElsewhere_3 (by decide) ?_
              refine e_icmp_ge (pc := 4) (tgt := 41) d_B_isInFlightElsewhere_4 (by decide) (fun _ => ?_) (fun h9 => absurd (by decide) h9)
              refine e_iconst (pc := 41) (v := 0) d_B_isInFlightElsewhere_41 (by decide) ?_
              exact e_iret (pc := 42) d_B_isInFlightElsewhere_42 rfl (by decide) (Nat.le_of_ble_eq_true rfl) (Nat.le_of_ble_eq_true rfl) (zR (by first | (exfalso; omega) | simp [elF, elH, hasS, flyS, h25, h32, h33, h36, h37, h38]))
            · replace h38 := b1.mp h38
              refine e_iconst (pc := 33) (v := 1) d_B_isInFlightElsewhere_33 (by decide) ?_
              exact e_iret (pc := 34) d_B_isInFlightElsewhere_34 rfl (by decide) (Nat.le_of_ble_eq_true rfl) (Nat.le_of_ble_eq_true rfl) (zR (by first | (exfalso; omega) | simp [elF, elH, hasS, flyS, h25, h32, h33, h36, h37, h38]))
        · replace h36 := b1.mp h36
          refine e_iconst (pc := 33) (v := 1) d_B_isInFlightElsewhere_33 (by decide) ?_
          exact e_iret (pc := 34) d_B_isInFlightElsewhere_34 rfl (by decide) (Nat.le_of_ble_eq_true rfl) (Nat.le_of_ble_eq_true rfl) (zR (by first | (exfalso; omega) | simp [elF, elH, hasS, flyS, h25, h32, h33, h36]))
    · replace h32 := b1.mp h32
      refine e_iconst (pc := 33) (v := 1) d_B_isInFlightElsewhere_33 (by decide) ?_
      exact e_iret (pc := 34) d_B_isInFlightElsewhere_34 rfl (by decide) (Nat.le_of_ble_eq_true rfl) (Nat.le_of_ble_eq_true rfl) (zR (by first | (exfalso; omega) | simp [elF, elH, hasS, flyS, h25, h32]))
set_option maxHeartbeats 4000000 in
set_option maxRecDepth 100000 in
theorem sA_heldE {l : Launch} {G : zGP} {K : Nat} {S T : St} {th : Int32} {fo : Nat → Int64} {c k : Nat} (hk : k < 8) : Rn l G m_B_isHeldElsewhere [.ref 0, .ref (pC c), .int (nI k)] (hpA K S T th fo) (.inl (some (.int (if elH S c k then 1 else 0))), (hpA K S T th fo)) := by
  refine Rn.of (by decide) rfl rfl (Nat.le_of_ble_eq_true rfl) rfl ?_
  show Ev l G m_B_isHeldElsewhere 0 [.ref 0, .ref (pC c), .int (nI k), .double 0] [] (hpA K S T th fo) 0 0 _
  refine e_iconst (pc := 0) (v := 0) d_B_isHeldElsewhere_0 (by decide) ?_
  refine e_istore_n (pc := 1) d_B_isHeldElsewhere_1 (Nat.le_of_ble_eq_true rfl) ?_
  dsimp only [List.set]
  refine e_iload_n (pc := 2) d_B_isHeldElsewhere_2 rfl ?_
  refine e_iconst (pc := 3) (v := 3) d_B_isHeldElsewhere_3 (by decide) ?_
  refine e_icmp_ge (pc := 4) (tgt := 42) d_B_isHeldElsewhere_4 (by decide) (fun h9 => absurd h9 (by decide)) (fun _ => ?_)
  refine e_aload_n (pc := 7) d_B_isHeldElsewhere_7 rfl ?_
  refine e_get (pc := 8) s_B_isHeldElsewhere_8 rfl rfl ?_
  refine e_iload_n (pc := 11) d_B_isHeldElsewhere_11 rfl ?_
  refine e_aald (pc := 12) d_B_isHeldElsewhere_12 rfl rfl (vp_dec (by decide)) (ixg (n := 0) (by decide) (crR_at (c := 0) (by decide))) ?_
  refine e_aload_n (pc := 13) d_B_isHeldElsewhere_13 rfl ?_
  refine e_acmp_eq (pc := 14) (tgt := 36) d_B_isHeldElsewhere_14 (by decide) (fun h39 => ?_) (fun h39 => ?_)
  · replace h39 := (pC_inj.mp h39).symm
    refine e_iinc (pc := 36) d_B_isHeldElsewhere_36 rfl (Nat.le_of_ble_eq_true rfl) ?_
    dsimp only [List.set]
    refine e_goto (pc := 39) (tgt := 2) d_B_isHeldElsewhere_39 (by decide) ?_
    refine e_iload_n (pc := 2) d_B_isHeldElsewhere_2 rfl ?_
    refine e_iconst (pc := 3) (v := 3) d_B_isHeldElsewhere_3 (by decide) ?_
    refine e_icmp_ge (pc := 4) (tgt := 42) d_B_isHeldElsewhere_4 (by decide) (fun h9 => absurd h9 (by decide)) (fun _ => ?_)
    refine e_aload_n (pc := 7) d_B_isHeldElsewhere_7 rfl ?_
    refine e_get (pc := 8) s_B_isHeldElsewhere_8 rfl rfl ?_
    refine e_iload_n (pc := 11) d_B_isHeldElsewhere_11 rfl ?_
    refine e_aald (pc := 12) d_B_isHeldElsewhere_12 rfl rfl (vp_dec (by decide)) (ixg (n := 1) (by decide) (crR_at (c := 1) (by decide))) ?_
    refine e_aload_n (pc := 13) d_B_isHeldElsewhere_13 rfl ?_
    refine e_acmp_eq (pc := 14) (tgt := 36) d_B_isHeldElsewhere_14 (by decide) (fun h40 => ?_) (fun h40 => ?_)
    · replace h40 := (pC_inj.mp h40).symm
      refine e_iinc (pc := 36) d_B_isHeldElsewhere_36 rfl (Nat.le_of_ble_eq_true rfl) ?_
      dsimp only [List.set]
      refine e_goto (pc := 39) (tgt := 2) d_B_isHeldElsewhere_39 (by decide) ?_
      refine e_iload_n (pc := 2) d_B_isHeldElsewhere_2 rfl ?_
      refine e_iconst (pc := 3) (v := 3) d_B_isHeldElsewhere_3 (by decide) ?_
      refine e_icmp_ge (pc := 4) (tgt := 42) d_B_isHeldElsewhere_4 (by decide) (fun h9 => absurd h9 (by decide)) (fun _ => ?_)
      refine e_aload_n (pc := 7) d_B_isHeldElsewhere_7 rfl ?_
      refine e_get (pc := 8) s_B_isHeldElsewhere_8 rfl rfl ?_
      refine e_iload_n (pc := 11) d_B_isHeldElsewhere_11 rfl ?_
      refine e_aald (pc := 12) d_B_isHeldElsewhere_12 rfl rfl (vp_dec (by decide)) (ixg (n := 2) (by decide) (crR_at (c := 2) (by decide))) ?_
      refine e_aload_n (pc := 13) d_B_isHeldElsewhere_13 rfl ?_
      refine e_acmp_eq (pc := 14) (tgt := 36) d_B_isHeldElsewhere_14 (by decide) (fun h41 => ?_) (fun h41 => ?_)
      · replace h41 := (pC_inj.mp h41).symm
        refine e_iinc (pc := 36) d_B_isHeldElsewhere_36 rfl (Nat.le_of_ble_eq_true rfl) ?_
        dsimp only [List.set]
        refine e_goto (pc := 39) (tgt := 2) d_B_isHeldElsewhere_39 (by decide) ?_
        refine e_iload_n (pc := 2) d_B_isHeldElsewhere_2 rfl ?_
        refine e_iconst (pc := 3) (v := 3) d_B_isHeldElsewhere_3 (by decide) ?_
        refine e_icmp_ge (pc := 4) (tgt := 42) d_B_isHeldElsewhere_4 (by decide) (fun _ => ?_) (fun h9 => absurd (by decide) h9)
        refine e_iconst (pc := 42) (v := 0) d_B_isHeldElsewhere_42 (by decide) ?_
        exact e_iret (pc := 43) d_B_isHeldElsewhere_43 rfl (by decide) (Nat.le_of_ble_eq_true rfl) (Nat.le_of_ble_eq_true rfl) (zR (by first | (exfalso; omega) | simp [elF, elH, hasS, flyS, h39, h40, h41]))
      · replace h41 := mt pC_inj.mpr h41
        refine e_aload_n (pc := 17) d_B_isHeldElsewhere_17 rfl ?_
        refine e_get (pc := 18) s_B_isHeldElsewhere_18 rfl rfl ?_
        refine e_iload_n (pc := 21) d_B_isHeldElsewhere_21 rfl ?_
        refine e_aald (pc := 22) d_B_isHeldElsewhere_22 rfl rfl (vp_dec (by decide)) (ixg (n := 2) (by decide) (crR_at (c := 2) (by decide))) ?_
        refine e_iload_n (pc := 23) d_B_isHeldElsewhere_23 rfl ?_
        refine e_cV1 (pc := 24) s_B_isHeldElsewhere_24 (sA_lineFor (c := 2) (by decide) hk) (rC (c := 2) (by decide)) rfl rfl (Nat.le_of_ble_eq_true rfl) (Nat.le_of_ble_eq_true rfl) (Nat.le_of_ble_eq_true rfl) (zGo.v ?_)
        refine e_iload_n (pc := 27) d_B_isHeldElsewhere_27 rfl ?_
        refine e_cV1 (pc := 28) s_B_isHeldElsewhere_28 (sA_has (c := 2) (j := k % 2) (by decide) (Nat.mod_lt _ (by decide))) (rL (c := 2) (j := k % 2) (by decide) (Nat.mod_lt _ (by decide))) rfl rfl (Nat.le_of_ble_eq_true rfl) (Nat.le_of_ble_eq_true rfl) (Nat.le_of_ble_eq_true rfl) (zGo.v ?_)
        refine e_if_eq (pc := 31) (tgt := 36) d_B_isHeldElsewhere_31 (by decide) (fun h42 => ?_) (fun h42 => ?_)
        · replace h42 := b0.mp h42
          refine e_iinc (pc := 36) d_B_isHeldElsewhere_36 rfl (Nat.le_of_ble_eq_true rfl) ?_
          dsimp only [List.set]
          refine e_goto (pc := 39) (tgt := 2) d_B_isHeldElsewhere_39 (by decide) ?_
          refine e_iload_n (pc := 2) d_B_isHeldElsewhere_2 rfl ?_
          refine e_iconst (pc := 3) (v := 3) d_B_isHeldElsewhere_3 (by decide) ?_
          refine e_icmp_ge (pc := 4) (tgt := 42) d_B_isHeldElsewhere_4 (by decide) (fun _ => ?_) (fun h9 => absurd (by decide) h9)
          refine e_iconst (pc := 42) (v := 0) d_B_isHeldElsewhere_42 (by decide) ?_
          exact e_iret (pc := 43) d_B_isHeldElsewhere_43 rfl (by decide) (Nat.le_of_ble_eq_true rfl) (Nat.le_of_ble_eq_true rfl) (zR (by first | (exfalso; omega) | simp [elF, elH, hasS, flyS, h39, h40, h41, h42]))
        · replace h42 := b1.mp h42
          refine e_iconst (pc := 34) (v := 1) d_B_isHeldElsewhere_34 (by decide) ?_
          exact e_iret (pc := 35) d_B_isHeldElsewhere_35 rfl (by decide) (Nat.le_of_ble_eq_true rfl) (Nat.le_of_ble_eq_true rfl) (zR (by first | (exfalso; omega) | simp [elF, elH, hasS, flyS, h39, h40, h41, h42]))
    · replace h40 := mt pC_inj.mpr h40
      refine e_aload_n (pc := 17) d_B_isHeldElsewhere_17 rfl ?_
      refine e_get (pc := 18) s_B_isHeldElsewhere_18 rfl rfl ?_
      refine e_iload_n (pc := 21) d_B_isHeldElsewhere_21 rfl ?_
      refine e_aald (pc := 22) d_B_isHeldElsewhere_22 rfl rfl (vp_dec (by decide)) (ixg (n := 1) (by decide) (crR_at (c := 1) (by decide))) ?_
      refine e_iload_n (pc := 23) d_B_isHeldElsewhere_23 rfl ?_
      refine e_cV1 (pc := 24) s_B_isHeldElsewhere_24 (sA_lineFor (c := 1) (by decide) hk) (rC (c := 1) (by decide)) rfl rfl (Nat.le_of_ble_eq_true rfl) (Nat.le_of_ble_eq_true rfl) (Nat.le_of_ble_eq_true rfl) (zGo.v ?_)
      refine e_iload_n (pc := 27) d_B_isHeldElsewhere_27 rfl ?_
      refine e_cV1 (pc := 28) s_B_isHeldElsewhere_28 (sA_has (c := 1) (j := k % 2) (by decide) (Nat.mod_lt _ (by decide))) (rL (c := 1) (j := k % 2) (by decide) (Nat.mod_lt _ (by decide))) rfl rfl (Nat.le_of_ble_eq_true rfl) (Nat.le_of_ble_eq_true rfl) (Nat.le_of_ble_eq_true rfl) (zGo.v ?_)
      refine e_if_eq (pc := 31) (tgt := 36) d_B_isHeldElsewhere_31 (by decide) (fun h43 => ?_) (fun h43 => ?_)
      · replace h43 := b0.mp h43
        refine e_iinc (pc := 36) d_B_isHeldElsewhere_36 rfl (Nat.le_of_ble_eq_true rfl) ?_
        dsimp only [List.set]
        refine e_goto (pc := 39) (tgt := 2) d_B_isHeldElsewhere_39 (by decide) ?_
        refine e_iload_n (pc := 2) d_B_isHeldElsewhere_2 rfl ?_
        refine e_iconst (pc := 3) (v := 3) d_B_isHeldElsewhere_3 (by decide) ?_
        refine e_icmp_ge (pc := 4) (tgt := 42) d_B_isHeldElsewhere_4 (by decide) (fun h9 => absurd h9 (by decide)) (fun _ => ?_)
        refine e_aload_n (pc := 7) d_B_isHeldElsewhere_7 rfl ?_
        refine e_get (pc := 8) s_B_isHeldElsewhere_8 rfl rfl ?_
        refine e_iload_n (pc := 11) d_B_isHeldElsewhere_11 rfl ?_
        refine e_aald (pc := 12) d_B_isHeldElsewhere_12 rfl rfl (vp_dec (by decide)) (ixg (n := 2) (by decide) (crR_at (c := 2) (by decide))) ?_
        refine e_aload_n (pc := 13) d_B_isHeldElsewhere_13 rfl ?_
        refine e_acmp_eq (pc := 14) (tgt := 36) d_B_isHeldElsewhere_14 (by decide) (fun h44 => ?_) (fun h44 => ?_)
        · replace h44 := (pC_inj.mp h44).symm
          refine e_iinc (pc := 36) d_B_isHeldElsewhere_36 rfl (Nat.le_of_ble_eq_true rfl) ?_
          dsimp only [List.set]
          refine e_goto (pc := 39) (tgt := 2) d_B_isHeldElsewhere_39 (by decide) ?_
          refine e_iload_n (pc := 2) d_B_isHeldElsewhere_2 rfl ?_
          refine e_iconst (pc := 3) (v := 3) d_B_isHeldElsewhere_3 (by decide) ?_
          refine e_icmp_ge (pc := 4) (tgt := 42) d_B_isHeldElsewhere_4 (by decide) (fun _ => ?_) (fun h9 => absurd (by decide) h9)
          refine e_iconst (pc := 42) (v := 0) d_B_isHeldElsewhere_42 (by decide) ?_
          exact e_iret (pc := 43) d_B_isHeldElsewhere_43 rfl (by decide) (Nat.le_of_ble_eq_true rfl) (Nat.le_of_ble_eq_true rfl) (zR (by first | (exfalso; omega) | simp [elF, elH, hasS, flyS, h39, h40, h43, h44]))
        · replace h44 := mt pC_inj.mpr h44
          refine e_aload_n (pc := 17) d_B_isHeldElsewhere_17 rfl ?_
          refine e_get (pc := 18) s_B_isHeldElsewhere_18 rfl rfl ?_
          refine e_iload_n (pc := 21) d_B_isHeldElsewhere_21 rfl ?_
          refine e_aald (pc := 22) d_B_isHeldElsewhere_22 rfl rfl (vp_dec (by decide)) (ixg (n := 2) (by decide) (crR_at (c := 2) (by decide))) ?_
          refine e_iload_n (pc := 23) d_B_isHeldElsewhere_23 rfl ?_
          refine e_cV1 (pc := 24) s_B_isHeldElsewhere_24 (sA_lineFor (c := 2) (by decide) hk) (rC (c := 2) (by decide)) rfl rfl (Nat.le_of_ble_eq_true rfl) (Nat.le_of_ble_eq_true rfl) (Nat.le_of_ble_eq_true rfl) (zGo.v ?_)
          refine e_iload_n (pc := 27) d_B_isHeldElsewhere_27 rfl ?_
          refine e_cV1 (pc := 28) s_B_isHeldElsewhere_28 (sA_has (c := 2) (j := k % 2) (by decide) (Nat.mod_lt _ (by decide))) (rL (c := 2) (j := k % 2) (by decide) (Nat.mod_lt _ (by decide))) rfl rfl (Nat.le_of_ble_eq_true rfl) (Nat.le_of_ble_eq_true rfl) (Nat.le_of_ble_eq_true rfl) (zGo.v ?_)
          refine e_if_eq (pc := 31) (tgt := 36) d_B_isHeldElsewhere_31 (by decide) (fun h45 => ?_) (fun h45 => ?_)
          · replace h45 := b0.mp h45
            refine e_iinc (pc := 36) d_B_isHeldElsewhere_36 rfl (Nat.le_of_ble_eq_true rfl) ?_
            dsimp only [List.set]
            refine e_goto (pc := 39) (tgt := 2) d_B_isHeldElsewhere_39 (by decide) ?_
            refine e_iload_n (pc := 2) d_B_isHeldElsewhere_2 rfl ?_
            refine e_iconst (pc := 3) (v := 3) d_B_isHeldElsewhere_3 (by decide) ?_
            refine e_icmp_ge (pc := 4) (tgt := 42) d_B_isHeldElsewhere_4 (by decide) (fun _ => ?_) (fun h9 => absurd (by decide) h9)
            refine e_iconst (pc := 42) (v := 0) d_B_isHeldElsewhere_42 (by decide) ?_
            exact e_iret (pc := 43) d_B_isHeldElsewhere_43 rfl (by decide) (Nat.le_of_ble_eq_true rfl) (Nat.le_of_ble_eq_true rfl) (zR (by first | (exfalso; omega) | simp [elF, elH, hasS, flyS, h39, h40, h43, h44, h45]))
          · replace h45 := b1.mp h45
            refine e_iconst (pc := 34) (v := 1) d_B_isHeldElsewhere_34 (by decide) ?_
            exact e_iret (pc := 35) d_B_isHeldElsewhere_35 rfl (by decide) (Nat.le_of_ble_eq_true rfl) (Nat.le_of_ble_eq_true rfl) (zR (by first | (exfalso; omega) | simp [elF, elH, hasS, flyS, h39, h40, h43, h44, h45]))
      · replace h43 := b1.mp h43
        refine e_iconst (pc := 34) (v := 1) d_B_isHeldElsewhere_34 (by decide) ?_
        exact e_iret (pc := 35) d_B_isHeldElsewhere_35 rfl (by decide) (Nat.le_of_ble_eq_true rfl) (Nat.le_of_ble_eq_true rfl) (zR (by first | (exfalso; omega) | simp [elF, elH, hasS, flyS, h39, h40, h43]))
  · replace h39 := mt pC_inj.mpr h39
    refine e_aload_n (pc := 17) d_B_isHeldElsewhere_17 rfl ?_
    refine e_get (pc := 18) s_B_isHeldElsewhere_18 rfl rfl ?_
    refine e_iload_n (pc := 21) d_B_isHeldElsewhere_21 rfl ?_
    refine e_aald (pc := 22) d_B_isHeldElsewhere_22 rfl rfl (vp_dec (by decide)) (ixg (n := 0) (by decide) (crR_at (c := 0) (by decide))) ?_
    refine e_iload_n (pc := 23) d_B_isHeldElsewhere_23 rfl ?_
    refine e_cV1 (pc := 24) s_B_isHeldElsewhere_24 (sA_lineFor (c := 0) (by decide) hk) (rC (c := 0) (by decide)) rfl rfl (Nat.le_of_ble_eq_true rfl) (Nat.le_of_ble_eq_true rfl) (Nat.le_of_ble_eq_true rfl) (zGo.v ?_)
    refine e_iload_n (pc := 27) d_B_isHeldElsewhere_27 rfl ?_
    refine e_cV1 (pc := 28) s_B_isHeldElsewhere_28 (sA_has (c := 0) (j := k % 2) (by decide) (Nat.mod_lt _ (by decide))) (rL (c := 0) (j := k % 2) (by decide) (Nat.mod_lt _ (by decide))) rfl rfl (Nat.le_of_ble_eq_true rfl) (Nat.le_of_ble_eq_true rfl) (Nat.le_of_ble_eq_true rfl) (zGo.v ?_)
    refine e_if_eq (pc := 31) (tgt := 36) d_B_isHeldElsewhere_31 (by decide) (fun h46 => ?_) (fun h46 => ?_)
    · replace h46 := b0.mp h46
      refine e_iinc (pc := 36) d_B_isHeldElsewhere_36 rfl (Nat.le_of_ble_eq_true rfl) ?_
      dsimp only [List.set]
      refine e_goto (pc := 39) (tgt := 2) d_B_isHeldElsewhere_39 (by decide) ?_
      refine e_iload_n (pc := 2) d_B_isHeldElsewhere_2 rfl ?_
      refine e_iconst (pc := 3) (v := 3) d_B_isHeldElsewhere_3 (by decide) ?_
      refine e_icmp_ge (pc := 4) (tgt := 42) d_B_isHeldElsewhere_4 (by decide) (fun h9 => absurd h9 (by decide)) (fun _ => ?_)
      refine e_aload_n (pc := 7) d_B_isHeldElsewhere_7 rfl ?_
      refine e_get (pc := 8) s_B_isHeldElsewhere_8 rfl rfl ?_
      refine e_iload_n (pc := 11) d_B_isHeldElsewhere_11 rfl ?_
      refine e_aald (pc := 12) d_B_isHeldElsewhere_12 rfl rfl (vp_dec (by decide)) (ixg (n := 1) (by decide) (crR_at (c := 1) (by decide))) ?_
      refine e_aload_n (pc := 13) d_B_isHeldElsewhere_13 rfl ?_
      refine e_acmp_eq (pc := 14) (tgt := 36) d_B_isHeldElsewhere_14 (by decide) (fun h47 => ?_) (fun h47 => ?_)
      · replace h47 := (pC_inj.mp h47).symm
        refine e_iinc (pc := 36) d_B_isHeldElsewhere_36 rfl (Nat.le_of_ble_eq_true rfl) ?_
        dsimp only [List.set]
        refine e_goto (pc := 39) (tgt := 2) d_B_isHeldElsewhere_39 (by decide) ?_
        refine e_iload_n (pc := 2) d_B_isHeldElsewhere_2 rfl ?_
        refine e_iconst (pc := 3) (v := 3) d_B_isHeldElsewhere_3 (by decide) ?_
        refine e_icmp_ge (pc := 4) (tgt := 42) d_B_isHeldElsewhere_4 (by decide) (fun h9 => absurd h9 (by decide)) (fun _ => ?_)
        refine e_aload_n (pc := 7) d_B_isHeldElsewhere_7 rfl ?_
        refine e_get (pc := 8) s_B_isHeldElsewhere_8 rfl rfl ?_
        refine e_iload_n (pc := 11) d_B_isHeldElsewhere_11 rfl ?_
        refine e_aald (pc := 12) d_B_isHeldElsewhere_12 rfl rfl (vp_dec (by decide)) (ixg (n := 2) (by decide) (crR_at (c := 2) (by decide))) ?_
        refine e_aload_n (pc := 13) d_B_isHeldElsewhere_13 rfl ?_
        refine e_acmp_eq (pc := 14) (tgt := 36) d_B_isHeldElsewhere_14 (by decide) (fun h48 => ?_) (fun h48 => ?_)
        · replace h48 := (pC_inj.mp h48).symm
          refine e_iinc (pc := 36) d_B_isHeldElsewhere_36 rfl (Nat.le_of_ble_eq_true rfl) ?_
          dsimp only [List.set]
          refine e_goto (pc := 39) (tgt := 2) d_B_isHeldElsewhere_39 (by decide) ?_
          refine e_iload_n (pc := 2) d_B_isHeldElsewhere_2 rfl ?_
          refine e_iconst (pc := 3) (v := 3) d_B_isHeldElsewhere_3 (by decide) ?_
          refine e_icmp_ge (pc := 4) (tgt := 42) d_B_isHeldElsewhere_4 (by decide) (fun _ => ?_) (fun h9 => absurd (by decide) h9)
          refine e_iconst (pc := 42) (v := 0) d_B_isHeldElsewhere_42 (by decide) ?_
          exact e_iret (pc := 43) d_B_isHeldElsewhere_43 rfl (by decide) (Nat.le_of_ble_eq_true rfl) (Nat.le_of_ble_eq_true rfl) (zR (by first | (exfalso; omega) | simp [elF, elH, hasS, flyS, h39, h46, h47, h48]))
        · replace h48 := mt pC_inj.mpr h48
          refine e_aload_n (pc := 17) d_B_isHeldElsewhere_17 rfl ?_
          refine e_get (pc := 18) s_B_isHeldElsewhere_18 rfl rfl ?_
          refine e_iload_n (pc := 21) d_B_isHeldElsewhere_21 rfl ?_
          refine e_aald (pc := 22) d_B_isHeldElsewhere_22 rfl rfl (vp_dec (by decide)) (ixg (n := 2) (by decide) (crR_at (c := 2) (by decide))) ?_
          refine e_iload_n (pc := 23) d_B_isHeldElsewhere_23 rfl ?_
          refine e_cV1 (pc := 24) s_B_isHeldElsewhere_24 (sA_lineFor (c := 2) (by decide) hk) (rC (c := 2) (by decide)) rfl rfl (Nat.le_of_ble_eq_true rfl) (Nat.le_of_ble_eq_true rfl) (Nat.le_of_ble_eq_true rfl) (zGo.v ?_)
          refine e_iload_n (pc := 27) d_B_isHeldElsewhere_27 rfl ?_
          refine e_cV1 (pc := 28) s_B_isHeldElsewhere_28 (sA_has (c := 2) (j := k % 2) (by decide) (Nat.mod_lt _ (by decide))) (rL (c := 2) (j := k % 2) (by decide) (Nat.mod_lt _ (by decide))) rfl rfl (Nat.le_of_ble_eq_true rfl) (Nat.le_of_ble_eq_true rfl) (Nat.le_of_ble_eq_true rfl) (zGo.v ?_)
          refine e_if_eq (pc := 31) (tgt := 36) d_B_isHeldElsewhere_31 (by decide) (fun h49 => ?_) (fun h49 => ?_)
          · replace h49 := b0.mp h49
            refine e_iinc (pc := 36) d_B_isHeldElsewhere_36 rfl (Nat.le_of_ble_eq_true rfl) ?_
            dsimp only [List.set]
            refine e_goto (pc := 39) (tgt := 2) d_B_isHeldElsewhere_39 (by decide) ?_
            refine e_iload_n (pc := 2) d_B_isHeldElsewhere_2 rfl ?_
            refine e_iconst (pc := 3) (v := 3) d_B_isHeldElsewhere_3 (by decide) ?_
            refine e_icmp_ge (pc := 4) (tgt := 42) d_B_isHeldElsewhere_4 (by decide) (fun _ => ?_) (fun h9 => absurd (by decide) h9)
            refine e_iconst (pc := 42) (v := 0) d_B_isHeldElsewhere_42 (by decide) ?_
            exact e_iret (pc := 43) d_B_isHeldElsewhere_43 rfl (by decide) (Nat.le_of_ble_eq_true rfl) (Nat.le_of_ble_eq_true rfl) (zR (by first | (exfalso; omega) | simp [elF, elH, hasS, flyS, h39, h46, h47, h48, h49]))
          · replace h49 := b1.mp h49
            refine e_iconst (pc := 34) (v := 1) d_B_isHeldElsewhere_34 (by decide) ?_
            exact e_iret (pc := 35) d_B_isHeldElsewhere_35 rfl (by decide) (Nat.le_of_ble_eq_true rfl) (Nat.le_of_ble_eq_true rfl) (zR (by first | (exfalso; omega) | simp [elF, elH, hasS, flyS, h39, h46, h47, h48, h49]))
      · replace h47 := mt pC_inj.mpr h47
        refine e_aload_n (pc := 17) d_B_isHeldElsewhere_17 rfl ?_
        refine e_get (pc := 18) s_B_isHeldElsewhere_18 rfl rfl ?_
        refine e_iload_n (pc := 21) d_B_isHeldElsewhere_21 rfl ?_
        refine e_aald (pc := 22) d_B_isHeldElsewhere_22 rfl rfl (vp_dec (by decide)) (ixg (n := 1) (by decide) (crR_at (c := 1) (by decide))) ?_
        refine e_iload_n (pc := 23) d_B_isHeldElsewhere_23 rfl ?_
        refine e_cV1 (pc := 24) s_B_isHeldElsewhere_24 (sA_lineFor (c := 1) (by decide) hk) (rC (c := 1) (by decide)) rfl rfl (Nat.le_of_ble_eq_true rfl) (Nat.le_of_ble_eq_true rfl) (Nat.le_of_ble_eq_true rfl) (zGo.v ?_)
        refine e_iload_n (pc := 27) d_B_isHeldElsewhere_27 rfl ?_
        refine e_cV1 (pc := 28) s_B_isHeldElsewhere_28 (sA_has (c := 1) (j := k % 2) (by decide) (Nat.mod_lt _ (by decide))) (rL (c := 1) (j := k % 2) (by decide) (Nat.mod_lt _ (by decide))) rfl rfl (Nat.le_of_ble_eq_true rfl) (Nat.le_of_ble_eq_true rfl) (Nat.le_of_ble_eq_true rfl) (zGo.v ?_)
        refine e_if_eq (pc := 31) (tgt := 36) d_B_isHeldElsewhere_31 (by decide) (fun h50 => ?_) (fun h50 => ?_)
        · replace h50 := b0.mp h50
          refine e_iinc (pc := 36) d_B_isHeldElsewhere_36 rfl (Nat.le_of_ble_eq_true rfl) ?_
          dsimp only [List.set]
          refine e_goto (pc := 39) (tgt := 2) d_B_isHeldElsewhere_39 (by decide) ?_
          refine e_iload_n (pc := 2) d_B_isHeldElsewhere_2 rfl ?_
          refine e_iconst (pc := 3) (v := 3) d_B_isHeldElsewhere_3 (by decide) ?_
          refine e_icmp_ge (pc := 4) (tgt := 42) d_B_isHeldElsewhere_4 (by decide) (fun h9 => absurd h9 (by decide)) (fun _ => ?_)
          refine e_aload_n (pc := 7) d_B_isHeldElsewhere_7 rfl ?_
          refine e_get (pc := 8) s_B_isHeldElsewhere_8 rfl rfl ?_
          refine e_iload_n (pc := 11) d_B_isHeldElsewhere_11 rfl ?_
          refine e_aald (pc := 12) d_B_isHeldElsewhere_12 rfl rfl (vp_dec (by decide)) (ixg (n := 2) (by decide) (crR_at (c := 2) (by decide))) ?_
          refine e_aload_n (pc := 13) d_B_isHeldElsewhere_13 rfl ?_
          refine e_acmp_eq (pc := 14) (tgt := 36) d_B_isHeldElsewhere_14 (by decide) (fun h51 => ?_) (fun h51 => ?_)
          · replace h51 := (pC_inj.mp h51).symm
            refine e_iinc (pc := 36) d_B_isHeldElsewhere_36 rfl (Nat.le_of_ble_eq_true rfl) ?_
            dsimp only [List.set]
            refine e_goto (pc := 39) (tgt := 2) d_B_isHeldElsewhere_39 (by decide) ?_
            refine e_iload_n (pc := 2) d_B_isHeldElsewhere_2 rfl ?_
            refine e_iconst (pc := 3) (v := 3) d_B_isHeldElsewhere_3 (by decide) ?_
            refine e_icmp_ge (pc := 4) (tgt := 42) d_B_isHeldElsewhere_4 (by decide) (fun _ => ?_) (fun h9 => absurd (by decide) h9)
            refine e_iconst (pc := 42) (v := 0) d_B_isHeldElsewhere_42 (by decide) ?_
            exact e_iret (pc := 43) d_B_isHeldElsewhere_43 rfl (by decide) (Nat.le_of_ble_eq_true rfl) (Nat.le_of_ble_eq_true rfl) (zR (by first | (exfalso; omega) | simp [elF, elH, hasS, flyS, h39, h46, h47, h50, h51]))
          · replace h51 := mt pC_inj.mpr h51
            refine e_aload_n (pc := 17) d_B_isHeldElsewhere_17 rfl ?_
            refine e_get (pc := 18) s_B_isHeldElsewhere_18 rfl rfl ?_
            refine e_iload_n (pc := 21) d_B_isHeldElsewhere_21 rfl ?_
            refine e_aald (pc := 22) d_B_isHeldElsewhere_22 rfl rfl (vp_dec (by decide)) (ixg (n := 2) (by decide) (crR_at (c := 2) (by decide))) ?_
            refine e_iload_n (pc := 23) d_B_isHeldElsewhere_23 rfl ?_
            refine e_cV1 (pc := 24) s_B_isHeldElsewhere_24 (sA_lineFor (c := 2) (by decide) hk) (rC (c := 2) (by decide)) rfl rfl (Nat.le_of_ble_eq_true rfl) (Nat.le_of_ble_eq_true rfl) (Nat.le_of_ble_eq_true rfl) (zGo.v ?_)
            refine e_iload_n (pc := 27) d_B_isHeldElsewhere_27 rfl ?_
            refine e_cV1 (pc := 28) s_B_isHeldElsewhere_28 (sA_has (c := 2) (j := k % 2) (by decide) (Nat.mod_lt _ (by decide))) (rL (c := 2) (j := k % 2) (by decide) (Nat.mod_lt _ (by decide))) rfl rfl (Nat.le_of_ble_eq_true rfl) (Nat.le_of_ble_eq_true rfl) (Nat.le_of_ble_eq_true rfl) (zGo.v ?_)
            refine e_if_eq (pc := 31) (tgt := 36) d_B_isHeldElsewhere_31 (by decide) (fun h52 => ?_) (fun h52 => ?_)
            · replace h52 := b0.mp h52
              refine e_iinc (pc := 36) d_B_isHeldElsewhere_36 rfl (Nat.le_of_ble_eq_true rfl) ?_
              dsimp only [List.set]
              refine e_goto (pc := 39) (tgt := 2) d_B_isHeldElsewhere_39 (by decide) ?_
              refine e_iload_n (pc := 2) d_B_isHeldElsewhere_2 rfl ?_
              refine e_iconst (pc := 3) (v := 3) d_B_isHeldElsewhere_3 (by decide) ?_
              refine e_icmp_ge (pc := 4) (tgt := 42) d_B_isHeldElsewhere_4 (by decide) (fun _ => ?_) (fun h9 => absurd (by decide) h9)
              refine e_iconst (pc := 42) (v := 0) d_B_isHeldElsewhere_42 (by decide) ?_
              exact e_iret (pc := 43) d_B_isHeldElsewhere_43 rfl (by decide) (Nat.le_of_ble_eq_true rfl) (Nat.le_of_ble_eq_true rfl) (zR (by first | (exfalso; omega) | simp [elF, elH, hasS, flyS, h39, h46, h47, h50, h51, h52]))
            · replace h52 := b1.mp h52
              refine e_iconst (pc := 34) (v := 1) d_B_isHeldElsewhere_34 (by decide) ?_
              exact e_iret (pc := 35) d_B_isHeldElsewhere_35 rfl (by decide) (Nat.le_of_ble_eq_true rfl) (Nat.le_of_ble_eq_true rfl) (zR (by first | (exfalso; omega) | simp [elF, elH, hasS, flyS, h39, h46, h47, h50, h51, h52]))
        · replace h50 := b1.mp h50
          refine e_iconst (pc := 34) (v := 1) d_B_isHeldElsewhere_34 (by decide) ?_
          exact e_iret (pc := 35) d_B_isHeldElsewhere_35 rfl (by decide) (Nat.le_of_ble_eq_true rfl) (Nat.le_of_ble_eq_true rfl) (zR (by first | (exfalso; omega) | simp [elF, elH, hasS, flyS, h39, h46, h47, h50]))
    · replace h46 := b1.mp h46
      refine e_iconst (pc := 34) (v := 1) d_B_isHeldElsewhere_34 (by decide) ?_
      exact e_iret (pc := 35) d_B_isHeldElsewhere_35 rfl (by decide) (Nat.le_of_ble_eq_true rfl) (Nat.le_of_ble_eq_true rfl) (zR (by first | (exfalso; omega) | simp [elF, elH, hasS, flyS, h39, h46]))
theorem tswOut {x : Int32} (h : x < 0 ∨ 8 ≤ x) : x.toInt < 0 ∨ 7 < x.toInt := by
  rcases h with h | h
  · rw [Int32.lt_iff_toInt_lt] at h; exact Or.inl h
  · rw [Int32.le_iff_toInt_le] at h; right; have h9 : (8 : Int32).toInt = 8 := by decide
    omega
set_option maxHeartbeats 4000000 in
set_option maxRecDepth 100000 in
theorem sA_young0 {l : Launch} {G : zGP} {K : Nat} {S T : St} {th : Int32} {fo : Nat → Int64} {c k : Nat} (hc : c < 3) (hk : k < 8) (hK : 0 ≤ K) (hK4 : K ≤ 4) (h6 : S 6 c 0 = nI 0) : Rn l G m_Sb_youngestTo [.ref (pC c + 8), .int (nI k)] (hpA K S T th fo) (.inl (some (.int (ynS S c k 0))), (hpA K S T th fo)) := by
  refine Rn.of (by decide) rfl rfl (Nat.le_of_ble_eq_true rfl) rfl ?_
  show Ev l G m_Sb_youngestTo 0 [.ref (pC c + 8), .int (nI k), .double 0] [] (hpA K S T th fo) 0 0 _
  refine e_aload_n (pc := 0) d_Sb_youngestTo_0 rfl ?_
  refine e_get (pc := 1) s_Sb_youngestTo_1 (rB hc) rfl ?_
  refine e_topi (y := 0) h6 ?_
  refine e_iconst (pc := 4) (v := 1) d_Sb_youngestTo_4 (by decide) ?_
  refine e_isub (pc := 5) d_Sb_youngestTo_5 ?_
  refine e_istore_n (pc := 6) d_Sb_youngestTo_6 (Nat.le_of_ble_eq_true rfl) ?_
  dsimp only [List.set]
  refine e_iload_n (pc := 7) d_Sb_youngestTo_7 rfl ?_
  refine e_if_lt (pc := 8) (tgt := 29) d_Sb_youngestTo_8 (by decide) (fun _ => ?_) (fun h9 => absurd (by decide) h9)
  refine e_iconst (pc := 29) (v := (-1)) d_Sb_youngestTo_29 (by decide) ?_
  exact e_iret (pc := 30) d_Sb_youngestTo_30 rfl rfl (Nat.le_of_ble_eq_true rfl) (Nat.le_of_ble_eq_true rfl) (zR (by simp [ynS, ]))
set_option maxHeartbeats 4000000 in
set_option maxRecDepth 100000 in
theorem sA_young1 {l : Launch} {G : zGP} {K : Nat} {S T : St} {th : Int32} {fo : Nat → Int64} {c k : Nat} (hc : c < 3) (hk : k < 8) (hK : 1 ≤ K) (hK4 : K ≤ 4) (h6 : S 6 c 0 = nI 1) : Rn l G m_Sb_youngestTo [.ref (pC c + 8), .int (nI k)] (hpA K S T th fo) (.inl (some (.int (ynS S c k 1))), (hpA K S T th fo)) := by
  refine Rn.of (by decide) rfl rfl (Nat.le_of_ble_eq_true rfl) rfl ?_
  show Ev l G m_Sb_youngestTo 0 [.ref (pC c + 8), .int (nI k), .double 0] [] (hpA K S T th fo) 0 0 _
  refine e_aload_n (pc := 0) d_Sb_youngestTo_0 rfl ?_
  refine e_get (pc := 1) s_Sb_youngestTo_1 (rB hc) rfl ?_
  refine e_topi (y := 1) h6 ?_
  refine e_iconst (pc := 4) (v := 1) d_Sb_youngestTo_4 (by decide) ?_
  refine e_isub (pc := 5) d_Sb_youngestTo_5 ?_
  refine e_istore_n (pc := 6) d_Sb_youngestTo_6 (Nat.le_of_ble_eq_true rfl) ?_
  dsimp only [List.set]
  refine e_iload_n (pc := 7) d_Sb_youngestTo_7 rfl ?_
  refine e_if_lt (pc := 8) (tgt := 29) d_Sb_youngestTo_8 (by decide) (fun h9 => absurd h9 (by decide)) (fun _ => ?_)
  refine e_aload_n (pc := 11) d_Sb_youngestTo_11 rfl ?_
  refine e_get (pc := 12) s_Sb_youngestTo_12 (rB hc) rfl ?_
  refine e_iload_n (pc := 15) d_Sb_youngestTo_15 rfl ?_
  refine e_iald (pc := 16) d_Sb_youngestTo_16 (rBa hc) (vp_lit (n := 0) (by decide) (by omega) (by omega)) (ixf (n := 0) (by decide)) ?_
  refine e_iload_n (pc := 17) d_Sb_youngestTo_17 rfl ?_
  refine e_icmp_ne (pc := 18) (tgt := 23) d_Sb_youngestTo_18 (by decide) (fun h53 => ?_) (fun h53 => ?_)
  · refine e_iinc (pc := 23) d_Sb_youngestTo_23 rfl (Nat.le_of_ble_eq_true rfl) ?_
    dsimp only [List.set]
    refine e_goto (pc := 26) (tgt := 7) d_Sb_youngestTo_26 (by decide) ?_
    refine e_iload_n (pc := 7) d_Sb_youngestTo_7 rfl ?_
    refine e_if_lt (pc := 8) (tgt := 29) d_Sb_youngestTo_8 (by decide) (fun _ => ?_) (fun h9 => absurd (by decide) h9)
    refine e_iconst (pc := 29) (v := (-1)) d_Sb_youngestTo_29 (by decide) ?_
    exact e_iret (pc := 30) d_Sb_youngestTo_30 rfl rfl (Nat.le_of_ble_eq_true rfl) (Nat.le_of_ble_eq_true rfl) (zR (by simp [ynS, h53]))
  · refine e_iload_n (pc := 21) d_Sb_youngestTo_21 rfl ?_
    refine e_topi (y := nI 0) (by decide) ?_
    exact e_iret (pc := 22) d_Sb_youngestTo_22 rfl rfl (Nat.le_of_ble_eq_true rfl) (Nat.le_of_ble_eq_true rfl) (zR (by simp [ynS, h53]))
set_option maxHeartbeats 4000000 in
set_option maxRecDepth 100000 in
theorem sA_young2 {l : Launch} {G : zGP} {K : Nat} {S T : St} {th : Int32} {fo : Nat → Int64} {c k : Nat} (hc : c < 3) (hk : k < 8) (hK : 2 ≤ K) (hK4 : K ≤ 4) (h6 : S 6 c 0 = nI 2) : Rn l G m_Sb_youngestTo [.ref (pC c + 8), .int (nI k)] (hpA K S T th fo) (.inl (some (.int (ynS S c k 2))), (hpA K S T th fo)) := by
  refine Rn.of (by decide) rfl rfl (Nat.le_of_ble_eq_true rfl) rfl ?_
  show Ev l G m_Sb_youngestTo 0 [.ref (pC c + 8), .int (nI k), .double 0] [] (hpA K S T th fo) 0 0 _
  refine e_aload_n (pc := 0) d_Sb_youngestTo_0 rfl ?_
  refine e_get (pc := 1) s_Sb_youngestTo_1 (rB hc) rfl ?_
  refine e_topi (y := 2) h6 ?_
  refine e_iconst (pc := 4) (v := 1) d_Sb_youngestTo_4 (by decide) ?_
  refine e_isub (pc := 5) d_Sb_youngestTo_5 ?_
  refine e_istore_n (pc := 6) d_Sb_youngestTo_6 (Nat.le_of_ble_eq_true rfl) ?_
  dsimp only [List.set]
  refine e_iload_n (pc := 7) d_Sb_youngestTo_7 rfl ?_
  refine e_if_lt (pc := 8) (tgt := 29) d_Sb_youngestTo_8 (by decide) (fun h9 => absurd h9 (by decide)) (fun _ => ?_)
  refine e_aload_n (pc := 11) d_Sb_youngestTo_11 rfl ?_
  refine e_get (pc := 12) s_Sb_youngestTo_12 (rB hc) rfl ?_
  refine e_iload_n (pc := 15) d_Sb_youngestTo_15 rfl ?_
  refine e_iald (pc := 16) d_Sb_youngestTo_16 (rBa hc) (vp_lit (n := 1) (by decide) (by omega) (by omega)) (ixf (n := 1) (by decide)) ?_
  refine e_iload_n (pc := 17) d_Sb_youngestTo_17 rfl ?_
  refine e_icmp_ne (pc := 18) (tgt := 23) d_Sb_youngestTo_18 (by decide) (fun h54 => ?_) (fun h54 => ?_)
  · refine e_iinc (pc := 23) d_Sb_youngestTo_23 rfl (Nat.le_of_ble_eq_true rfl) ?_
    dsimp only [List.set]
    refine e_goto (pc := 26) (tgt := 7) d_Sb_youngestTo_26 (by decide) ?_
    refine e_iload_n (pc := 7) d_Sb_youngestTo_7 rfl ?_
    refine e_if_lt (pc := 8) (tgt := 29) d_Sb_youngestTo_8 (by decide) (fun h9 => absurd h9 (by decide)) (fun _ => ?_)
    refine e_aload_n (pc := 11) d_Sb_youngestTo_11 rfl ?_
    refine e_get (pc := 12) s_Sb_youngestTo_12 (rB hc) rfl ?_
    refine e_iload_n (pc := 15) d_Sb_youngestTo_15 rfl ?_
    refine e_iald (pc := 16) d_Sb_youngestTo_16 (rBa hc) (vp_lit (n := 0) (by decide) (by omega) (by omega)) (ixf (n := 0) (by decide)) ?_
    refine e_iload_n (pc := 17) d_Sb_youngestTo_17 rfl ?_
    refine e_icmp_ne (pc := 18) (tgt := 23) d_Sb_youngestTo_18 (by decide) (fun h55 => ?_) (fun h55 => ?_)
    · refine e_iinc (pc := 23) d_Sb_youngestTo_23 rfl (Nat.le_of_ble_eq_true rfl) ?_
      dsimp only [List.set]
      refine e_goto (pc := 26) (tgt := 7) d_Sb_youngestTo_26 (by decide) ?_
      refine e_iload_n (pc := 7) d_Sb_youngestTo_7 rfl ?_
      refine e_if_lt (pc := 8) (tgt := 29) d_Sb_youngestTo_8 (by decide) (fun _ => ?_) (fun h9 => absurd (by decide) h9)
      refine e_iconst (pc := 29) (v := (-1)) d_Sb_youngestTo_29 (by decide) ?_
      exact e_iret (pc := 30) d_Sb_youngestTo_30 rfl rfl (Nat.le_of_ble_eq_true rfl) (Nat.le_of_ble_eq_true rfl) (zR (by simp [ynS, h54, h55]))
    · refine e_iload_n (pc := 21) d_Sb_youngestTo_21 rfl ?_
      refine e_topi (y := nI 0) (by decide) ?_
      exact e_iret (pc := 22) d_Sb_youngestTo_22 rfl rfl (Nat.le_of_ble_eq_true rfl) (Nat.le_of_ble_eq_true rfl) (zR (by simp [ynS, h54, h55]))
  · refine e_iload_n (pc := 21) d_Sb_youngestTo_21 rfl ?_
    refine e_topi (y := nI 1) (by decide) ?_
    exact e_iret (pc := 22) d_Sb_youngestTo_22 rfl rfl (Nat.le_of_ble_eq_true rfl) (Nat.le_of_ble_eq_true rfl) (zR (by simp [ynS, h54]))
set_option maxHeartbeats 4000000 in
set_option maxRecDepth 100000 in
theorem sA_young3 {l : Launch} {G : zGP} {K : Nat} {S T : St} {th : Int32} {fo : Nat → Int64} {c k : Nat} (hc : c < 3) (hk : k < 8) (hK : 3 ≤ K) (hK4 : K ≤ 4) (h6 : S 6 c 0 = nI 3) : Rn l G m_Sb_youngestTo [.ref (pC c + 8), .int (nI k)] (hpA K S T th fo) (.inl (some (.int (ynS S c k 3))), (hpA K S T th fo)) := by
  refine Rn.of (by decide) rfl rfl (Nat.le_of_ble_eq_true rfl) rfl ?_
  show Ev l G m_Sb_youngestTo 0 [.ref (pC c + 8), .int (nI k), .double 0] [] (hpA K S T th fo) 0 0 _
  refine e_aload_n (pc := 0) d_Sb_youngestTo_0 rfl ?_
  refine e_get (pc := 1) s_Sb_youngestTo_1 (rB hc) rfl ?_
  refine e_topi (y := 3) h6 ?_
  refine e_iconst (pc := 4) (v := 1) d_Sb_youngestTo_4 (by decide) ?_
  refine e_isub (pc := 5) d_Sb_youngestTo_5 ?_
  refine e_istore_n (pc := 6) d_Sb_youngestTo_6 (Nat.le_of_ble_eq_true rfl) ?_
  dsimp only [List.set]
  refine e_iload_n (pc := 7) d_Sb_youngestTo_7 rfl ?_
  refine e_if_lt (pc := 8) (tgt := 29) d_Sb_youngestTo_8 (by decide) (fun h9 => absurd h9 (by decide)) (fun _ => ?_)
  refine e_aload_n (pc := 11) d_Sb_youngestTo_11 rfl ?_
  refine e_get (pc := 12) s_Sb_youngestTo_12 (rB hc) rfl ?_
  refine e_iload_n (pc := 15) d_Sb_youngestTo_15 rfl ?_
  refine e_iald (pc := 16) d_Sb_youngestTo_16 (rBa hc) (vp_lit (n := 2) (by decide) (by omega) (by omega)) (ixf (n := 2) (by decide)) ?_
  refine e_iload_n (pc := 17) d_Sb_youngestTo_17 rfl ?_
  refine e_icmp_ne (pc := 18) (tgt := 23) d_Sb_youngestTo_18 (by decide) (fun h56 => ?_) (fun h56 => ?_)
  · refine e_iinc (pc := 23) d_Sb_youngestTo_23 rfl (Nat.le_of_ble_eq_true rfl) ?_
    dsimp only [List.set]
    refine e_goto (pc := 26) (tgt := 7) d_Sb_youngestTo_26 (by decide) ?_
    refine e_iload_n (pc := 7) d_Sb_youngestTo_7 rfl ?_
    refine e_if_lt (pc := 8) (tgt := 29) d_Sb_youngestTo_8 (by decide) (fun h9 => absurd h9 (by decide)) (fun _ => ?_)
    refine e_aload_n (pc := 11) d_Sb_youngestTo_11 rfl ?_
    refine e_get (pc := 12) s_Sb_youngestTo_12 (rB hc) rfl ?_
    refine e_iload_n (pc := 15) d_Sb_youngestTo_15 rfl ?_
    refine e_iald (pc := 16) d_Sb_youngestTo_16 (rBa hc) (vp_lit (n := 1) (by decide) (by omega) (by omega)) (ixf (n := 1) (by decide)) ?_
    refine e_iload_n (pc := 17) d_Sb_youngestTo_17 rfl ?_
    refine e_icmp_ne (pc := 18) (tgt := 23) d_Sb_youngestTo_18 (by decide) (fun h57 => ?_) (fun h57 => ?_)
    · refine e_iinc (pc := 23) d_Sb_youngestTo_23 rfl (Nat.le_of_ble_eq_true rfl) ?_
      dsimp only [List.set]
      refine e_goto (pc := 26) (tgt := 7) d_Sb_youngestTo_26 (by decide) ?_
      refine e_iload_n (pc := 7) d_Sb_youngestTo_7 rfl ?_
      refine e_if_lt (pc := 8) (tgt := 29) d_Sb_youngestTo_8 (by decide) (fun h9 => absurd h9 (by decide)) (fun _ => ?_)
      refine e_aload_n (pc := 11) d_Sb_youngestTo_11 rfl ?_
      refine e_get (pc := 12) s_Sb_youngestTo_12 (rB hc) rfl ?_
      refine e_iload_n (pc := 15) d_Sb_youngestTo_15 rfl ?_
      refine e_iald (pc := 16) d_Sb_youngestTo_16 (rBa hc) (vp_lit (n := 0) (by decide) (by omega) (by omega)) (ixf (n := 0) (by decide)) ?_
      refine e_iload_n (pc := 17) d_Sb_youngestTo_17 rfl ?_
      refine e_icmp_ne (pc := 18) (tgt := 23) d_Sb_youngestTo_18 (by decide) (fun h58 => ?_) (fun h58 => ?_)
      · refine e_iinc (pc := 23) d_Sb_youngestTo_23 rfl (Nat.le_of_ble_eq_true rfl) ?_
        dsimp only [List.set]
        refine e_goto (pc := 26) (tgt := 7) d_Sb_youngestTo_26 (by decide) ?_
        refine e_iload_n (pc := 7) d_Sb_youngestTo_7 rfl ?_
        refine e_if_lt (pc := 8) (tgt := 29) d_Sb_youngestTo_8 (by decide) (fun _ => ?_) (fun h9 => absurd (by decide) h9)
        refine e_iconst (pc := 29) (v := (-1)) d_Sb_youngestTo_29 (by decide) ?_
        exact e_iret (pc := 30) d_Sb_youngestTo_30 rfl rfl (Nat.le_of_ble_eq_true rfl) (Nat.le_of_ble_eq_true rfl) (zR (by simp [ynS, h56, h57, h58]))
      · refine e_iload_n (pc := 21) d_Sb_youngestTo_21 rfl ?_
        refine e_topi (y := nI 0) (by decide) ?_
        exact e_iret (pc := 22) d_Sb_youngestTo_22 rfl rfl (Nat.le_of_ble_eq_true rfl) (Nat.le_of_ble_eq_true rfl) (zR (by simp [ynS, h56, h57, h58]))
    · refine e_iload_n (pc := 21) d_Sb_youngestTo_21 rfl ?_
      refine e_topi (y := nI 1) (by decide) ?_
      exact e_iret (pc := 22) d_Sb_youngestTo_22 rfl rfl (Nat.le_of_ble_eq_true rfl) (Nat.le_of_ble_eq_true rfl) (zR (by simp [ynS, h56, h57]))
  · refine e_iload_n (pc := 21) d_Sb_youngestTo_21 rfl ?_
    refine e_topi (y := nI 2) (by decide) ?_
    exact e_iret (pc := 22) d_Sb_youngestTo_22 rfl rfl (Nat.le_of_ble_eq_true rfl) (Nat.le_of_ble_eq_true rfl) (zR (by simp [ynS, h56]))
set_option maxHeartbeats 4000000 in
set_option maxRecDepth 100000 in
theorem sA_young4 {l : Launch} {G : zGP} {K : Nat} {S T : St} {th : Int32} {fo : Nat → Int64} {c k : Nat} (hc : c < 3) (hk : k < 8) (hK : 4 ≤ K) (hK4 : K ≤ 4) (h6 : S 6 c 0 = nI 4) : Rn l G m_Sb_youngestTo [.ref (pC c + 8), .int (nI k)] (hpA K S T th fo) (.inl (some (.int (ynS S c k 4))), (hpA K S T th fo)) := by
  refine Rn.of (by decide) rfl rfl (Nat.le_of_ble_eq_true rfl) rfl ?_
  show Ev l G m_Sb_youngestTo 0 [.ref (pC c + 8), .int (nI k), .double 0] [] (hpA K S T th fo) 0 0 _
  refine e_aload_n (pc := 0) d_Sb_youngestTo_0 rfl ?_
  refine e_get (pc := 1) s_Sb_youngestTo_1 (rB hc) rfl ?_
  refine e_topi (y := 4) h6 ?_
  refine e_iconst (pc := 4) (v := 1) d_Sb_youngestTo_4 (by decide) ?_
  refine e_isub (pc := 5) d_Sb_youngestTo_5 ?_
  refine e_istore_n (pc := 6) d_Sb_youngestTo_6 (Nat.le_of_ble_eq_true rfl) ?_
  dsimp only [List.set]
  refine e_iload_n (pc := 7) d_Sb_youngestTo_7 rfl ?_
  refine e_if_lt (pc := 8) (tgt := 29) d_Sb_youngestTo_8 (by decide) (fun h9 => absurd h9 (by decide)) (fun _ => ?_)
  refine e_aload_n (pc := 11) d_Sb_youngestTo_11 rfl ?_
  refine e_get (pc := 12) s_Sb_youngestTo_12 (rB hc) rfl ?_
  refine e_iload_n (pc := 15) d_Sb_youngestTo_15 rfl ?_
  refine e_iald (pc := 16) d_Sb_youngestTo_16 (rBa hc) (vp_lit (n := 3) (by decide) (by omega) (by omega)) (ixf (n := 3) (by decide)) ?_
  refine e_iload_n (pc := 17) d_Sb_youngestTo_17 rfl ?_
  refine e_icmp_ne (pc := 18) (tgt := 23) d_Sb_youngestTo_18 (by decide) (fun h59 => ?_) (fun h59 => ?_)
  · refine e_iinc (pc := 23) d_Sb_youngestTo_23 rfl (Nat.le_of_ble_eq_true rfl) ?_
    dsimp only [List.set]
    refine e_goto (pc := 26) (tgt := 7) d_Sb_youngestTo_26 (by decide) ?_
    refine e_iload_n (pc := 7) d_Sb_youngestTo_7 rfl ?_
    refine e_if_lt (pc := 8) (tgt := 29) d_Sb_youngestTo_8 (by decide) (fun h9 => absurd h9 (by decide)) (fun _ => ?_)
    refine e_aload_n (pc := 11) d_Sb_youngestTo_11 rfl ?_
    refine e_get (pc := 12) s_Sb_youngestTo_12 (rB hc) rfl ?_
    refine e_iload_n (pc := 15) d_Sb_youngestTo_15 rfl ?_
    refine e_iald (pc := 16) d_Sb_youngestTo_16 (rBa hc) (vp_lit (n := 2) (by decide) (by omega) (by omega)) (ixf (n := 2) (by decide)) ?_
    refine e_iload_n (pc := 17) d_Sb_youngestTo_17 rfl ?_
    refine e_icmp_ne (pc := 18) (tgt := 23) d_Sb_youngestTo_18 (by decide) (fun h60 => ?_) (fun h60 => ?_)
    · refine e_iinc (pc := 23) d_Sb_youngestTo_23 rfl (Nat.le_of_ble_eq_true rfl) ?_
      dsimp only [List.set]
      refine e_goto (pc := 26) (tgt := 7) d_Sb_youngestTo_26 (by decide) ?_
      refine e_iload_n (pc := 7) d_Sb_youngestTo_7 rfl ?_
      refine e_if_lt (pc := 8) (tgt := 29) d_Sb_youngestTo_8 (by decide) (fun h9 => absurd h9 (by decide)) (fun _ => ?_)
      refine e_aload_n (pc := 11) d_Sb_youngestTo_11 rfl ?_
      refine e_get (pc := 12) s_Sb_youngestTo_12 (rB hc) rfl ?_
      refine e_iload_n (pc := 15) d_Sb_youngestTo_15 rfl ?_
      refine e_iald (pc := 16) d_Sb_youngestTo_16 (rBa hc) (vp_lit (n := 1) (by decide) (by omega) (by omega)) (ixf (n := 1) (by decide)) ?_
      refine e_iload_n (pc := 17) d_Sb_youngestTo_17 rfl ?_
      refine e_icmp_ne (pc := 18) (tgt := 23) d_Sb_youngestTo_18 (by decide) (fun h61 => ?_) (fun h61 => ?_)
      · refine e_iinc (pc := 23) d_Sb_youngestTo_23 rfl (Nat.le_of_ble_eq_true rfl) ?_
        dsimp only [List.set]
        refine e_goto (pc := 26) (tgt := 7) d_Sb_youngestTo_26 (by decide) ?_
        refine e_iload_n (pc := 7) d_Sb_youngestTo_7 rfl ?_
        refine e_if_lt (pc := 8) (tgt := 29) d_Sb_youngestTo_8 (by decide) (fun h9 => absurd h9 (by decide)) (fun _ => ?_)
        refine e_aload_n (pc := 11) d_Sb_youngestTo_11 rfl ?_
        refine e_get (pc := 12) s_Sb_youngestTo_12 (rB hc) rfl ?_
        refine e_iload_n (pc := 15) d_Sb_youngestTo_15 rfl ?_
        refine e_iald (pc := 16) d_Sb_youngestTo_16 (rBa hc) (vp_lit (n := 0) (by decide) (by omega) (by omega)) (ixf (n := 0) (by decide)) ?_
        refine e_iload_n (pc := 17) d_Sb_youngestTo_17 rfl ?_
        refine e_icmp_ne (pc := 18) (tgt := 23) d_Sb_youngestTo_18 (by decide) (fun h62 => ?_) (fun h62 => ?_)
        · refine e_iinc (pc := 23) d_Sb_youngestTo_23 rfl (Nat.le_of_ble_eq_true rfl) ?_
          dsimp only [List.set]
          refine e_goto (pc := 26) (tgt := 7) d_Sb_youngestTo_26 (by decide) ?_
          refine e_iload_n (pc := 7) d_Sb_youngestTo_7 rfl ?_
          refine e_if_lt (pc := 8) (tgt := 29) d_Sb_youngestTo_8 (by decide) (fun _ => ?_) (fun h9 => absurd (by decide) h9)
          refine e_iconst (pc := 29) (v := (-1)) d_Sb_youngestTo_29 (by decide) ?_
          exact e_iret (pc := 30) d_Sb_youngestTo_30 rfl rfl (Nat.le_of_ble_eq_true rfl) (Nat.le_of_ble_eq_true rfl) (zR (by simp [ynS, h59, h60, h61, h62]))
        · refine e_iload_n (pc := 21) d_Sb_youngestTo_21 rfl ?_
          refine e_topi (y := nI 0) (by decide) ?_
          exact e_iret (pc := 22) d_Sb_youngestTo_22 rfl rfl (Nat.le_of_ble_eq_true rfl) (Nat.le_of_ble_eq_true rfl) (zR (by simp [ynS, h59, h60, h61, h62]))
      · refine e_iload_n (pc := 21) d_Sb_youngestTo_21 rfl ?_
        refine e_topi (y := nI 1) (by decide) ?_
        exact e_iret (pc := 22) d_Sb_youngestTo_22 rfl rfl (Nat.le_of_ble_eq_true rfl) (Nat.le_of_ble_eq_true rfl) (zR (by simp [ynS, h59, h60, h61]))
    · refine e_iload_n (pc := 21) d_Sb_youngestTo_21 rfl ?_
      refine e_topi (y := nI 2) (by decide) ?_
      exact e_iret (pc := 22) d_Sb_youngestTo_22 rfl rfl (Nat.le_of_ble_eq_true rfl) (Nat.le_of_ble_eq_true rfl) (zR (by simp [ynS, h59, h60]))
  · refine e_iload_n (pc := 21) d_Sb_youngestTo_21 rfl ?_
    refine e_topi (y := nI 3) (by decide) ?_
    exact e_iret (pc := 22) d_Sb_youngestTo_22 rfl rfl (Nat.le_of_ble_eq_true rfl) (Nat.le_of_ble_eq_true rfl) (zR (by simp [ynS, h59]))
set_option maxHeartbeats 4000000 in
set_option maxRecDepth 100000 in
theorem sA_young {l : Launch} {G : zGP} {K : Nat} {S T : St} {th : Int32} {fo : Nat → Int64} {c k n : Nat} (hc : c < 3) (hk : k < 8) (hn : n ≤ K) (hK4 : K ≤ 4) (h6 : S 6 c 0 = nI n) : Rn l G m_Sb_youngestTo [.ref (pC c + 8), .int (nI k)] (hpA K S T th fo) (.inl (some (.int (ynS S c k n))), (hpA K S T th fo)) := by
  rcases (show n = 0 ∨ n = 1 ∨ n = 2 ∨ n = 3 ∨ n = 4 by omega) with rfl | rfl | rfl | rfl | rfl
  · exact sA_young0 hc hk hn hK4 h6
  · exact sA_young1 hc hk hn hK4 h6
  · exact sA_young2 hc hk hn hK4 h6
  · exact sA_young3 hc hk hn hK4 h6
  · exact sA_young4 hc hk hn hK4 h6
set_option maxHeartbeats 4000000 in
set_option maxRecDepth 100000 in
theorem sA_rm1 {l : Launch} {G : zGP} {K : Nat} {S T : St} {th : Int32} {fo : Nat → Int64} {c : Nat} (hc : c < 3) (hK : 1 ≤ K) (hK4 : K ≤ 4) (h6 : S 6 c 0 = nI 1) : Rn l G m_Sb_removeOldest [.ref (pC c + 8)] (hpA K S T th fo) (.inl none, (hpA K (rmS S c 1) T th fo)) := by
  refine Rn.of (by decide) rfl rfl (Nat.le_of_ble_eq_true rfl) rfl ?_
  show Ev l G m_Sb_removeOldest 0 [.ref (pC c + 8), .double 0] [] (hpA K S T th fo) 0 0 _
  refine e_aload_n (pc := 0) d_Sb_removeOldest_0 rfl ?_
  refine e_dup (pc := 1) d_Sb_removeOldest_1 rfl ?_
  refine e_get (pc := 2) s_Sb_removeOldest_2 (rB hc) rfl ?_
  refine e_topi (y := 1) h6 ?_
  refine e_iconst (pc := 5) (v := 1) d_Sb_removeOldest_5 (by decide) ?_
  refine e_isub (pc := 6) d_Sb_removeOldest_6 ?_
  refine e_topi (y := nI 0) (by decide) ?_
  refine e_put (pc := 7) s_Sb_removeOldest_7 (rB hc) (Nat.le_of_ble_eq_true rfl) zFit.int (wSz hc) ?_
  refine e_iconst (pc := 10) (v := 0) d_Sb_removeOldest_10 (by decide) ?_
  refine e_istore_n (pc := 11) d_Sb_removeOldest_11 (Nat.le_of_ble_eq_true rfl) ?_
  dsimp only [List.set]
  refine e_iload_n (pc := 12) d_Sb_removeOldest_12 rfl ?_
  refine e_aload_n (pc := 13) d_Sb_removeOldest_13 rfl ?_
  refine e_get (pc := 14) s_Sb_removeOldest_14 (rB hc) rfl ?_
  refine e_topi (y := nI 0) (by simp [su, upd]) ?_
  refine e_icmp_ge (pc := 17) (tgt := 54) d_Sb_removeOldest_17 (by decide) (fun _ => ?_) (fun h9 => absurd (by decide) h9)
  exact e_vret (pc := 54) d_Sb_removeOldest_54 rfl (Nat.le_of_ble_eq_true rfl) (Nat.le_of_ble_eq_true rfl) rfl
set_option maxHeartbeats 4000000 in
set_option maxRecDepth 100000 in
theorem sA_rm2 {l : Launch} {G : zGP} {K : Nat} {S T : St} {th : Int32} {fo : Nat → Int64} {c : Nat} (hc : c < 3) (hK : 2 ≤ K) (hK4 : K ≤ 4) (h6 : S 6 c 0 = nI 2) : Rn l G m_Sb_removeOldest [.ref (pC c + 8)] (hpA K S T th fo) (.inl none, (hpA K (rmS S c 2) T th fo)) := by
  refine Rn.of (by decide) rfl rfl (Nat.le_of_ble_eq_true rfl) rfl ?_
  show Ev l G m_Sb_removeOldest 0 [.ref (pC c + 8), .double 0] [] (hpA K S T th fo) 0 0 _
  refine e_aload_n (pc := 0) d_Sb_removeOldest_0 rfl ?_
  refine e_dup (pc := 1) d_Sb_removeOldest_1 rfl ?_
  refine e_get (pc := 2) s_Sb_removeOldest_2 (rB hc) rfl ?_
  refine e_topi (y := 2) h6 ?_
  refine e_iconst (pc := 5) (v := 1) d_Sb_removeOldest_5 (by decide) ?_
  refine e_isub (pc := 6) d_Sb_removeOldest_6 ?_
  refine e_topi (y := nI 1) (by decide) ?_
  refine e_put (pc := 7) s_Sb_removeOldest_7 (rB hc) (Nat.le_of_ble_eq_true rfl) zFit.int (wSz hc) ?_
  refine e_iconst (pc := 10) (v := 0) d_Sb_removeOldest_10 (by decide) ?_
  refine e_istore_n (pc := 11) d_Sb_removeOldest_11 (Nat.le_of_ble_eq_true rfl) ?_
  dsimp only [List.set]
  refine e_iload_n (pc := 12) d_Sb_removeOldest_12 rfl ?_
  refine e_aload_n (pc := 13) d_Sb_removeOldest_13 rfl ?_
  refine e_get (pc := 14) s_Sb_removeOldest_14 (rB hc) rfl ?_
  refine e_topi (y := nI 1) (by simp [su, upd]) ?_
  refine e_icmp_ge (pc := 17) (tgt := 54) d_Sb_removeOldest_17 (by decide) (fun h9 => absurd h9 (by decide)) (fun _ => ?_)
  refine e_aload_n (pc := 20) d_Sb_removeOldest_20 rfl ?_
  refine e_get (pc := 21) s_Sb_removeOldest_21 (rB hc) rfl ?_
  refine e_iload_n (pc := 24) d_Sb_removeOldest_24 rfl ?_
  refine e_aload_n (pc := 25) d_Sb_removeOldest_25 rfl ?_
  refine e_get (pc := 26) s_Sb_removeOldest_26 (rB hc) rfl ?_
  refine e_iload_n (pc := 29) d_Sb_removeOldest_29 rfl ?_
  refine e_iconst (pc := 30) (v := 1) d_Sb_removeOldest_30 (by decide) ?_
  refine e_iadd (pc := 31) d_Sb_removeOldest_31 ?_
  refine e_iald (pc := 32) d_Sb_removeOldest_32 (rBa hc) (vp_lit (n := 1) (by decide) (by omega) (by omega)) (ixf (n := 1) (by decide)) ?_
  refine e_iast (pc := 33) d_Sb_removeOldest_33 (rBa hc) (vp_lit (n := 0) (by decide) (by omega) (by omega)) (wBa hc (j := 0) (by decide)) ?_
  refine e_aload_n (pc := 34) d_Sb_removeOldest_34 rfl ?_
  refine e_get (pc := 35) s_Sb_removeOldest_35 (rB hc) rfl ?_
  refine e_iload_n (pc := 38) d_Sb_removeOldest_38 rfl ?_
  refine e_aload_n (pc := 39) d_Sb_removeOldest_39 rfl ?_
  refine e_get (pc := 40) s_Sb_removeOldest_40 (rB hc) rfl ?_
  refine e_iload_n (pc := 43) d_Sb_removeOldest_43 rfl ?_
  refine e_iconst (pc := 44) (v := 1) d_Sb_removeOldest_44 (by decide) ?_
  refine e_iadd (pc := 45) d_Sb_removeOldest_45 ?_
  refine e_iald (pc := 46) d_Sb_removeOldest_46 (rBv hc) (vp_lit (n := 1) (by decide) (by omega) (by omega)) (ixf (n := 1) (by decide)) ?_
  refine e_iast (pc := 47) d_Sb_removeOldest_47 (rBv hc) (vp_lit (n := 0) (by decide) (by omega) (by omega)) (wBv hc (j := 0) (by decide)) ?_
  refine e_iinc (pc := 48) d_Sb_removeOldest_48 rfl (Nat.le_of_ble_eq_true rfl) ?_
  dsimp only [List.set]
  refine e_goto (pc := 51) (tgt := 12) d_Sb_removeOldest_51 (by decide) ?_
  refine e_iload_n (pc := 12) d_Sb_removeOldest_12 rfl ?_
  refine e_aload_n (pc := 13) d_Sb_removeOldest_13 rfl ?_
  refine e_get (pc := 14) s_Sb_removeOldest_14 (rB hc) rfl ?_
  refine e_topi (y := nI 1) (by simp [su, upd]) ?_
  refine e_icmp_ge (pc := 17) (tgt := 54) d_Sb_removeOldest_17 (by decide) (fun _ => ?_) (fun h9 => absurd (by decide) h9)
  exact e_vret (pc := 54) d_Sb_removeOldest_54 rfl (Nat.le_of_ble_eq_true rfl) (Nat.le_of_ble_eq_true rfl) rfl
set_option maxHeartbeats 4000000 in
set_option maxRecDepth 100000 in
theorem sA_rm3 {l : Launch} {G : zGP} {K : Nat} {S T : St} {th : Int32} {fo : Nat → Int64} {c : Nat} (hc : c < 3) (hK : 3 ≤ K) (hK4 : K ≤ 4) (h6 : S 6 c 0 = nI 3) : Rn l G m_Sb_removeOldest [.ref (pC c + 8)] (hpA K S T th fo) (.inl none, (hpA K (rmS S c 3) T th fo)) := by
  refine Rn.of (by decide) rfl rfl (Nat.le_of_ble_eq_true rfl) rfl ?_
  show Ev l G m_Sb_removeOldest 0 [.ref (pC c + 8), .double 0] [] (hpA K S T th fo) 0 0 _
  refine e_aload_n (pc := 0) d_Sb_removeOldest_0 rfl ?_
  refine e_dup (pc := 1) d_Sb_removeOldest_1 rfl ?_
  refine e_get (pc := 2) s_Sb_removeOldest_2 (rB hc) rfl ?_
  refine e_topi (y := 3) h6 ?_
  refine e_iconst (pc := 5) (v := 1) d_Sb_removeOldest_5 (by decide) ?_
  refine e_isub (pc := 6) d_Sb_removeOldest_6 ?_
  refine e_topi (y := nI 2) (by decide) ?_
  refine e_put (pc := 7) s_Sb_removeOldest_7 (rB hc) (Nat.le_of_ble_eq_true rfl) zFit.int (wSz hc) ?_
  refine e_iconst (pc := 10) (v := 0) d_Sb_removeOldest_10 (by decide) ?_
  refine e_istore_n (pc := 11) d_Sb_removeOldest_11 (Nat.le_of_ble_eq_true rfl) ?_
  dsimp only [List.set]
  refine e_iload_n (pc := 12) d_Sb_removeOldest_12 rfl ?_
  refine e_aload_n (pc := 13) d_Sb_removeOldest_13 rfl ?_
  refine e_get (pc := 14) s_Sb_removeOldest_14 (rB hc) rfl ?_
  refine e_topi (y := nI 2) (by simp [su, upd]) ?_
  refine e_icmp_ge (pc := 17) (tgt := 54) d_Sb_removeOldest_17 (by decide) (fun h9 => absurd h9 (by decide)) (fun _ => ?_)
  refine e_aload_n (pc := 20) d_Sb_removeOldest_20 rfl ?_
  refine e_get (pc := 21) s_Sb_removeOldest_21 (rB hc) rfl ?_
  refine e_iload_n (pc := 24) d_Sb_removeOldest_24 rfl ?_
  refine e_aload_n (pc := 25) d_Sb_removeOldest_25 rfl ?_
  refine e_get (pc := 26) s_Sb_removeOldest_26 (rB hc) rfl ?_
  refine e_iload_n (pc := 29) d_Sb_removeOldest_29 rfl ?_
  refine e_iconst (pc := 30) (v := 1) d_Sb_removeOldest_30 (by decide) ?_
  refine e_iadd (pc := 31) d_Sb_removeOldest_31 ?_
  refine e_iald (pc := 32) d_Sb_removeOldest_32 (rBa hc) (vp_lit (n := 1) (by decide) (by omega) (by omega)) (ixf (n := 1) (by decide)) ?_
  refine e_iast (pc := 33) d_Sb_removeOldest_33 (rBa hc) (vp_lit (n := 0) (by decide) (by omega) (by omega)) (wBa hc (j := 0) (by decide)) ?_
  refine e_aload_n (pc := 34) d_Sb_removeOldest_34 rfl ?_
  refine e_get (pc := 35) s_Sb_removeOldest_35 (rB hc) rfl ?_
  refine e_iload_n (pc := 38) d_Sb_removeOldest_38 rfl ?_
  refine e_aload_n (pc := 39) d_Sb_removeOldest_39 rfl ?_
  refine e_get (pc := 40) s_Sb_removeOldest_40 (rB hc) rfl ?_
  refine e_iload_n (pc := 43) d_Sb_removeOldest_43 rfl ?_
  refine e_iconst (pc := 44) (v := 1) d_Sb_removeOldest_44 (by decide) ?_
  refine e_iadd (pc := 45) d_Sb_removeOldest_45 ?_
  refine e_iald (pc := 46) d_Sb_removeOldest_46 (rBv hc) (vp_lit (n := 1) (by decide) (by omega) (by omega)) (ixf (n := 1) (by decide)) ?_
  refine e_iast (pc := 47) d_Sb_removeOldest_47 (rBv hc) (vp_lit (n := 0) (by decide) (by omega) (by omega)) (wBv hc (j := 0) (by decide)) ?_
  refine e_iinc (pc := 48) d_Sb_removeOldest_48 rfl (Nat.le_of_ble_eq_true rfl) ?_
  dsimp only [List.set]
  refine e_goto (pc := 51) (tgt := 12) d_Sb_removeOldest_51 (by decide) ?_
  refine e_iload_n (pc := 12) d_Sb_removeOldest_12 rfl ?_
  refine e_aload_n (pc := 13) d_Sb_removeOldest_13 rfl ?_
  refine e_get (pc := 14) s_Sb_removeOldest_14 (rB hc) rfl ?_
  refine e_topi (y := nI 2) (by simp [su, upd]) ?_
  refine e_icmp_ge (pc := 17) (tgt := 54) d_Sb_removeOldest_17 (by decide) (fun h9 => absurd h9 (by decide)) (fun _ => ?_)
  refine e_aload_n (pc := 20) d_Sb_removeOldest_20 rfl ?_
  refine e_get (pc := 21) s_Sb_removeOldest_21 (rB hc) rfl ?_
  refine e_iload_n (pc := 24) d_Sb_removeOldest_24 rfl ?_
  refine e_aload_n (pc := 25) d_Sb_removeOldest_25 rfl ?_
  refine e_get (pc := 26) s_Sb_removeOldest_26 (rB hc) rfl ?_
  refine e_iload_n (pc := 29) d_Sb_removeOldest_29 rfl ?_
  refine e_iconst (pc := 30) (v := 1) d_Sb_removeOldest_30 (by decide) ?_
  refine e_iadd (pc := 31) d_Sb_removeOldest_31 ?_
  refine e_iald (pc := 32) d_Sb_removeOldest_32 (rBa hc) (vp_lit (n := 2) (by decide) (by omega) (by omega)) (ixf (n := 2) (by decide)) ?_
  refine e_iast (pc := 33) d_Sb_removeOldest_33 (rBa hc) (vp_lit (n := 1) (by decide) (by omega) (by omega)) (wBa hc (j := 1) (by decide)) ?_
  refine e_aload_n (pc := 34) d_Sb_removeOldest_34 rfl ?_
  refine e_get (pc := 35) s_Sb_removeOldest_35 (rB hc) rfl ?_
  refine e_iload_n (pc := 38) d_Sb_removeOldest_38 rfl ?_
  refine e_aload_n (pc := 39) d_Sb_removeOldest_39 rfl ?_
  refine e_get (pc := 40) s_Sb_removeOldest_40 (rB hc) rfl ?_
  refine e_iload_n (pc := 43) d_Sb_removeOldest_43 rfl ?_
  refine e_iconst (pc := 44) (v := 1) d_Sb_removeOldest_44 (by decide) ?_
  refine e_iadd (pc := 45) d_Sb_removeOldest_45 ?_
  refine e_iald (pc := 46) d_Sb_removeOldest_46 (rBv hc) (vp_lit (n := 2) (by decide) (by omega) (by omega)) (ixf (n := 2) (by decide)) ?_
  refine e_iast (pc := 47) d_Sb_removeOldest_47 (rBv hc) (vp_lit (n := 1) (by decide) (by omega) (by omega)) (wBv hc (j := 1) (by decide)) ?_
  refine e_iinc (pc := 48) d_Sb_removeOldest_48 rfl (Nat.le_of_ble_eq_true rfl) ?_
  dsimp only [List.set]
  refine e_goto (pc := 51) (tgt := 12) d_Sb_removeOldest_51 (by decide) ?_
  refine e_iload_n (pc := 12) d_Sb_removeOldest_12 rfl ?_
  refine e_aload_n (pc := 13) d_Sb_removeOldest_13 rfl ?_
  refine e_get (pc := 14) s_Sb_removeOldest_14 (rB hc) rfl ?_
  refine e_topi (y := nI 2) (by simp [su, upd]) ?_
  refine e_icmp_ge (pc := 17) (tgt := 54) d_Sb_removeOldest_17 (by decide) (fun _ => ?_) (fun h9 => absurd (by decide) h9)
  exact e_vret (pc := 54) d_Sb_removeOldest_54 rfl (Nat.le_of_ble_eq_true rfl) (Nat.le_of_ble_eq_true rfl) rfl
set_option maxHeartbeats 4000000 in
set_option maxRecDepth 100000 in
theorem sA_rm4 {l : Launch} {G : zGP} {K : Nat} {S T : St} {th : Int32} {fo : Nat → Int64} {c : Nat} (hc : c < 3) (hK : 4 ≤ K) (hK4 : K ≤ 4) (h6 : S 6 c 0 = nI 4) : Rn l G m_Sb_removeOldest [.ref (pC c + 8)] (hpA K S T th fo) (.inl none, (hpA K (rmS S c 4) T th fo)) := by
  refine Rn.of (by decide) rfl rfl (Nat.le_of_ble_eq_true rfl) rfl ?_
  show Ev l G m_Sb_removeOldest 0 [.ref (pC c + 8), .double 0] [] (hpA K S T th fo) 0 0 _
  refine e_aload_n (pc := 0) d_Sb_removeOldest_0 rfl ?_
  refine e_dup (pc := 1) d_Sb_removeOldest_1 rfl ?_
  refine e_get (pc := 2) s_Sb_removeOldest_2 (rB hc) rfl ?_
  refine e_topi (y := 4) h6 ?_
  refine e_iconst (pc := 5) (v := 1) d_Sb_removeOldest_5 (by decide) ?_
  refine e_isub (pc := 6) d_Sb_removeOldest_6 ?_
  refine e_topi (y := nI 3) (by decide) ?_
  refine e_put (pc := 7) s_Sb_removeOldest_7 (rB hc) (Nat.le_of_ble_eq_true rfl) zFit.int (wSz hc) ?_
  refine e_iconst (pc := 10) (v := 0) d_Sb_removeOldest_10 (by decide) ?_
  refine e_istore_n (pc := 11) d_Sb_removeOldest_11 (Nat.le_of_ble_eq_true rfl) ?_
  dsimp only [List.set]
  refine e_iload_n (pc := 12) d_Sb_removeOldest_12 rfl ?_
  refine e_aload_n (pc := 13) d_Sb_removeOldest_13 rfl ?_
  refine e_get (pc := 14) s_Sb_removeOldest_14 (rB hc) rfl ?_
  refine e_topi (y := nI 3) (by simp [su, upd]) ?_
  refine e_icmp_ge (pc := 17) (tgt := 54) d_Sb_removeOldest_17 (by decide) (fun h9 => absurd h9 (by decide)) (fun _ => ?_)
  refine e_aload_n (pc := 20) d_Sb_removeOldest_20 rfl ?_
  refine e_get (pc := 21) s_Sb_removeOldest_21 (rB hc) rfl ?_
  refine e_iload_n (pc := 24) d_Sb_removeOldest_24 rfl ?_
  refine e_aload_n (pc := 25) d_Sb_removeOldest_25 rfl ?_
  refine e_get (pc := 26) s_Sb_removeOldest_26 (rB hc) rfl ?_
  refine e_iload_n (pc := 29) d_Sb_removeOldest_29 rfl ?_
  refine e_iconst (pc := 30) (v := 1) d_Sb_removeOldest_30 (by decide) ?_
  refine e_iadd (pc := 31) d_Sb_removeOldest_31 ?_
  refine e_iald (pc := 32) d_Sb_removeOldest_32 (rBa hc) (vp_lit (n := 1) (by decide) (by omega) (by omega)) (ixf (n := 1) (by decide)) ?_
  refine e_iast (pc := 33) d_Sb_removeOldest_33 (rBa hc) (vp_lit (n := 0) (by decide) (by omega) (by omega)) (wBa hc (j := 0) (by decide)) ?_
  refine e_aload_n (pc := 34) d_Sb_removeOldest_34 rfl ?_
  refine e_get (pc := 35) s_Sb_removeOldest_35 (rB hc) rfl ?_
  refine e_iload_n (pc := 38) d_Sb_removeOldest_38 rfl ?_
  refine e_aload_n (pc := 39) d_Sb_removeOldest_39 rfl ?_
  refine e_get (pc := 40) s_Sb_removeOldest_40 (rB hc) rfl ?_
  refine e_iload_n (pc := 43) d_Sb_removeOldest_43 rfl ?_
  refine e_iconst (pc := 44) (v := 1) d_Sb_removeOldest_44 (by decide) ?_
  refine e_iadd (pc := 45) d_Sb_removeOldest_45 ?_
  refine e_iald (pc := 46) d_Sb_removeOldest_46 (rBv hc) (vp_lit (n := 1) (by decide) (by omega) (by omega)) (ixf (n := 1) (by decide)) ?_
  refine e_iast (pc := 47) d_Sb_removeOldest_47 (rBv hc) (vp_lit (n := 0) (by decide) (by omega) (by omega)) (wBv hc (j := 0) (by decide)) ?_
  refine e_iinc (pc := 48) d_Sb_removeOldest_48 rfl (Nat.le_of_ble_eq_true rfl) ?_
  dsimp only [List.set]
  refine e_goto (pc := 51) (tgt := 12) d_Sb_removeOldest_51 (by decide) ?_
  refine e_iload_n (pc := 12) d_Sb_removeOldest_12 rfl ?_
  refine e_aload_n (pc := 13) d_Sb_removeOldest_13 rfl ?_
  refine e_get (pc := 14) s_Sb_removeOldest_14 (rB hc) rfl ?_
  refine e_topi (y := nI 3) (by simp [su, upd]) ?_
  refine e_icmp_ge (pc := 17) (tgt := 54) d_Sb_removeOldest_17 (by decide) (fun h9 => absurd h9 (by decide)) (fun _ => ?_)
  refine e_aload_n (pc := 20) d_Sb_removeOldest_20 rfl ?_
  refine e_get (pc := 21) s_Sb_removeOldest_21 (rB hc) rfl ?_
  refine e_iload_n (pc := 24) d_Sb_removeOldest_24 rfl ?_
  refine e_aload_n (pc := 25) d_Sb_removeOldest_25 rfl ?_
  refine e_get (pc := 26) s_Sb_removeOldest_26 (rB hc) rfl ?_
  refine e_iload_n (pc := 29) d_Sb_removeOldest_29 rfl ?_
  refine e_iconst (pc := 30) (v := 1) d_Sb_removeOldest_30 (by decide) ?_
  refine e_iadd (pc := 31) d_Sb_removeOldest_31 ?_
  refine e_iald (pc := 32) d_Sb_removeOldest_32 (rBa hc) (vp_lit (n := 2) (by decide) (by omega) (by omega)) (ixf (n := 2) (by decide)) ?_
  refine e_iast (pc := 33) d_Sb_removeOldest_33 (rBa hc) (vp_lit (n := 1) (by decide) (by omega) (by omega)) (wBa hc (j := 1) (by decide)) ?_
  refine e_aload_n (pc := 34) d_Sb_removeOldest_34 rfl ?_
  refine e_get (pc := 35) s_Sb_removeOldest_35 (rB hc) rfl ?_
  refine e_iload_n (pc := 38) d_Sb_removeOldest_38 rfl ?_
  refine e_aload_n (pc := 39) d_Sb_removeOldest_39 rfl ?_
  refine e_get (pc := 40) s_Sb_removeOldest_40 (rB hc) rfl ?_
  refine e_iload_n (pc := 43) d_Sb_removeOldest_43 rfl ?_
  refine e_iconst (pc := 44) (v := 1) d_Sb_removeOldest_44 (by decide) ?_
  refine e_iadd (pc := 45) d_Sb_removeOldest_45 ?_
  refine e_iald (pc := 46) d_Sb_removeOldest_46 (rBv hc) (vp_lit (n := 2) (by decide) (by omega) (by omega)) (ixf (n := 2) (by decide)) ?_
  refine e_iast (pc := 47) d_Sb_removeOldest_47 (rBv hc) (vp_lit (n := 1) (by decide) (by omega) (by omega)) (wBv hc (j := 1) (by decide)) ?_
  refine e_iinc (pc := 48) d_Sb_removeOldest_48 rfl (Nat.le_of_ble_eq_true rfl) ?_
  dsimp only [List.set]
  refine e_goto (pc := 51) (tgt := 12) d_Sb_removeOldest_51 (by decide) ?_
  refine e_iload_n (pc := 12) d_Sb_removeOldest_12 rfl ?_
  refine e_aload_n (pc := 13) d_Sb_removeOldest_13 rfl ?_
  refine e_get (pc := 14) s_Sb_removeOldest_14 (rB hc) rfl ?_
  refine e_topi (y := nI 3) (by simp [su, upd]) ?_
  refine e_icmp_ge (pc := 17) (tgt := 54) d_Sb_removeOldest_17 (by decide) (fun h9 => absurd h9 (by decide)) (fun _ => ?_)
  refine e_aload_n (pc := 20) d_Sb_removeOldest_20 rfl ?_
  refine e_get (pc := 21) s_Sb_removeOldest_21 (rB hc) rfl ?_
  refine e_iload_n (pc := 24) d_Sb_removeOldest_24 rfl ?_
  refine e_aload_n (pc := 25) d_Sb_removeOldest_25 rfl ?_
  refine e_get (pc := 26) s_Sb_removeOldest_26 (rB hc) rfl ?_
  refine e_iload_n (pc := 29) d_Sb_removeOldest_29 rfl ?_
  refine e_iconst (pc := 30) (v := 1) d_Sb_removeOldest_30 (by decide) ?_
  refine e_iadd (pc := 31) d_Sb_removeOldest_31 ?_
  refine e_iald (pc := 32) d_Sb_removeOldest_32 (rBa hc) (vp_lit (n := 3) (by decide) (by omega) (by omega)) (ixf (n := 3) (by decide)) ?_
  refine e_iast (pc := 33) d_Sb_removeOldest_33 (rBa hc) (vp_lit (n := 2) (by decide) (by omega) (by omega)) (wBa hc (j := 2) (by decide)) ?_
  refine e_aload_n (pc := 34) d_Sb_removeOldest_34 rfl ?_
  refine e_get (pc := 35) s_Sb_removeOldest_35 (rB hc) rfl ?_
  refine e_iload_n (pc := 38) d_Sb_removeOldest_38 rfl ?_
  refine e_aload_n (pc := 39) d_Sb_removeOldest_39 rfl ?_
  refine e_get (pc := 40) s_Sb_removeOldest_40 (rB hc) rfl ?_
  refine e_iload_n (pc := 43) d_Sb_removeOldest_43 rfl ?_
  refine e_iconst (pc := 44) (v := 1) d_Sb_removeOldest_44 (by decide) ?_
  refine e_iadd (pc := 45) d_Sb_removeOldest_45 ?_
  refine e_iald (pc := 46) d_Sb_removeOldest_46 (rBv hc) (vp_lit (n := 3) (by decide) (by omega) (by omega)) (ixf (n := 3) (by decide)) ?_
  refine e_iast (pc := 47) d_Sb_removeOldest_47 (rBv hc) (vp_lit (n := 2) (by decide) (by omega) (by omega)) (wBv hc (j := 2) (by decide)) ?_
  refine e_iinc (pc := 48) d_Sb_removeOldest_48 rfl (Nat.le_of_ble_eq_true rfl) ?_
  dsimp only [List.set]
  refine e_goto (pc := 51) (tgt := 12) d_Sb_removeOldest_51 (by decide) ?_
  refine e_iload_n (pc := 12) d_Sb_removeOldest_12 rfl ?_
  refine e_aload_n (pc := 13) d_Sb_removeOldest_13 rfl ?_
  refine e_get (pc := 14) s_Sb_removeOldest_14 (rB hc) rfl ?_
  refine e_topi (y := nI 3) (by simp [su, upd]) ?_
  refine e_icmp_ge (pc := 17) (tgt := 54) d_Sb_removeOldest_17 (by decide) (fun _ => ?_) (fun h9 => absurd (by decide) h9)
  exact e_vret (pc := 54) d_Sb_removeOldest_54 rfl (Nat.le_of_ble_eq_true rfl) (Nat.le_of_ble_eq_true rfl) rfl
set_option maxHeartbeats 4000000 in
set_option maxRecDepth 100000 in
theorem sA_rm {l : Launch} {G : zGP} {K : Nat} {S T : St} {th : Int32} {fo : Nat → Int64} {c n : Nat} (hc : c < 3) (h0 : 0 < n) (hn : n ≤ K) (hK4 : K ≤ 4) (h6 : S 6 c 0 = nI n) : Rn l G m_Sb_removeOldest [.ref (pC c + 8)] (hpA K S T th fo) (.inl none, (hpA K (rmS S c n) T th fo)) := by
  rcases (show n = 1 ∨ n = 2 ∨ n = 3 ∨ n = 4 by omega) with rfl | rfl | rfl | rfl
  · exact sA_rm1 hc hn hK4 h6
  · exact sA_rm2 hc hn hK4 h6
  · exact sA_rm3 hc hn hK4 h6
  · exact sA_rm4 hc hn hK4 h6
set_option maxHeartbeats 4000000 in
set_option maxRecDepth 100000 in
theorem sA_isIns0 {l : Launch} {G : zGP} {K : Nat} {S T : St} {th : Int32} {fo : Nat → Int64} {a b : Int32} : Rn l G m_B_isInstruction [.int (nI 0), .int a, .int b] (hpA K S T th fo) (.inl (some (.int (if vB 0 a b then 1 else 0))), (hpA K S T th fo)) := by
  refine Rn.of (by decide) rfl rfl (Nat.le_of_ble_eq_true rfl) rfl ?_
  show Ev l G m_B_isInstruction 0 [.int (nI 0), .int a, .int b] [] (hpA K S T th fo) 0 0 _
  refine e_iload_n (pc := 0) d_B_isInstruction_0 rfl ?_
  refine e_tswI (pc := 1) (off := 47) (tgt := 48) d_B_isInstruction_1 (by decide) (by decide) (by decide) (by decide) ?_
  refine e_iload_n (pc := 48) d_B_isInstruction_48 rfl ?_
  refine e_cS1 (pc := 49) s_B_isInstruction_49 (sp_isRegister) (Nat.le_of_ble_eq_true rfl) (Nat.le_of_ble_eq_true rfl) (Nat.le_of_ble_eq_true rfl) (zGo.v ?_)
  refine e_if_eq (pc := 52) (tgt := 66) d_B_isInstruction_52 (by decide) (fun h63 => ?_) (fun h63 => ?_)
  · replace h63 := b0.mp h63
    refine e_iconst (pc := 66) (v := 0) d_B_isInstruction_66 (by decide) ?_
    exact e_iret (pc := 67) d_B_isInstruction_67 rfl (by decide) (Nat.le_of_ble_eq_true rfl) (Nat.le_of_ble_eq_true rfl) (zR (by simp [vB, h63]))
  · replace h63 := b1.mp h63
    refine e_iload_n (pc := 55) d_B_isInstruction_55 rfl ?_
    refine e_cS1 (pc := 56) s_B_isInstruction_56 (sp_isRegister) (Nat.le_of_ble_eq_true rfl) (Nat.le_of_ble_eq_true rfl) (Nat.le_of_ble_eq_true rfl) (zGo.v ?_)
    refine e_if_eq (pc := 59) (tgt := 66) d_B_isInstruction_59 (by decide) (fun h64 => ?_) (fun h64 => ?_)
    · replace h64 := b0.mp h64
      refine e_iconst (pc := 66) (v := 0) d_B_isInstruction_66 (by decide) ?_
      exact e_iret (pc := 67) d_B_isInstruction_67 rfl (by decide) (Nat.le_of_ble_eq_true rfl) (Nat.le_of_ble_eq_true rfl) (zR (by simp [vB, h63, h64]))
    · replace h64 := b1.mp h64
      refine e_iconst (pc := 62) (v := 1) d_B_isInstruction_62 (by decide) ?_
      refine e_goto (pc := 63) (tgt := 67) d_B_isInstruction_63 (by decide) ?_
      exact e_iret (pc := 67) d_B_isInstruction_67 rfl (by decide) (Nat.le_of_ble_eq_true rfl) (Nat.le_of_ble_eq_true rfl) (zR (by simp [vB, h63, h64]))
set_option maxHeartbeats 4000000 in
set_option maxRecDepth 100000 in
theorem sA_isIns1 {l : Launch} {G : zGP} {K : Nat} {S T : St} {th : Int32} {fo : Nat → Int64} {a b : Int32} : Rn l G m_B_isInstruction [.int (nI 1), .int a, .int b] (hpA K S T th fo) (.inl (some (.int (if vB 1 a b then 1 else 0))), (hpA K S T th fo)) := by
  refine Rn.of (by decide) rfl rfl (Nat.le_of_ble_eq_true rfl) rfl ?_
  show Ev l G m_B_isInstruction 0 [.int (nI 1), .int a, .int b] [] (hpA K S T th fo) 0 0 _
  refine e_iload_n (pc := 0) d_B_isInstruction_0 rfl ?_
  refine e_tswI (pc := 1) (off := 47) (tgt := 48) d_B_isInstruction_1 (by decide) (by decide) (by decide) (by decide) ?_
  refine e_iload_n (pc := 48) d_B_isInstruction_48 rfl ?_
  refine e_cS1 (pc := 49) s_B_isInstruction_49 (sp_isRegister) (Nat.le_of_ble_eq_true rfl) (Nat.le_of_ble_eq_true rfl) (Nat.le_of_ble_eq_true rfl) (zGo.v ?_)
  refine e_if_eq (pc := 52) (tgt := 66) d_B_isInstruction_52 (by decide) (fun h65 => ?_) (fun h65 => ?_)
  · replace h65 := b0.mp h65
    refine e_iconst (pc := 66) (v := 0) d_B_isInstruction_66 (by decide) ?_
    exact e_iret (pc := 67) d_B_isInstruction_67 rfl (by decide) (Nat.le_of_ble_eq_true rfl) (Nat.le_of_ble_eq_true rfl) (zR (by simp [vB, h65]))
  · replace h65 := b1.mp h65
    refine e_iload_n (pc := 55) d_B_isInstruction_55 rfl ?_
    refine e_cS1 (pc := 56) s_B_isInstruction_56 (sp_isRegister) (Nat.le_of_ble_eq_true rfl) (Nat.le_of_ble_eq_true rfl) (Nat.le_of_ble_eq_true rfl) (zGo.v ?_)
    refine e_if_eq (pc := 59) (tgt := 66) d_B_isInstruction_59 (by decide) (fun h66 => ?_) (fun h66 => ?_)
    · replace h66 := b0.mp h66
      refine e_iconst (pc := 66) (v := 0) d_B_isInstruction_66 (by decide) ?_
      exact e_iret (pc := 67) d_B_isInstruction_67 rfl (by decide) (Nat.le_of_ble_eq_true rfl) (Nat.le_of_ble_eq_true rfl) (zR (by simp [vB, h65, h66]))
    · replace h66 := b1.mp h66
      refine e_iconst (pc := 62) (v := 1) d_B_isInstruction_62 (by decide) ?_
      refine e_goto (pc := 63) (tgt := 67) d_B_isInstruction_63 (by decide) ?_
      exact e_iret (pc := 67) d_B_isInstruction_67 rfl (by decide) (Nat.le_of_ble_eq_true rfl) (Nat.le_of_ble_eq_true rfl) (zR (by simp [vB, h65, h66]))
set_option maxHeartbeats 4000000 in
set_option maxRecDepth 100000 in
theorem sA_isIns2 {l : Launch} {G : zGP} {K : Nat} {S T : St} {th : Int32} {fo : Nat → Int64} {a b : Int32} : Rn l G m_B_isInstruction [.int (nI 2), .int a, .int b] (hpA K S T th fo) (.inl (some (.int (if vB 2 a b then 1 else 0))), (hpA K S T th fo)) := by
  refine Rn.of (by decide) rfl rfl (Nat.le_of_ble_eq_true rfl) rfl ?_
  show Ev l G m_B_isInstruction 0 [.int (nI 2), .int a, .int b] [] (hpA K S T th fo) 0 0 _
  refine e_iload_n (pc := 0) d_B_isInstruction_0 rfl ?_
  refine e_tswI (pc := 1) (off := 95) (tgt := 96) d_B_isInstruction_1 (by decide) (by decide) (by decide) (by decide) ?_
  refine e_iconst (pc := 96) (v := 1) d_B_isInstruction_96 (by decide) ?_
  exact e_iret (pc := 97) d_B_isInstruction_97 rfl (by decide) (Nat.le_of_ble_eq_true rfl) (Nat.le_of_ble_eq_true rfl) (zR (by simp [vB, ]))
set_option maxHeartbeats 4000000 in
set_option maxRecDepth 100000 in
theorem sA_isIns3 {l : Launch} {G : zGP} {K : Nat} {S T : St} {th : Int32} {fo : Nat → Int64} {a b : Int32} : Rn l G m_B_isInstruction [.int (nI 3), .int a, .int b] (hpA K S T th fo) (.inl (some (.int (if vB 3 a b then 1 else 0))), (hpA K S T th fo)) := by
  refine Rn.of (by decide) rfl rfl (Nat.le_of_ble_eq_true rfl) rfl ?_
  show Ev l G m_B_isInstruction 0 [.int (nI 3), .int a, .int b] [] (hpA K S T th fo) 0 0 _
  refine e_iload_n (pc := 0) d_B_isInstruction_0 rfl ?_
  refine e_tswI (pc := 1) (off := 47) (tgt := 48) d_B_isInstruction_1 (by decide) (by decide) (by decide) (by decide) ?_
  refine e_iload_n (pc := 48) d_B_isInstruction_48 rfl ?_
  refine e_cS1 (pc := 49) s_B_isInstruction_49 (sp_isRegister) (Nat.le_of_ble_eq_true rfl) (Nat.le_of_ble_eq_true rfl) (Nat.le_of_ble_eq_true rfl) (zGo.v ?_)
  refine e_if_eq (pc := 52) (tgt := 66) d_B_isInstruction_52 (by decide) (fun h67 => ?_) (fun h67 => ?_)
  · replace h67 := b0.mp h67
    refine e_iconst (pc := 66) (v := 0) d_B_isInstruction_66 (by decide) ?_
    exact e_iret (pc := 67) d_B_isInstruction_67 rfl (by decide) (Nat.le_of_ble_eq_true rfl) (Nat.le_of_ble_eq_true rfl) (zR (by simp [vB, h67]))
  · replace h67 := b1.mp h67
    refine e_iload_n (pc := 55) d_B_isInstruction_55 rfl ?_
    refine e_cS1 (pc := 56) s_B_isInstruction_56 (sp_isRegister) (Nat.le_of_ble_eq_true rfl) (Nat.le_of_ble_eq_true rfl) (Nat.le_of_ble_eq_true rfl) (zGo.v ?_)
    refine e_if_eq (pc := 59) (tgt := 66) d_B_isInstruction_59 (by decide) (fun h68 => ?_) (fun h68 => ?_)
    · replace h68 := b0.mp h68
      refine e_iconst (pc := 66) (v := 0) d_B_isInstruction_66 (by decide) ?_
      exact e_iret (pc := 67) d_B_isInstruction_67 rfl (by decide) (Nat.le_of_ble_eq_true rfl) (Nat.le_of_ble_eq_true rfl) (zR (by simp [vB, h67, h68]))
    · replace h68 := b1.mp h68
      refine e_iconst (pc := 62) (v := 1) d_B_isInstruction_62 (by decide) ?_
      refine e_goto (pc := 63) (tgt := 67) d_B_isInstruction_63 (by decide) ?_
      exact e_iret (pc := 67) d_B_isInstruction_67 rfl (by decide) (Nat.le_of_ble_eq_true rfl) (Nat.le_of_ble_eq_true rfl) (zR (by simp [vB, h67, h68]))
set_option maxHeartbeats 4000000 in
set_option maxRecDepth 100000 in
theorem sA_isIns4 {l : Launch} {G : zGP} {K : Nat} {S T : St} {th : Int32} {fo : Nat → Int64} {a b : Int32} : Rn l G m_B_isInstruction [.int (nI 4), .int a, .int b] (hpA K S T th fo) (.inl (some (.int (if vB 4 a b then 1 else 0))), (hpA K S T th fo)) := by
  refine Rn.of (by decide) rfl rfl (Nat.le_of_ble_eq_true rfl) rfl ?_
  show Ev l G m_B_isInstruction 0 [.int (nI 4), .int a, .int b] [] (hpA K S T th fo) 0 0 _
  refine e_iload_n (pc := 0) d_B_isInstruction_0 rfl ?_
  refine e_tswI (pc := 1) (off := 47) (tgt := 48) d_B_isInstruction_1 (by decide) (by decide) (by decide) (by decide) ?_
  refine e_iload_n (pc := 48) d_B_isInstruction_48 rfl ?_
  refine e_cS1 (pc := 49) s_B_isInstruction_49 (sp_isRegister) (Nat.le_of_ble_eq_true rfl) (Nat.le_of_ble_eq_true rfl) (Nat.le_of_ble_eq_true rfl) (zGo.v ?_)
  refine e_if_eq (pc := 52) (tgt := 66) d_B_isInstruction_52 (by decide) (fun h69 => ?_) (fun h69 => ?_)
  · replace h69 := b0.mp h69
    refine e_iconst (pc := 66) (v := 0) d_B_isInstruction_66 (by decide) ?_
    exact e_iret (pc := 67) d_B_isInstruction_67 rfl (by decide) (Nat.le_of_ble_eq_true rfl) (Nat.le_of_ble_eq_true rfl) (zR (by simp [vB, h69]))
  · replace h69 := b1.mp h69
    refine e_iload_n (pc := 55) d_B_isInstruction_55 rfl ?_
    refine e_cS1 (pc := 56) s_B_isInstruction_56 (sp_isRegister) (Nat.le_of_ble_eq_true rfl) (Nat.le_of_ble_eq_true rfl) (Nat.le_of_ble_eq_true rfl) (zGo.v ?_)
    refine e_if_eq (pc := 59) (tgt := 66) d_B_isInstruction_59 (by decide) (fun h70 => ?_) (fun h70 => ?_)
    · replace h70 := b0.mp h70
      refine e_iconst (pc := 66) (v := 0) d_B_isInstruction_66 (by decide) ?_
      exact e_iret (pc := 67) d_B_isInstruction_67 rfl (by decide) (Nat.le_of_ble_eq_true rfl) (Nat.le_of_ble_eq_true rfl) (zR (by simp [vB, h69, h70]))
    · replace h70 := b1.mp h70
      refine e_iconst (pc := 62) (v := 1) d_B_isInstruction_62 (by decide) ?_
      refine e_goto (pc := 63) (tgt := 67) d_B_isInstruction_63 (by decide) ?_
      exact e_iret (pc := 67) d_B_isInstruction_67 rfl (by decide) (Nat.le_of_ble_eq_true rfl) (Nat.le_of_ble_eq_true rfl) (zR (by simp [vB, h69, h70]))
set_option maxHeartbeats 4000000 in
set_option maxRecDepth 100000 in
theorem sA_isIns5 {l : Launch} {G : zGP} {K : Nat} {S T : St} {th : Int32} {fo : Nat → Int64} {a b : Int32} : Rn l G m_B_isInstruction [.int (nI 5), .int a, .int b] (hpA K S T th fo) (.inl (some (.int (if vB 5 a b then 1 else 0))), (hpA K S T th fo)) := by
  refine Rn.of (by decide) rfl rfl (Nat.le_of_ble_eq_true rfl) rfl ?_
  show Ev l G m_B_isInstruction 0 [.int (nI 5), .int a, .int b] [] (hpA K S T th fo) 0 0 _
  refine e_iload_n (pc := 0) d_B_isInstruction_0 rfl ?_
  refine e_tswI (pc := 1) (off := 67) (tgt := 68) d_B_isInstruction_1 (by decide) (by decide) (by decide) (by decide) ?_
  refine e_iload_n (pc := 68) d_B_isInstruction_68 rfl ?_
  refine e_cS1 (pc := 69) s_B_isInstruction_69 (sp_isRegister) (Nat.le_of_ble_eq_true rfl) (Nat.le_of_ble_eq_true rfl) (Nat.le_of_ble_eq_true rfl) (zGo.v ?_)
  exact e_iret (pc := 72) d_B_isInstruction_72 rfl (by split <;> rfl) (Nat.le_of_ble_eq_true rfl) (Nat.le_of_ble_eq_true rfl) (zR (by by_cases h9 : 0 ≤ a ∧ a < 4 <;> simp [vB, h9]))
set_option maxHeartbeats 4000000 in
set_option maxRecDepth 100000 in
theorem sA_isIns6 {l : Launch} {G : zGP} {K : Nat} {S T : St} {th : Int32} {fo : Nat → Int64} {a b : Int32} : Rn l G m_B_isInstruction [.int (nI 6), .int a, .int b] (hpA K S T th fo) (.inl (some (.int (if vB 6 a b then 1 else 0))), (hpA K S T th fo)) := by
  refine Rn.of (by decide) rfl rfl (Nat.le_of_ble_eq_true rfl) rfl ?_
  show Ev l G m_B_isInstruction 0 [.int (nI 6), .int a, .int b] [] (hpA K S T th fo) 0 0 _
  refine e_iload_n (pc := 0) d_B_isInstruction_0 rfl ?_
  refine e_tswI (pc := 1) (off := 72) (tgt := 73) d_B_isInstruction_1 (by decide) (by decide) (by decide) (by decide) ?_
  refine e_iload_n (pc := 73) d_B_isInstruction_73 rfl ?_
  refine e_cS1 (pc := 74) s_B_isInstruction_74 (sp_isRegister) (Nat.le_of_ble_eq_true rfl) (Nat.le_of_ble_eq_true rfl) (Nat.le_of_ble_eq_true rfl) (zGo.v ?_)
  refine e_if_eq (pc := 77) (tgt := 94) d_B_isInstruction_77 (by decide) (fun h71 => ?_) (fun h71 => ?_)
  · replace h71 := b0.mp h71
    refine e_iconst (pc := 94) (v := 0) d_B_isInstruction_94 (by decide) ?_
    exact e_iret (pc := 95) d_B_isInstruction_95 rfl (by decide) (Nat.le_of_ble_eq_true rfl) (Nat.le_of_ble_eq_true rfl) (zR (by simp [vB, h71]))
  · replace h71 := b1.mp h71
    refine e_iload_n (pc := 80) d_B_isInstruction_80 rfl ?_
    refine e_if_lt (pc := 81) (tgt := 94) d_B_isInstruction_81 (by decide) (fun h72 => ?_) (fun h72 => ?_)
    · refine e_iconst (pc := 94) (v := 0) d_B_isInstruction_94 (by decide) ?_
      exact e_iret (pc := 95) d_B_isInstruction_95 rfl (by decide) (Nat.le_of_ble_eq_true rfl) (Nat.le_of_ble_eq_true rfl) (zR (by simp [vB, h71, h72]))
    · refine e_iload_n (pc := 84) d_B_isInstruction_84 rfl ?_
      refine e_bipush (pc := 85) (v := 16) d_B_isInstruction_85 (by decide) ?_
      refine e_icmp_ge (pc := 87) (tgt := 94) d_B_isInstruction_87 (by decide) (fun h73 => ?_) (fun h73 => ?_)
      · refine e_iconst (pc := 94) (v := 0) d_B_isInstruction_94 (by decide) ?_
        exact e_iret (pc := 95) d_B_isInstruction_95 rfl (by decide) (Nat.le_of_ble_eq_true rfl) (Nat.le_of_ble_eq_true rfl) (zR (by simp [vB, h71, h72, h73]))
      · refine e_iconst (pc := 90) (v := 1) d_B_isInstruction_90 (by decide) ?_
        refine e_goto (pc := 91) (tgt := 95) d_B_isInstruction_91 (by decide) ?_
        exact e_iret (pc := 95) d_B_isInstruction_95 rfl (by decide) (Nat.le_of_ble_eq_true rfl) (Nat.le_of_ble_eq_true rfl) (zR (by simp [vB, h71, h72, h73]))
set_option maxHeartbeats 4000000 in
set_option maxRecDepth 100000 in
theorem sA_isIns7 {l : Launch} {G : zGP} {K : Nat} {S T : St} {th : Int32} {fo : Nat → Int64} {a b : Int32} : Rn l G m_B_isInstruction [.int (nI 7), .int a, .int b] (hpA K S T th fo) (.inl (some (.int (if vB 7 a b then 1 else 0))), (hpA K S T th fo)) := by
  refine Rn.of (by decide) rfl rfl (Nat.le_of_ble_eq_true rfl) rfl ?_
  show Ev l G m_B_isInstruction 0 [.int (nI 7), .int a, .int b] [] (hpA K S T th fo) 0 0 _
  refine e_iload_n (pc := 0) d_B_isInstruction_0 rfl ?_
  refine e_tswI (pc := 1) (off := 95) (tgt := 96) d_B_isInstruction_1 (by decide) (by decide) (by decide) (by decide) ?_
  refine e_iconst (pc := 96) (v := 1) d_B_isInstruction_96 (by decide) ?_
  exact e_iret (pc := 97) d_B_isInstruction_97 rfl (by decide) (Nat.le_of_ble_eq_true rfl) (Nat.le_of_ble_eq_true rfl) (zR (by simp [vB, ]))
set_option maxHeartbeats 4000000 in
set_option maxRecDepth 100000 in
theorem sX_isIns {l : Launch} {G : zGP} {K : Nat} {S T : St} {th : Int32} {fo : Nat → Int64} {op a b : Int32} (ho : op < 0 ∨ 8 ≤ op) : Rn l G m_B_isInstruction [.int op, .int a, .int b] (hpA K S T th fo) (.inl (some (.int 0)), (hpA K S T th fo)) := by
  refine Rn.of (by decide) rfl rfl (Nat.le_of_ble_eq_true rfl) rfl ?_
  show Ev l G m_B_isInstruction 0 [.int op, .int a, .int b] [] (hpA K S T th fo) 0 0 _
  refine e_iload_n (pc := 0) d_B_isInstruction_0 rfl ?_
  refine e_tswO (pc := 1) (tgt := 98) d_B_isInstruction_1 (tswOut ho) (by decide) ?_
  refine e_iconst (pc := 98) (v := 0) d_B_isInstruction_98 (by decide) ?_
  exact e_iret (pc := 99) d_B_isInstruction_99 rfl (by decide) (Nat.le_of_ble_eq_true rfl) (Nat.le_of_ble_eq_true rfl) rfl
