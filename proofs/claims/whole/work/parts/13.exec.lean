/-! ===== execute ===== -/
def ad (x : Int32) : Nat := x.toBitVec.toNat % 8
theorem ad_lt (x : Int32) : ad x < 8 := Nat.mod_lt _ (by decide)
theorem and7 (x : Int32) : x &&& 7 = nI (ad x) := pk_and x 3 (by decide)
theorem yn_cases (S : St) (c k : Nat) : ∀ n, ynS S c k n = -1 ∨ ∃ i, i < n ∧ ynS S c k n = nI i
  | 0 => Or.inl rfl
  | n + 1 => by
    unfold ynS
    by_cases h : S 7 c n = nI k
    · rw [if_pos h]; exact Or.inr ⟨n, Nat.lt_succ_self n, rfl⟩
    · rw [if_neg h]
      rcases yn_cases S c k n with q | ⟨i, h1, h2⟩
      · exact Or.inl q
      · exact Or.inr ⟨i, Nat.lt_succ_of_lt h1, h2⟩
theorem nI_m1 {i : Nat} (h : i < 2 ^ 31) : ¬ nI i = -1 := fun q => by
  have h1 := nI_pos' h
  rw [q] at h1
  exact absurd h1 (by decide)
def ldV (S : St) (c k n : Nat) : Int32 := if ynS S c k n = -1 then S 11 c (k % 2) else S 8 c (ynS S c k n).toNatClampNeg
abbrev ldB (S : St) (c k n : Nat) : Prop := ynS S c k n = -1 ∧ ¬ hasS S c k
def ldS (S : St) (c a k n m : Nat) : St := if ldB S c k n then askS S c 1 (nI k) else su (noteS (su S 0 c a (ldV S c k n)) m 0 (nI c) (nI k) (ldV S c k n)) 5 c 0 (S 5 c 0 + 1)
def ldR (S : St) (c k n : Nat) : Int32 := if ldB S c k n then 0 else 1
def stS (S : St) (K c k n : Nat) (v : Int32) : St := if n = K then S else su (su (su (su S 7 c n (nI k)) 8 c n v) 6 c 0 (nI n + 1)) 5 c 0 (S 5 c 0 + 1)
def stR (K n : Nat) : Int32 := if n = K then 0 else 1
abbrev ownS (S : St) (c k : Nat) : Prop := (¬ S 9 c (k % 2) = 0 ∧ S 10 c (k % 2) = nI k) ∧ ¬ S 9 c (k % 2) = 1
def swT (S : St) (c k : Nat) (v : Int32) : St := if S 11 c (k % 2) = S 0 c 3 then su (su (su S 9 c (k % 2) 3) 11 c (k % 2) v) 0 c 3 1 else su S 0 c 3 0
def swS (S : St) (c k m : Nat) (v : Int32) : St := if ¬ S 6 c 0 = 0 then S else if ownS S c k then su (noteS (swT S c k v) m 2 (nI c) (nI k) (S 11 c (k % 2))) 5 c 0 (S 5 c 0 + 1) else askS S c 2 (nI k)
def swR (S : St) (c k : Nat) : Int32 := if ¬ S 6 c 0 = 0 then 0 else if ownS S c k then 1 else 0
set_option maxHeartbeats 4000000 in
set_option maxRecDepth 100000 in
theorem sA_ldN {l : Launch} {G : zGP} {K : Nat} {S T : St} {th : Int32} {fo : Nat → Int64} {c a k n m : Nat} (hc : c < 3) (ha : a < 4) (hk : k < 8) (hn : n ≤ K) (hK4 : K ≤ 4) (hm : m < 1024) (h6 : S 6 c 0 = nI n) (h17 : S 17 0 0 = nI m) (hy : ynS S c k n = -1) : Rn l G m_B_executeLoad [.ref 0, .ref (pC c), .int (nI a), .int (nI k)] (hpA K S T th fo) (.inl (some (.int (ldR S c k n))), (hpA K (ldS S c a k n m) T th fo)) := by
  refine Rn.of (by decide) rfl rfl (Nat.le_of_ble_eq_true rfl) rfl ?_
  show Ev l G m_B_executeLoad 0 [.ref 0, .ref (pC c), .int (nI a), .int (nI k), .double 0, .double 0, .double 0] [] (hpA K S T th fo) 0 0 _
  refine e_aload_n (pc := 0) d_B_executeLoad_0 rfl ?_
  refine e_get (pc := 1) s_B_executeLoad_1 (rC hc) rfl ?_
  refine e_iload_n (pc := 4) d_B_executeLoad_4 rfl ?_
  refine e_cV1 (pc := 5) s_B_executeLoad_5 (sA_young hc hk hn hK4 h6) (rB hc) rfl rfl (Nat.le_of_ble_eq_true rfl) (Nat.le_of_ble_eq_true rfl) (Nat.le_of_ble_eq_true rfl) (zGo.v ?_)
  refine e_topi (y := -1) hy ?_
  refine e_istore (pc := 8) d_B_executeLoad_8 (Nat.le_of_ble_eq_true rfl) ?_
  dsimp only [List.set]
  refine e_aload_n (pc := 10) d_B_executeLoad_10 rfl ?_
  refine e_iload_n (pc := 11) d_B_executeLoad_11 rfl ?_
  refine e_cV1 (pc := 12) s_B_executeLoad_12 (sA_lineFor hc hk) (rC hc) rfl rfl (Nat.le_of_ble_eq_true rfl) (Nat.le_of_ble_eq_true rfl) (Nat.le_of_ble_eq_true rfl) (zGo.v ?_)
  refine e_astore (pc := 15) d_B_executeLoad_15 (Nat.le_of_ble_eq_true rfl) ?_
  dsimp only [List.set]
  refine e_iload (pc := 17) d_B_executeLoad_17 rfl ?_
  refine e_if_ge (pc := 19) (tgt := 38) d_B_executeLoad_19 (by decide) (fun h9 => absurd h9 (by decide)) (fun _ => ?_)
  refine e_aload (pc := 22) d_B_executeLoad_22 rfl ?_
  refine e_iload_n (pc := 24) d_B_executeLoad_24 rfl ?_
  refine e_cV1 (pc := 25) s_B_executeLoad_25 (sA_has hc (Nat.mod_lt _ (by decide))) (rL hc (Nat.mod_lt _ (by decide))) rfl rfl (Nat.le_of_ble_eq_true rfl) (Nat.le_of_ble_eq_true rfl) (Nat.le_of_ble_eq_true rfl) (zGo.v ?_)
  refine e_if_ne (pc := 28) (tgt := 38) d_B_executeLoad_28 (by decide) (fun h1 => ?_) (fun h1 => ?_)
  · replace h1 := b1.mp h1
    refine e_iload (pc := 38) d_B_executeLoad_38 rfl ?_
    refine e_if_lt (pc := 40) (tgt := 56) d_B_executeLoad_40 (by decide) (fun _ => ?_) (fun h9 => absurd (by decide) h9)
    refine e_aload (pc := 56) d_B_executeLoad_56 rfl ?_
    refine e_get (pc := 58) s_B_executeLoad_58 (rL hc (Nat.mod_lt _ (by decide))) rfl ?_
    refine e_istore (pc := 61) d_B_executeLoad_61 (Nat.le_of_ble_eq_true rfl) ?_
    dsimp only [List.set]
    refine e_aload_n (pc := 63) d_B_executeLoad_63 rfl ?_
    refine e_get (pc := 64) s_B_executeLoad_64 (rC hc) rfl ?_
    refine e_iload_n (pc := 67) d_B_executeLoad_67 rfl ?_
    refine e_iload (pc := 68) d_B_executeLoad_68 rfl ?_
    refine e_iast (pc := 70) d_B_executeLoad_70 (rRg hc) (vp_in_nI ha (by decide)) (wRg hc (nI_clamp (by omega))) ?_
    refine e_aload_n (pc := 71) d_B_executeLoad_71 rfl ?_
    refine e_get (pc := 72) s_B_executeLoad_72 rfl rfl ?_
    refine e_iconst (pc := 75) (v := 0) d_B_executeLoad_75 (by decide) ?_
    refine e_aload_n (pc := 76) d_B_executeLoad_76 rfl ?_
    refine e_get (pc := 77) s_B_executeLoad_77 (rC hc) rfl ?_
    refine e_iload_n (pc := 80) d_B_executeLoad_80 rfl ?_
    refine e_iload (pc := 81) d_B_executeLoad_81 rfl ?_
    refine e_cV4 (pc := 83) s_B_executeLoad_83 (sA_enter hm h17) rfl rfl rfl (Nat.le_of_ble_eq_true rfl) (Nat.le_of_ble_eq_true rfl) (Nat.le_of_ble_eq_true rfl) (zGo.n ?_)
    refine e_aload_n (pc := 86) d_B_executeLoad_86 rfl ?_
    refine e_aload_n (pc := 87) d_B_executeLoad_87 rfl ?_
    refine e_get (pc := 88) s_B_executeLoad_88 (rC hc) rfl ?_
    refine e_iconst (pc := 91) (v := 1) d_B_executeLoad_91 (by decide) ?_
    refine e_iadd (pc := 92) d_B_executeLoad_92 ?_
    refine e_cS2 (pc := 93) s_B_executeLoad_93 (sA_goTo hc) (Nat.le_of_ble_eq_true rfl) (Nat.le_of_ble_eq_true rfl) (Nat.le_of_ble_eq_true rfl) (zGo.v ?_)
    exact e_iret (pc := 96) d_B_executeLoad_96 rfl rfl (Nat.le_of_ble_eq_true rfl) (Nat.le_of_ble_eq_true rfl) (by rw [show ldS S c a k n m = _ from if_neg (fun q => q.2 h1), show ldR S c k n = _ from if_neg (fun q => q.2 h1), show ldV S c k n = S 11 c (k % 2) from by rw [ldV, if_pos hy]]; rfl)
  · replace h1 := b0.mp h1
    refine e_aload_n (pc := 31) d_B_executeLoad_31 rfl ?_
    refine e_iconst (pc := 32) (v := 1) d_B_executeLoad_32 (by decide) ?_
    refine e_iload_n (pc := 33) d_B_executeLoad_33 rfl ?_
    refine e_cS3 (pc := 34) s_B_executeLoad_34 (sA_ask hc) (Nat.le_of_ble_eq_true rfl) (Nat.le_of_ble_eq_true rfl) (Nat.le_of_ble_eq_true rfl) (zGo.v ?_)
    exact e_iret (pc := 37) d_B_executeLoad_37 rfl rfl (Nat.le_of_ble_eq_true rfl) (Nat.le_of_ble_eq_true rfl) (by rw [show ldS S c a k n m = _ from if_pos ⟨hy, h1⟩, show ldR S c k n = _ from if_pos ⟨hy, h1⟩])
set_option maxHeartbeats 4000000 in
set_option maxRecDepth 100000 in
theorem sA_ldY {l : Launch} {G : zGP} {K : Nat} {S T : St} {th : Int32} {fo : Nat → Int64} {c a k n m : Nat} (hc : c < 3) (ha : a < 4) (hk : k < 8) (hn : n ≤ K) (hK4 : K ≤ 4) (hm : m < 1024) (h6 : S 6 c 0 = nI n) (h17 : S 17 0 0 = nI m) {i : Nat} (hi : i < n) (hy : ynS S c k n = nI i) : Rn l G m_B_executeLoad [.ref 0, .ref (pC c), .int (nI a), .int (nI k)] (hpA K S T th fo) (.inl (some (.int (ldR S c k n))), (hpA K (ldS S c a k n m) T th fo)) := by
  refine Rn.of (by decide) rfl rfl (Nat.le_of_ble_eq_true rfl) rfl ?_
  show Ev l G m_B_executeLoad 0 [.ref 0, .ref (pC c), .int (nI a), .int (nI k), .double 0, .double 0, .double 0] [] (hpA K S T th fo) 0 0 _
  refine e_aload_n (pc := 0) d_B_executeLoad_0 rfl ?_
  refine e_get (pc := 1) s_B_executeLoad_1 (rC hc) rfl ?_
  refine e_iload_n (pc := 4) d_B_executeLoad_4 rfl ?_
  refine e_cV1 (pc := 5) s_B_executeLoad_5 (sA_young hc hk hn hK4 h6) (rB hc) rfl rfl (Nat.le_of_ble_eq_true rfl) (Nat.le_of_ble_eq_true rfl) (Nat.le_of_ble_eq_true rfl) (zGo.v ?_)
  refine e_topi (y := nI i) hy ?_
  refine e_istore (pc := 8) d_B_executeLoad_8 (Nat.le_of_ble_eq_true rfl) ?_
  dsimp only [List.set]
  refine e_aload_n (pc := 10) d_B_executeLoad_10 rfl ?_
  refine e_iload_n (pc := 11) d_B_executeLoad_11 rfl ?_
  refine e_cV1 (pc := 12) s_B_executeLoad_12 (sA_lineFor hc hk) (rC hc) rfl rfl (Nat.le_of_ble_eq_true rfl) (Nat.le_of_ble_eq_true rfl) (Nat.le_of_ble_eq_true rfl) (zGo.v ?_)
  refine e_astore (pc := 15) d_B_executeLoad_15 (Nat.le_of_ble_eq_true rfl) ?_
  dsimp only [List.set]
  refine e_iload (pc := 17) d_B_executeLoad_17 rfl ?_
  refine e_if_ge (pc := 19) (tgt := 38) d_B_executeLoad_19 (by decide) (fun _ => ?_) (fun h9 => absurd (nI_pos' (by omega)) h9)
  refine e_iload (pc := 38) d_B_executeLoad_38 rfl ?_
  refine e_if_lt (pc := 40) (tgt := 56) d_B_executeLoad_40 (by decide) (fun h9 => absurd h9 (nI_pos (by omega))) (fun _ => ?_)
  refine e_aload_n (pc := 43) d_B_executeLoad_43 rfl ?_
  refine e_get (pc := 44) s_B_executeLoad_44 (rC hc) rfl ?_
  refine e_get (pc := 47) s_B_executeLoad_47 (rB hc) rfl ?_
  refine e_iload (pc := 50) d_B_executeLoad_50 rfl ?_
  refine e_iald (pc := 52) d_B_executeLoad_52 (rBv hc) (vp_in_nI (by omega) (by omega)) (ixf (nI_clamp (by omega))) ?_
  refine e_goto (pc := 53) (tgt := 61) d_B_executeLoad_53 (by decide) ?_
  refine e_istore (pc := 61) d_B_executeLoad_61 (Nat.le_of_ble_eq_true rfl) ?_
  dsimp only [List.set]
  refine e_aload_n (pc := 63) d_B_executeLoad_63 rfl ?_
  refine e_get (pc := 64) s_B_executeLoad_64 (rC hc) rfl ?_
  refine e_iload_n (pc := 67) d_B_executeLoad_67 rfl ?_
  refine e_iload (pc := 68) d_B_executeLoad_68 rfl ?_
  refine e_iast (pc := 70) d_B_executeLoad_70 (rRg hc) (vp_in_nI ha (by decide)) (wRg hc (nI_clamp (by omega))) ?_
  refine e_aload_n (pc := 71) d_B_executeLoad_71 rfl ?_
  refine e_get (pc := 72) s_B_executeLoad_72 rfl rfl ?_
  refine e_iconst (pc := 75) (v := 0) d_B_executeLoad_75 (by decide) ?_
  refine e_aload_n (pc := 76) d_B_executeLoad_76 rfl ?_
  refine e_get (pc := 77) s_B_executeLoad_77 (rC hc) rfl ?_
  refine e_iload_n (pc := 80) d_B_executeLoad_80 rfl ?_
  refine e_iload (pc := 81) d_B_executeLoad_81 rfl ?_
  refine e_cV4 (pc := 83) s_B_executeLoad_83 (sA_enter hm h17) rfl rfl rfl (Nat.le_of_ble_eq_true rfl) (Nat.le_of_ble_eq_true rfl) (Nat.le_of_ble_eq_true rfl) (zGo.n ?_)
  refine e_aload_n (pc := 86) d_B_executeLoad_86 rfl ?_
  refine e_aload_n (pc := 87) d_B_executeLoad_87 rfl ?_
  refine e_get (pc := 88) s_B_executeLoad_88 (rC hc) rfl ?_
  refine e_iconst (pc := 91) (v := 1) d_B_executeLoad_91 (by decide) ?_
  refine e_iadd (pc := 92) d_B_executeLoad_92 ?_
  refine e_cS2 (pc := 93) s_B_executeLoad_93 (sA_goTo hc) (Nat.le_of_ble_eq_true rfl) (Nat.le_of_ble_eq_true rfl) (Nat.le_of_ble_eq_true rfl) (zGo.v ?_)
  exact e_iret (pc := 96) d_B_executeLoad_96 rfl rfl (Nat.le_of_ble_eq_true rfl) (Nat.le_of_ble_eq_true rfl) (by rw [show ldS S c a k n m = _ from if_neg (fun q => nI_m1 (by omega) (hy.symm.trans q.1)), show ldR S c k n = _ from if_neg (fun q => nI_m1 (by omega) (hy.symm.trans q.1)), show ldV S c k n = S 8 c i from by rw [ldV, if_neg (by rw [hy]; exact nI_m1 (by omega)), hy, nI_clamp (by omega)]]; rfl)
set_option maxHeartbeats 4000000 in
set_option maxRecDepth 100000 in
theorem sA_ld {l : Launch} {G : zGP} {K : Nat} {S T : St} {th : Int32} {fo : Nat → Int64} {c a k n m : Nat} (hc : c < 3) (ha : a < 4) (hk : k < 8) (hn : n ≤ K) (hK4 : K ≤ 4) (hm : m < 1024) (h6 : S 6 c 0 = nI n) (h17 : S 17 0 0 = nI m) : Rn l G m_B_executeLoad [.ref 0, .ref (pC c), .int (nI a), .int (nI k)] (hpA K S T th fo) (.inl (some (.int (ldR S c k n))), (hpA K (ldS S c a k n m) T th fo)) := by
  rcases yn_cases S c k n with h | ⟨i, h1, h2⟩
  · exact sA_ldN hc ha hk hn hK4 hm h6 h17 h
  · exact sA_ldY hc ha hk hn hK4 hm h6 h17 h1 h2
set_option maxHeartbeats 4000000 in
set_option maxRecDepth 100000 in
theorem sA_st {l : Launch} {G : zGP} {K : Nat} {S T : St} {th : Int32} {fo : Nat → Int64} {c k n : Nat} {v : Int32} (hc : c < 3) (hk : k < 8) (hn : n ≤ K) (hK4 : K ≤ 4) (h6 : S 6 c 0 = nI n) : Rn l G m_B_executeStore [.ref (pC c), .int (nI k), .int v] (hpA K S T th fo) (.inl (some (.int (stR K n))), (hpA K (stS S K c k n v) T th fo)) := by
  refine Rn.of (by decide) rfl rfl (Nat.le_of_ble_eq_true rfl) rfl ?_
  show Ev l G m_B_executeStore 0 [.ref (pC c), .int (nI k), .int v] [] (hpA K S T th fo) 0 0 _
  refine e_aload_n (pc := 0) d_B_executeStore_0 rfl ?_
  refine e_get (pc := 1) s_B_executeStore_1 (rC hc) rfl ?_
  refine e_cV0 (pc := 4) s_B_executeStore_4 (sA_isFull hc) (rB hc) rfl rfl (Nat.le_of_ble_eq_true rfl) (Nat.le_of_ble_eq_true rfl) (Nat.le_of_ble_eq_true rfl) (zGo.v ?_)
  refine e_if_eq (pc := 7) (tgt := 12) d_B_executeStore_7 (by decide) (fun h2 => ?_) (fun h2 => ?_)
  · replace h2 := b0.mp h2
    have hlt : n < K := Nat.lt_of_le_of_ne hn (fun q => h2 (by rw [h6, q]; rfl))
    refine e_aload_n (pc := 12) d_B_executeStore_12 rfl ?_
    refine e_get (pc := 13) s_B_executeStore_13 (rC hc) rfl ?_
    refine e_iload_n (pc := 16) d_B_executeStore_16 rfl ?_
    refine e_iload_n (pc := 17) d_B_executeStore_17 rfl ?_
    refine e_cV2 (pc := 18) s_B_executeStore_18 (sA_bappend hc hlt hK4 h6) (rB hc) rfl rfl (Nat.le_of_ble_eq_true rfl) (Nat.le_of_ble_eq_true rfl) (Nat.le_of_ble_eq_true rfl) (zGo.n ?_)
    refine e_aload_n (pc := 21) d_B_executeStore_21 rfl ?_
    refine e_aload_n (pc := 22) d_B_executeStore_22 rfl ?_
    refine e_get (pc := 23) s_B_executeStore_23 (rC hc) rfl ?_
    refine e_iconst (pc := 26) (v := 1) d_B_executeStore_26 (by decide) ?_
    refine e_iadd (pc := 27) d_B_executeStore_27 ?_
    refine e_cS2 (pc := 28) s_B_executeStore_28 (sA_goTo hc) (Nat.le_of_ble_eq_true rfl) (Nat.le_of_ble_eq_true rfl) (Nat.le_of_ble_eq_true rfl) (zGo.v ?_)
    exact e_iret (pc := 31) d_B_executeStore_31 rfl rfl (Nat.le_of_ble_eq_true rfl) (Nat.le_of_ble_eq_true rfl) (by rw [show stS S K c k n v = _ from if_neg (Nat.ne_of_lt hlt), show stR K n = 1 from if_neg (Nat.ne_of_lt hlt)]; rfl)
  · replace h2 := b1.mp h2
    refine e_iconst (pc := 10) (v := 0) d_B_executeStore_10 (by decide) ?_
    exact e_iret (pc := 11) d_B_executeStore_11 rfl rfl (Nat.le_of_ble_eq_true rfl) (Nat.le_of_ble_eq_true rfl) (by have q : n = K := (nI_eq (by omega) (by omega)).mp (h6.symm.trans h2); rw [show stS S K c k n v = S from if_pos q, show stR K n = 0 from if_pos q])
set_option maxHeartbeats 4000000 in
set_option maxRecDepth 100000 in
theorem sA_sw {l : Launch} {G : zGP} {K : Nat} {S T : St} {th : Int32} {fo : Nat → Int64} {c k m : Nat} {v : Int32} (hc : c < 3) (hk : k < 8) (hm : m < 1024) (h17 : S 17 0 0 = nI m) : Rn l G m_B_executeSwap [.ref 0, .ref (pC c), .int (nI k), .int v] (hpA K S T th fo) (.inl (some (.int (swR S c k))), (hpA K (swS S c k m v) T th fo)) := by
  refine Rn.of (by decide) rfl rfl (Nat.le_of_ble_eq_true rfl) rfl ?_
  show Ev l G m_B_executeSwap 0 [.ref 0, .ref (pC c), .int (nI k), .int v, .double 0, .double 0, .double 0] [] (hpA K S T th fo) 0 0 _
  refine e_aload_n (pc := 0) d_B_executeSwap_0 rfl ?_
  refine e_get (pc := 1) s_B_executeSwap_1 (rC hc) rfl ?_
  refine e_get (pc := 4) s_B_executeSwap_4 (rB hc) rfl ?_
  refine e_if_eq (pc := 7) (tgt := 12) d_B_executeSwap_7 (by decide) (fun h3 => ?_) (fun h3 => ?_)
  · refine e_aload_n (pc := 12) d_B_executeSwap_12 rfl ?_
    refine e_iload_n (pc := 13) d_B_executeSwap_13 rfl ?_
    refine e_cV1 (pc := 14) s_B_executeSwap_14 (sA_lineFor hc hk) (rC hc) rfl rfl (Nat.le_of_ble_eq_true rfl) (Nat.le_of_ble_eq_true rfl) (Nat.le_of_ble_eq_true rfl) (zGo.v ?_)
    refine e_astore (pc := 17) d_B_executeSwap_17 (Nat.le_of_ble_eq_true rfl) ?_
    dsimp only [List.set]
    refine e_aload (pc := 19) d_B_executeSwap_19 rfl ?_
    refine e_iload_n (pc := 21) d_B_executeSwap_21 rfl ?_
    refine e_cV1 (pc := 22) s_B_executeSwap_22 (sA_owns hc (Nat.mod_lt _ (by decide))) (rL hc (Nat.mod_lt _ (by decide))) rfl rfl (Nat.le_of_ble_eq_true rfl) (Nat.le_of_ble_eq_true rfl) (Nat.le_of_ble_eq_true rfl) (zGo.v ?_)
    refine e_if_ne (pc := 25) (tgt := 35) d_B_executeSwap_25 (by decide) (fun h4 => ?_) (fun h4 => ?_)
    · replace h4 := b1.mp h4
      refine e_aload (pc := 35) d_B_executeSwap_35 rfl ?_
      refine e_get (pc := 37) s_B_executeSwap_37 (rL hc (Nat.mod_lt _ (by decide))) rfl ?_
      refine e_istore (pc := 40) d_B_executeSwap_40 (Nat.le_of_ble_eq_true rfl) ?_
      dsimp only [List.set]
      refine e_iload (pc := 42) d_B_executeSwap_42 rfl ?_
      refine e_aload_n (pc := 44) d_B_executeSwap_44 rfl ?_
      refine e_get (pc := 45) s_B_executeSwap_45 (rC hc) rfl ?_
      refine e_iconst (pc := 48) (v := 3) d_B_executeSwap_48 (by decide) ?_
      refine e_iald (pc := 49) d_B_executeSwap_49 (rRg hc) (vp_dec (by decide)) (ixf (n := 3) (by decide)) ?_
      refine e_icmp_ne (pc := 50) (tgt := 57) d_B_executeSwap_50 (by decide) (fun h5 => ?_) (fun h5 => ?_)
      · refine e_iconst (pc := 57) (v := 0) d_B_executeSwap_57 (by decide) ?_
        refine e_istore (pc := 58) d_B_executeSwap_58 (Nat.le_of_ble_eq_true rfl) ?_
        dsimp only [List.set]
        refine e_iload (pc := 60) d_B_executeSwap_60 rfl ?_
        refine e_if_eq (pc := 62) (tgt := 71) d_B_executeSwap_62 (by decide) (fun _ => ?_) (fun h9 => absurd (by decide) h9)
        refine e_aload_n (pc := 71) d_B_executeSwap_71 rfl ?_
        refine e_get (pc := 72) s_B_executeSwap_72 (rC hc) rfl ?_
        refine e_iconst (pc := 75) (v := 3) d_B_executeSwap_75 (by decide) ?_
        refine e_iload (pc := 76) d_B_executeSwap_76 rfl ?_
        refine e_if_eq (pc := 78) (tgt := 85) d_B_executeSwap_78 (by decide) (fun _ => ?_) (fun h9 => absurd (by decide) h9)
        refine e_iconst (pc := 85) (v := 0) d_B_executeSwap_85 (by decide) ?_
        refine e_iast (pc := 86) d_B_executeSwap_86 (rRg hc) (vp_dec (by decide)) (wRg hc (j := 3) (by decide)) ?_
        refine e_aload_n (pc := 87) d_B_executeSwap_87 rfl ?_
        refine e_get (pc := 88) s_B_executeSwap_88 rfl rfl ?_
        refine e_iconst (pc := 91) (v := 2) d_B_executeSwap_91 (by decide) ?_
        refine e_aload_n (pc := 92) d_B_executeSwap_92 rfl ?_
        refine e_get (pc := 93) s_B_executeSwap_93 (rC hc) rfl ?_
        refine e_iload_n (pc := 96) d_B_executeSwap_96 rfl ?_
        refine e_iload (pc := 97) d_B_executeSwap_97 rfl ?_
        refine e_cV4 (pc := 99) s_B_executeSwap_99 (sA_enter hm h17) rfl rfl rfl (Nat.le_of_ble_eq_true rfl) (Nat.le_of_ble_eq_true rfl) (Nat.le_of_ble_eq_true rfl) (zGo.n ?_)
        refine e_aload_n (pc := 102) d_B_executeSwap_102 rfl ?_
        refine e_aload_n (pc := 103) d_B_executeSwap_103 rfl ?_
        refine e_get (pc := 104) s_B_executeSwap_104 (rC hc) rfl ?_
        refine e_iconst (pc := 107) (v := 1) d_B_executeSwap_107 (by decide) ?_
        refine e_iadd (pc := 108) d_B_executeSwap_108 ?_
        refine e_cS2 (pc := 109) s_B_executeSwap_109 (sA_goTo hc) (Nat.le_of_ble_eq_true rfl) (Nat.le_of_ble_eq_true rfl) (Nat.le_of_ble_eq_true rfl) (zGo.v ?_)
        exact e_iret (pc := 112) d_B_executeSwap_112 rfl rfl (Nat.le_of_ble_eq_true rfl) (Nat.le_of_ble_eq_true rfl) (by rw [show swS S c k m v = _ from (if_neg (fun q => q h3)).trans (if_pos h4), show swR S c k = _ from (if_neg (fun q => q h3)).trans (if_pos h4), show swT S c k v = _ from if_neg h5]; rfl)
      · refine e_iconst (pc := 53) (v := 1) d_B_executeSwap_53 (by decide) ?_
        refine e_goto (pc := 54) (tgt := 58) d_B_executeSwap_54 (by decide) ?_
        refine e_istore (pc := 58) d_B_executeSwap_58 (Nat.le_of_ble_eq_true rfl) ?_
        dsimp only [List.set]
        refine e_iload (pc := 60) d_B_executeSwap_60 rfl ?_
        refine e_if_eq (pc := 62) (tgt := 71) d_B_executeSwap_62 (by decide) (fun h9 => absurd h9 (by decide)) (fun _ => ?_)
        refine e_aload (pc := 65) d_B_executeSwap_65 rfl ?_
        refine e_iload_n (pc := 67) d_B_executeSwap_67 rfl ?_
        refine e_cV1 (pc := 68) s_B_executeSwap_68 (sA_modify hc (Nat.mod_lt _ (by decide))) (rL hc (Nat.mod_lt _ (by decide))) rfl rfl (Nat.le_of_ble_eq_true rfl) (Nat.le_of_ble_eq_true rfl) (Nat.le_of_ble_eq_true rfl) (zGo.n ?_)
        refine e_aload_n (pc := 71) d_B_executeSwap_71 rfl ?_
        refine e_get (pc := 72) s_B_executeSwap_72 (rC hc) rfl ?_
        refine e_iconst (pc := 75) (v := 3) d_B_executeSwap_75 (by decide) ?_
        refine e_iload (pc := 76) d_B_executeSwap_76 rfl ?_
        refine e_if_eq (pc := 78) (tgt := 85) d_B_executeSwap_78 (by decide) (fun h9 => absurd h9 (by decide)) (fun _ => ?_)
        refine e_iconst (pc := 81) (v := 1) d_B_executeSwap_81 (by decide) ?_
        refine e_goto (pc := 82) (tgt := 86) d_B_executeSwap_82 (by decide) ?_
        refine e_iast (pc := 86) d_B_executeSwap_86 (rRg hc) (vp_dec (by decide)) (wRg hc (j := 3) (by decide)) ?_
        refine e_aload_n (pc := 87) d_B_executeSwap_87 rfl ?_
        refine e_get (pc := 88) s_B_executeSwap_88 rfl rfl ?_
        refine e_iconst (pc := 91) (v := 2) d_B_executeSwap_91 (by decide) ?_
        refine e_aload_n (pc := 92) d_B_executeSwap_92 rfl ?_
        refine e_get (pc := 93) s_B_executeSwap_93 (rC hc) rfl ?_
        refine e_iload_n (pc := 96) d_B_executeSwap_96 rfl ?_
        refine e_iload (pc := 97) d_B_executeSwap_97 rfl ?_
        refine e_cV4 (pc := 99) s_B_executeSwap_99 (sA_enter hm h17) rfl rfl rfl (Nat.le_of_ble_eq_true rfl) (Nat.le_of_ble_eq_true rfl) (Nat.le_of_ble_eq_true rfl) (zGo.n ?_)
        refine e_aload_n (pc := 102) d_B_executeSwap_102 rfl ?_
        refine e_aload_n (pc := 103) d_B_executeSwap_103 rfl ?_
        refine e_get (pc := 104) s_B_executeSwap_104 (rC hc) rfl ?_
        refine e_iconst (pc := 107) (v := 1) d_B_executeSwap_107 (by decide) ?_
        refine e_iadd (pc := 108) d_B_executeSwap_108 ?_
        refine e_cS2 (pc := 109) s_B_executeSwap_109 (sA_goTo hc) (Nat.le_of_ble_eq_true rfl) (Nat.le_of_ble_eq_true rfl) (Nat.le_of_ble_eq_true rfl) (zGo.v ?_)
        exact e_iret (pc := 112) d_B_executeSwap_112 rfl rfl (Nat.le_of_ble_eq_true rfl) (Nat.le_of_ble_eq_true rfl) (by rw [show swS S c k m v = _ from (if_neg (fun q => q h3)).trans (if_pos h4), show swR S c k = _ from (if_neg (fun q => q h3)).trans (if_pos h4), show swT S c k v = _ from if_pos h5]; rfl)
    · replace h4 := b0.mp h4
      refine e_aload_n (pc := 28) d_B_executeSwap_28 rfl ?_
      refine e_iconst (pc := 29) (v := 2) d_B_executeSwap_29 (by decide) ?_
      refine e_iload_n (pc := 30) d_B_executeSwap_30 rfl ?_
      refine e_cS3 (pc := 31) s_B_executeSwap_31 (sA_ask hc) (Nat.le_of_ble_eq_true rfl) (Nat.le_of_ble_eq_true rfl) (Nat.le_of_ble_eq_true rfl) (zGo.v ?_)
      exact e_iret (pc := 34) d_B_executeSwap_34 rfl rfl (Nat.le_of_ble_eq_true rfl) (Nat.le_of_ble_eq_true rfl) (by rw [show swS S c k m v = _ from (if_neg (fun q => q h3)).trans (if_neg h4), show swR S c k = _ from (if_neg (fun q => q h3)).trans (if_neg h4)])
  · refine e_iconst (pc := 10) (v := 0) d_B_executeSwap_10 (by decide) ?_
    exact e_iret (pc := 11) d_B_executeSwap_11 rfl rfl (Nat.le_of_ble_eq_true rfl) (Nat.le_of_ble_eq_true rfl) (by rw [show swS S c k m v = _ from if_pos h3, show swR S c k = _ from if_pos h3])
def fnS (S : St) (c : Nat) : St := if S 6 c 0 = 0 then su S 5 c 0 (S 5 c 0 + 1) else S
def fnR (S : St) (c : Nat) : Int32 := if S 6 c 0 = 0 then 1 else 0
def brS (S : St) (c a : Nat) (b : Int32) : St := su S 5 c 0 (if S 0 c a = 0 then S 5 c 0 + 1 else b)
set_option maxHeartbeats 4000000 in
set_option maxRecDepth 100000 in
theorem sA_ex0 {l : Launch} {G : zGP} {K : Nat} {S T : St} {th : Int32} {fo : Nat → Int64} {c a b n m : Nat} (hc : c < 3) (ha : a < 4) (hb : b < 4) (hn : n ≤ K) (hK4 : K ≤ 4) (hm : m < 1024) (h6 : S 6 c 0 = nI n) (h17 : S 17 0 0 = nI m) : Rn l G m_B_execute [.ref 0, .ref (pC c), .int (nI 0), .int (nI a), .int (nI b)] (hpA K S T th fo) (.inl (some (.int (ldR S c (ad (S 0 c b)) n))), (hpA K (ldS S c a (ad (S 0 c b)) n m) T th fo)) := by
  refine Rn.of (by decide) rfl rfl (Nat.le_of_ble_eq_true rfl) rfl ?_
  show Ev l G m_B_execute 0 [.ref 0, .ref (pC c), .int (nI 0), .int (nI a), .int (nI b), .double 0] [] (hpA K S T th fo) 0 0 _
  refine e_aload_n (pc := 0) d_B_execute_0 rfl ?_
  refine e_get (pc := 1) s_B_execute_1 (rC hc) rfl ?_
  refine e_astore (pc := 4) d_B_execute_4 (Nat.le_of_ble_eq_true rfl) ?_
  dsimp only [List.set]
  refine e_iload_n (pc := 6) d_B_execute_6 rfl ?_
  refine e_tswI (pc := 7) (off := 41) (tgt := 48) d_B_execute_7 (by decide) (by decide) (by decide) (by decide) ?_
  refine e_aload_n (pc := 48) d_B_execute_48 rfl ?_
  refine e_aload_n (pc := 49) d_B_execute_49 rfl ?_
  refine e_iload_n (pc := 50) d_B_execute_50 rfl ?_
  refine e_aload (pc := 51) d_B_execute_51 rfl ?_
  refine e_iload (pc := 53) d_B_execute_53 rfl ?_
  refine e_iald (pc := 55) d_B_execute_55 (rRg hc) (vp_in_nI hb (by decide)) (ixf (nI_clamp (by omega))) ?_
  refine e_bipush (pc := 56) (v := 7) d_B_execute_56 (by decide) ?_
  refine e_iand (pc := 58) d_B_execute_58 ?_
  refine e_topi (y := nI (ad (S 0 c b))) (and7 _) ?_
  refine e_cV3 (pc := 59) s_B_execute_59 (sA_ld hc ha (ad_lt _) hn hK4 hm h6 h17) rfl rfl rfl (Nat.le_of_ble_eq_true rfl) (Nat.le_of_ble_eq_true rfl) (Nat.le_of_ble_eq_true rfl) (zGo.v ?_)
  exact e_iret (pc := 62) d_B_execute_62 rfl rfl (Nat.le_of_ble_eq_true rfl) (Nat.le_of_ble_eq_true rfl) rfl
set_option maxHeartbeats 4000000 in
set_option maxRecDepth 100000 in
theorem sA_ex1 {l : Launch} {G : zGP} {K : Nat} {S T : St} {th : Int32} {fo : Nat → Int64} {c a b n : Nat} (hc : c < 3) (ha : a < 4) (hb : b < 4) (hn : n ≤ K) (hK4 : K ≤ 4) (h6 : S 6 c 0 = nI n) : Rn l G m_B_execute [.ref 0, .ref (pC c), .int (nI 1), .int (nI a), .int (nI b)] (hpA K S T th fo) (.inl (some (.int (stR K n))), (hpA K (stS S K c (ad (S 0 c a)) n (S 0 c b)) T th fo)) := by
  refine Rn.of (by decide) rfl rfl (Nat.le_of_ble_eq_true rfl) rfl ?_
  show Ev l G m_B_execute 0 [.ref 0, .ref (pC c), .int (nI 1), .int (nI a), .int (nI b), .double 0] [] (hpA K S T th fo) 0 0 _
  refine e_aload_n (pc := 0) d_B_execute_0 rfl ?_
  refine e_get (pc := 1) s_B_execute_1 (rC hc) rfl ?_
  refine e_astore (pc := 4) d_B_execute_4 (Nat.le_of_ble_eq_true rfl) ?_
  dsimp only [List.set]
  refine e_iload_n (pc := 6) d_B_execute_6 rfl ?_
  refine e_tswI (pc := 7) (off := 56) (tgt := 63) d_B_execute_7 (by decide) (by decide) (by decide) (by decide) ?_
  refine e_aload_n (pc := 63) d_B_execute_63 rfl ?_
  refine e_aload (pc := 64) d_B_execute_64 rfl ?_
  refine e_iload_n (pc := 66) d_B_execute_66 rfl ?_
  refine e_iald (pc := 67) d_B_execute_67 (rRg hc) (vp_in_nI ha (by decide)) (ixf (nI_clamp (by omega))) ?_
  refine e_bipush (pc := 68) (v := 7) d_B_execute_68 (by decide) ?_
  refine e_iand (pc := 70) d_B_execute_70 ?_
  refine e_topi (y := nI (ad (S 0 c a))) (and7 _) ?_
  refine e_aload (pc := 71) d_B_execute_71 rfl ?_
  refine e_iload (pc := 73) d_B_execute_73 rfl ?_
  refine e_iald (pc := 75) d_B_execute_75 (rRg hc) (vp_in_nI hb (by decide)) (ixf (nI_clamp (by omega))) ?_
  refine e_cS3 (pc := 76) s_B_execute_76 (sA_st hc (ad_lt _) hn hK4 h6) (Nat.le_of_ble_eq_true rfl) (Nat.le_of_ble_eq_true rfl) (Nat.le_of_ble_eq_true rfl) (zGo.v ?_)
  exact e_iret (pc := 79) d_B_execute_79 rfl rfl (Nat.le_of_ble_eq_true rfl) (Nat.le_of_ble_eq_true rfl) rfl
set_option maxHeartbeats 4000000 in
set_option maxRecDepth 100000 in
theorem sA_ex2 {l : Launch} {G : zGP} {K : Nat} {S T : St} {th : Int32} {fo : Nat → Int64} {c : Nat} {a b : Int32} (hc : c < 3) : Rn l G m_B_execute [.ref 0, .ref (pC c), .int (nI 2), .int a, .int b] (hpA K S T th fo) (.inl (some (.int (fnR S c))), (hpA K (fnS S c) T th fo)) := by
  refine Rn.of (by decide) rfl rfl (Nat.le_of_ble_eq_true rfl) rfl ?_
  show Ev l G m_B_execute 0 [.ref 0, .ref (pC c), .int (nI 2), .int a, .int b, .double 0] [] (hpA K S T th fo) 0 0 _
  refine e_aload_n (pc := 0) d_B_execute_0 rfl ?_
  refine e_get (pc := 1) s_B_execute_1 (rC hc) rfl ?_
  refine e_astore (pc := 4) d_B_execute_4 (Nat.le_of_ble_eq_true rfl) ?_
  dsimp only [List.set]
  refine e_iload_n (pc := 6) d_B_execute_6 rfl ?_
  refine e_tswI (pc := 7) (off := 73) (tgt := 80) d_B_execute_7 (by decide) (by decide) (by decide) (by decide) ?_
  refine e_aload_n (pc := 80) d_B_execute_80 rfl ?_
  refine e_get (pc := 81) s_B_execute_81 (rC hc) rfl ?_
  refine e_get (pc := 84) s_B_execute_84 (rB hc) rfl ?_
  refine e_if_ne (pc := 87) (tgt := 103) d_B_execute_87 (by decide) (fun h6 => ?_) (fun h6 => ?_)
  · refine e_iconst (pc := 103) (v := 0) d_B_execute_103 (by decide) ?_
    exact e_iret (pc := 104) d_B_execute_104 rfl rfl (Nat.le_of_ble_eq_true rfl) (Nat.le_of_ble_eq_true rfl) (by rw [show fnS S c = _ from if_neg h6, show fnR S c = _ from if_neg h6])
  · refine e_aload_n (pc := 90) d_B_execute_90 rfl ?_
    refine e_aload_n (pc := 91) d_B_execute_91 rfl ?_
    refine e_get (pc := 92) s_B_execute_92 (rC hc) rfl ?_
    refine e_iconst (pc := 95) (v := 1) d_B_execute_95 (by decide) ?_
    refine e_iadd (pc := 96) d_B_execute_96 ?_
    refine e_cS2 (pc := 97) s_B_execute_97 (sA_goTo hc) (Nat.le_of_ble_eq_true rfl) (Nat.le_of_ble_eq_true rfl) (Nat.le_of_ble_eq_true rfl) (zGo.v ?_)
    refine e_goto (pc := 100) (tgt := 104) d_B_execute_100 (by decide) ?_
    exact e_iret (pc := 104) d_B_execute_104 rfl rfl (Nat.le_of_ble_eq_true rfl) (Nat.le_of_ble_eq_true rfl) (by rw [show fnS S c = _ from if_pos h6, show fnR S c = _ from if_pos h6])
set_option maxHeartbeats 4000000 in
set_option maxRecDepth 100000 in
theorem sA_ex3 {l : Launch} {G : zGP} {K : Nat} {S T : St} {th : Int32} {fo : Nat → Int64} {c a b m : Nat} (hc : c < 3) (ha : a < 4) (hb : b < 4) (hm : m < 1024) (h17 : S 17 0 0 = nI m) : Rn l G m_B_execute [.ref 0, .ref (pC c), .int (nI 3), .int (nI a), .int (nI b)] (hpA K S T th fo) (.inl (some (.int (swR S c (ad (S 0 c a))))), (hpA K (swS S c (ad (S 0 c a)) m (S 0 c b)) T th fo)) := by
  refine Rn.of (by decide) rfl rfl (Nat.le_of_ble_eq_true rfl) rfl ?_
  show Ev l G m_B_execute 0 [.ref 0, .ref (pC c), .int (nI 3), .int (nI a), .int (nI b), .double 0] [] (hpA K S T th fo) 0 0 _
  refine e_aload_n (pc := 0) d_B_execute_0 rfl ?_
  refine e_get (pc := 1) s_B_execute_1 (rC hc) rfl ?_
  refine e_astore (pc := 4) d_B_execute_4 (Nat.le_of_ble_eq_true rfl) ?_
  dsimp only [List.set]
  refine e_iload_n (pc := 6) d_B_execute_6 rfl ?_
  refine e_tswI (pc := 7) (off := 98) (tgt := 105) d_B_execute_7 (by decide) (by decide) (by decide) (by decide) ?_
  refine e_aload_n (pc := 105) d_B_execute_105 rfl ?_
  refine e_aload_n (pc := 106) d_B_execute_106 rfl ?_
  refine e_aload (pc := 107) d_B_execute_107 rfl ?_
  refine e_iload_n (pc := 109) d_B_execute_109 rfl ?_
  refine e_iald (pc := 110) d_B_execute_110 (rRg hc) (vp_in_nI ha (by decide)) (ixf (nI_clamp (by omega))) ?_
  refine e_bipush (pc := 111) (v := 7) d_B_execute_111 (by decide) ?_
  refine e_iand (pc := 113) d_B_execute_113 ?_
  refine e_topi (y := nI (ad (S 0 c a))) (and7 _) ?_
  refine e_aload (pc := 114) d_B_execute_114 rfl ?_
  refine e_iload (pc := 116) d_B_execute_116 rfl ?_
  refine e_iald (pc := 118) d_B_execute_118 (rRg hc) (vp_in_nI hb (by decide)) (ixf (nI_clamp (by omega))) ?_
  refine e_cV3 (pc := 119) s_B_execute_119 (sA_sw hc (ad_lt _) hm h17) rfl rfl rfl (Nat.le_of_ble_eq_true rfl) (Nat.le_of_ble_eq_true rfl) (Nat.le_of_ble_eq_true rfl) (zGo.v ?_)
  exact e_iret (pc := 122) d_B_execute_122 rfl rfl (Nat.le_of_ble_eq_true rfl) (Nat.le_of_ble_eq_true rfl) rfl
set_option maxHeartbeats 4000000 in
set_option maxRecDepth 100000 in
theorem sA_ex4 {l : Launch} {G : zGP} {K : Nat} {S T : St} {th : Int32} {fo : Nat → Int64} {c a b : Nat} (hc : c < 3) (ha : a < 4) (hb : b < 4) : Rn l G m_B_execute [.ref 0, .ref (pC c), .int (nI 4), .int (nI a), .int (nI b)] (hpA K S T th fo) (.inl (some (.int 1)), (hpA K (su (su S 0 c a (S 0 c a + S 0 c b)) 5 c 0 (S 5 c 0 + 1)) T th fo)) := by
  refine Rn.of (by decide) rfl rfl (Nat.le_of_ble_eq_true rfl) rfl ?_
  show Ev l G m_B_execute 0 [.ref 0, .ref (pC c), .int (nI 4), .int (nI a), .int (nI b), .double 0] [] (hpA K S T th fo) 0 0 _
  refine e_aload_n (pc := 0) d_B_execute_0 rfl ?_
  refine e_get (pc := 1) s_B_execute_1 (rC hc) rfl ?_
  refine e_astore (pc := 4) d_B_execute_4 (Nat.le_of_ble_eq_true rfl) ?_
  dsimp only [List.set]
  refine e_iload_n (pc := 6) d_B_execute_6 rfl ?_
  refine e_tswI (pc := 7) (off := 116) (tgt := 123) d_B_execute_7 (by decide) (by decide) (by decide) (by decide) ?_
  refine e_aload (pc := 123) d_B_execute_123 rfl ?_
  refine e_iload_n (pc := 125) d_B_execute_125 rfl ?_
  refine e_dup2 (pc := 126) d_B_execute_126 rfl rfl ?_
  refine e_iald (pc := 127) d_B_execute_127 (rRg hc) (vp_in_nI ha (by decide)) (ixf (nI_clamp (by omega))) ?_
  refine e_aload (pc := 128) d_B_execute_128 rfl ?_
  refine e_iload (pc := 130) d_B_execute_130 rfl ?_
  refine e_iald (pc := 132) d_B_execute_132 (rRg hc) (vp_in_nI hb (by decide)) (ixf (nI_clamp (by omega))) ?_
  refine e_iadd (pc := 133) d_B_execute_133 ?_
  refine e_iast (pc := 134) d_B_execute_134 (rRg hc) (vp_in_nI ha (by decide)) (wRg hc (nI_clamp (by omega))) ?_
  refine e_aload_n (pc := 135) d_B_execute_135 rfl ?_
  refine e_aload_n (pc := 136) d_B_execute_136 rfl ?_
  refine e_get (pc := 137) s_B_execute_137 (rC hc) rfl ?_
  refine e_iconst (pc := 140) (v := 1) d_B_execute_140 (by decide) ?_
  refine e_iadd (pc := 141) d_B_execute_141 ?_
  refine e_cS2 (pc := 142) s_B_execute_142 (sA_goTo hc) (Nat.le_of_ble_eq_true rfl) (Nat.le_of_ble_eq_true rfl) (Nat.le_of_ble_eq_true rfl) (zGo.v ?_)
  exact e_iret (pc := 145) d_B_execute_145 rfl rfl (Nat.le_of_ble_eq_true rfl) (Nat.le_of_ble_eq_true rfl) rfl
set_option maxHeartbeats 4000000 in
set_option maxRecDepth 100000 in
theorem sA_ex5 {l : Launch} {G : zGP} {K : Nat} {S T : St} {th : Int32} {fo : Nat → Int64} {c a : Nat} {b : Int32} (hc : c < 3) (ha : a < 4) : Rn l G m_B_execute [.ref 0, .ref (pC c), .int (nI 5), .int (nI a), .int b] (hpA K S T th fo) (.inl (some (.int 1)), (hpA K (su (su S 0 c a b) 5 c 0 (S 5 c 0 + 1)) T th fo)) := by
  refine Rn.of (by decide) rfl rfl (Nat.le_of_ble_eq_true rfl) rfl ?_
  show Ev l G m_B_execute 0 [.ref 0, .ref (pC c), .int (nI 5), .int (nI a), .int b, .double 0] [] (hpA K S T th fo) 0 0 _
  refine e_aload_n (pc := 0) d_B_execute_0 rfl ?_
  refine e_get (pc := 1) s_B_execute_1 (rC hc) rfl ?_
  refine e_astore (pc := 4) d_B_execute_4 (Nat.le_of_ble_eq_true rfl) ?_
  dsimp only [List.set]
  refine e_iload_n (pc := 6) d_B_execute_6 rfl ?_
  refine e_tswI (pc := 7) (off := 139) (tgt := 146) d_B_execute_7 (by decide) (by decide) (by decide) (by decide) ?_
  refine e_aload (pc := 146) d_B_execute_146 rfl ?_
  refine e_iload_n (pc := 148) d_B_execute_148 rfl ?_
  refine e_iload (pc := 149) d_B_execute_149 rfl ?_
  refine e_iast (pc := 151) d_B_execute_151 (rRg hc) (vp_in_nI ha (by decide)) (wRg hc (nI_clamp (by omega))) ?_
  refine e_aload_n (pc := 152) d_B_execute_152 rfl ?_
  refine e_aload_n (pc := 153) d_B_execute_153 rfl ?_
  refine e_get (pc := 154) s_B_execute_154 (rC hc) rfl ?_
  refine e_iconst (pc := 157) (v := 1) d_B_execute_157 (by decide) ?_
  refine e_iadd (pc := 158) d_B_execute_158 ?_
  refine e_cS2 (pc := 159) s_B_execute_159 (sA_goTo hc) (Nat.le_of_ble_eq_true rfl) (Nat.le_of_ble_eq_true rfl) (Nat.le_of_ble_eq_true rfl) (zGo.v ?_)
  exact e_iret (pc := 162) d_B_execute_162 rfl rfl (Nat.le_of_ble_eq_true rfl) (Nat.le_of_ble_eq_true rfl) rfl
set_option maxHeartbeats 4000000 in
set_option maxRecDepth 100000 in
theorem sA_ex6 {l : Launch} {G : zGP} {K : Nat} {S T : St} {th : Int32} {fo : Nat → Int64} {c a : Nat} {b : Int32} (hc : c < 3) (ha : a < 4) : Rn l G m_B_execute [.ref 0, .ref (pC c), .int (nI 6), .int (nI a), .int b] (hpA K S T th fo) (.inl (some (.int 1)), (hpA K (brS S c a b) T th fo)) := by
  refine Rn.of (by decide) rfl rfl (Nat.le_of_ble_eq_true rfl) rfl ?_
  show Ev l G m_B_execute 0 [.ref 0, .ref (pC c), .int (nI 6), .int (nI a), .int b, .double 0] [] (hpA K S T th fo) 0 0 _
  refine e_aload_n (pc := 0) d_B_execute_0 rfl ?_
  refine e_get (pc := 1) s_B_execute_1 (rC hc) rfl ?_
  refine e_astore (pc := 4) d_B_execute_4 (Nat.le_of_ble_eq_true rfl) ?_
  dsimp only [List.set]
  refine e_iload_n (pc := 6) d_B_execute_6 rfl ?_
  refine e_tswI (pc := 7) (off := 156) (tgt := 163) d_B_execute_7 (by decide) (by decide) (by decide) (by decide) ?_
  refine e_aload_n (pc := 163) d_B_execute_163 rfl ?_
  refine e_aload (pc := 164) d_B_execute_164 rfl ?_
  refine e_iload_n (pc := 166) d_B_execute_166 rfl ?_
  refine e_iald (pc := 167) d_B_execute_167 (rRg hc) (vp_in_nI ha (by decide)) (ixf (nI_clamp (by omega))) ?_
  refine e_if_eq (pc := 168) (tgt := 176) d_B_execute_168 (by decide) (fun h7 => ?_) (fun h7 => ?_)
  · refine e_aload_n (pc := 176) d_B_execute_176 rfl ?_
    refine e_get (pc := 177) s_B_execute_177 (rC hc) rfl ?_
    refine e_iconst (pc := 180) (v := 1) d_B_execute_180 (by decide) ?_
    refine e_iadd (pc := 181) d_B_execute_181 ?_
    refine e_cS2 (pc := 182) s_B_execute_182 (sA_goTo hc) (Nat.le_of_ble_eq_true rfl) (Nat.le_of_ble_eq_true rfl) (Nat.le_of_ble_eq_true rfl) (zGo.v ?_)
    exact e_iret (pc := 185) d_B_execute_185 rfl rfl (Nat.le_of_ble_eq_true rfl) (Nat.le_of_ble_eq_true rfl) (by rw [brS, if_pos h7])
  · refine e_iload (pc := 171) d_B_execute_171 rfl ?_
    refine e_goto (pc := 173) (tgt := 182) d_B_execute_173 (by decide) ?_
    refine e_cS2 (pc := 182) s_B_execute_182 (sA_goTo hc) (Nat.le_of_ble_eq_true rfl) (Nat.le_of_ble_eq_true rfl) (Nat.le_of_ble_eq_true rfl) (zGo.v ?_)
    exact e_iret (pc := 185) d_B_execute_185 rfl rfl (Nat.le_of_ble_eq_true rfl) (Nat.le_of_ble_eq_true rfl) (by rw [brS, if_neg h7])
set_option maxHeartbeats 4000000 in
set_option maxRecDepth 100000 in
theorem sA_ex7 {l : Launch} {G : zGP} {K : Nat} {S T : St} {th : Int32} {fo : Nat → Int64} {c : Nat} {a b : Int32} (hc : c < 3) : Rn l G m_B_execute [.ref 0, .ref (pC c), .int (nI 7), .int a, .int b] (hpA K S T th fo) (.inl (some (.int 2)), (hpA K S T th fo)) := by
  refine Rn.of (by decide) rfl rfl (Nat.le_of_ble_eq_true rfl) rfl ?_
  show Ev l G m_B_execute 0 [.ref 0, .ref (pC c), .int (nI 7), .int a, .int b, .double 0] [] (hpA K S T th fo) 0 0 _
  refine e_aload_n (pc := 0) d_B_execute_0 rfl ?_
  refine e_get (pc := 1) s_B_execute_1 (rC hc) rfl ?_
  refine e_astore (pc := 4) d_B_execute_4 (Nat.le_of_ble_eq_true rfl) ?_
  dsimp only [List.set]
  refine e_iload_n (pc := 6) d_B_execute_6 rfl ?_
  refine e_tswO (pc := 7) (tgt := 186) d_B_execute_7 (by decide) (by decide) ?_
  refine e_iconst (pc := 186) (v := 2) d_B_execute_186 (by decide) ?_
  exact e_iret (pc := 187) d_B_execute_187 rfl rfl (Nat.le_of_ble_eq_true rfl) (Nat.le_of_ble_eq_true rfl) rfl
