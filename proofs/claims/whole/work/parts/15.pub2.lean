/-! ===== the class's public methods, second half ===== -/
theorem su_o (S : St) {f c j f' : Nat} (v : Int32) (h : f' ≠ f) : su S f c j v f' = S f' := by
  funext c'; unfold su; rw [if_neg (fun q => h q.1)]
theorem shS_o (S : St) (c : Nat) {f : Nat} (h7 : f ≠ 7) (h8 : f ≠ 8) : ∀ m, shS S c m f = S f
  | 0 => rfl
  | m + 1 => by
    unfold shS
    rw [su_o _ _ h8, su_o _ _ h7, shS_o S c h7 h8 m]
theorem rmS_o (S : St) (c n : Nat) {f : Nat} (h6 : f ≠ 6) (h7 : f ≠ 7) (h8 : f ≠ 8) : rmS S c n f = S f := by
  unfold rmS; rw [shS_o _ _ h7 h8, su_o _ _ h6]
theorem wbS_o (S : St) (c j : Nat) {f : Nat} (h : f ≠ 16) : wbS S c j f = S f := by
  unfold wbS
  split
  · exact su_o _ _ h
  · rfl
theorem mrS_o (S : St) (c k : Nat) {f : Nat} (h9 : f ≠ 9) (h : f ≠ 16) : mrS S c k f = S f := by
  unfold mrS
  split
  · rfl
  · rw [su_o _ _ h9, wbS_o _ _ _ h]
theorem gwS_o (S : St) (c k : Nat) (kd : Int32) {f : Nat} (h9 : f ≠ 9) (h : f ≠ 16) : gwS S c k kd f = S f := by
  unfold gwS
  split
  · rw [su_o _ _ h9, wbS_o _ _ _ h]
  · rfl
def drS (S : St) (c k n m : Nat) : St := noteS (rmS (su (su S 9 c (k % 2) 3) 11 c (k % 2) (S 8 c 0)) c n) m 1 (nI c) (nI k) (S 8 c 0)
def gr2 (S : St) (c k : Nat) (kd : Int32) : St := match c with
  | 0 => gwS (gwS S 1 k kd) 2 k kd
  | 1 => gwS (gwS S 0 k kd) 2 k kd
  | _ => gwS (gwS S 0 k kd) 1 k kd
def gnS (S : St) (c k : Nat) : St := su (su (gr2 (mrS S c k) c k (S 12 c 0)) 14 c 0 1) 15 c 0 (wdS (mrS S c k) k)
def flT (S : St) (c k : Nat) : Int32 := if S 12 c 0 = 2 ∨ ¬ elH S c k then 2 else 1
def flS (S : St) (c k : Nat) : St := su (su (su (su (su S 9 c (k % 2) (flT S c k)) 10 c (k % 2) (nI k)) 11 c (k % 2) (S 15 c 0)) 12 c 0 0) 14 c 0 0
def rqV (S : St) (c : Nat) : Int32 := if S 12 c 0 = 0 then 0 else S 12 c 0 + (if S 14 c 0 = 0 then 0 else 4) + 8 * S 13 c 0
def lnV (S : St) (c j : Nat) : Int32 := if S 9 c j = 0 then 0 else S 9 c j + 4 * S 10 c j
set_option maxHeartbeats 4000000 in
set_option maxRecDepth 100000 in
theorem sA_drain0 {l : Launch} {G : zGP} {K : Nat} {S T : St} {th : Int32} {fo : Nat → Int64} {c : Nat} (hc : c < 3) (h6 : S 6 c 0 = 0) : Rn l G m_B_drain [.ref 0, .int (nI c)] (hpA K S T th fo) (.inl (some (.int 3)), (hpA K S T th fo)) := by
  refine Rn.of (by decide) rfl rfl (Nat.le_of_ble_eq_true rfl) rfl ?_
  show Ev l G m_B_drain 0 [.ref 0, .int (nI c), .double 0, .double 0, .double 0, .double 0] [] (hpA K S T th fo) 0 0 _
  refine e_aload_n (pc := 0) d_B_drain_0 rfl ?_
  refine e_iload_n (pc := 1) d_B_drain_1 rfl ?_
  refine e_cV1 (pc := 2) s_B_drain_2 (sA_coreAt hc) rfl rfl rfl (Nat.le_of_ble_eq_true rfl) (Nat.le_of_ble_eq_true rfl) (Nat.le_of_ble_eq_true rfl) (zGo.v ?_)
  refine e_astore_n (pc := 5) d_B_drain_5 (Nat.le_of_ble_eq_true rfl) ?_
  dsimp only [List.set]
  refine e_aload_n (pc := 6) d_B_drain_6 rfl ?_
  refine e_get (pc := 7) s_B_drain_7 (rC hc) rfl ?_
  refine e_get (pc := 10) s_B_drain_10 (rB hc) rfl ?_
  refine e_if_ne (pc := 13) (tgt := 18) d_B_drain_13 (by decide) (fun h9 => absurd (h6) h9) (fun _ => ?_)
  refine e_iconst (pc := 16) (v := 3) d_B_drain_16 (by decide) ?_
  exact e_iret (pc := 17) d_B_drain_17 rfl rfl (Nat.le_of_ble_eq_true rfl) (Nat.le_of_ble_eq_true rfl) rfl
set_option maxHeartbeats 4000000 in
set_option maxRecDepth 100000 in
theorem sA_drainA {l : Launch} {G : zGP} {K : Nat} {S T : St} {th : Int32} {fo : Nat → Int64} {c k n : Nat} (hc : c < 3) (hk : k < 8) (h0 : 0 < n) (hn : n ≤ K) (hK4 : K ≤ 4) (h6 : S 6 c 0 = nI n) (h7 : S 7 c 0 = nI k) (ho : ¬ ownS S c k) : Rn l G m_B_drain [.ref 0, .int (nI c)] (hpA K S T th fo) (.inl (some (.int 0)), (hpA K (askS S c 2 (nI k)) T th fo)) := by
  refine Rn.of (by decide) rfl rfl (Nat.le_of_ble_eq_true rfl) rfl ?_
  show Ev l G m_B_drain 0 [.ref 0, .int (nI c), .double 0, .double 0, .double 0, .double 0] [] (hpA K S T th fo) 0 0 _
  refine e_aload_n (pc := 0) d_B_drain_0 rfl ?_
  refine e_iload_n (pc := 1) d_B_drain_1 rfl ?_
  refine e_cV1 (pc := 2) s_B_drain_2 (sA_coreAt hc) rfl rfl rfl (Nat.le_of_ble_eq_true rfl) (Nat.le_of_ble_eq_true rfl) (Nat.le_of_ble_eq_true rfl) (zGo.v ?_)
  refine e_astore_n (pc := 5) d_B_drain_5 (Nat.le_of_ble_eq_true rfl) ?_
  dsimp only [List.set]
  refine e_aload_n (pc := 6) d_B_drain_6 rfl ?_
  refine e_get (pc := 7) s_B_drain_7 (rC hc) rfl ?_
  refine e_get (pc := 10) s_B_drain_10 (rB hc) rfl ?_
  refine e_if_ne (pc := 13) (tgt := 18) d_B_drain_13 (by decide) (fun _ => ?_) (fun h9 => absurd h9 (by rw [h6]; exact nI_ne0 h0 (by omega)))
  refine e_aload_n (pc := 18) d_B_drain_18 rfl ?_
  refine e_get (pc := 19) s_B_drain_19 (rC hc) rfl ?_
  refine e_get (pc := 22) s_B_drain_22 (rB hc) rfl ?_
  refine e_iconst (pc := 25) (v := 0) d_B_drain_25 (by decide) ?_
  refine e_iald (pc := 26) d_B_drain_26 (rBa hc) (vp_lit (n := 0) (by decide) (by omega) (by omega)) ((ixf (n := 0) (by decide)).trans h7) ?_
  refine e_istore_n (pc := 27) d_B_drain_27 (Nat.le_of_ble_eq_true rfl) ?_
  dsimp only [List.set]
  refine e_aload_n (pc := 28) d_B_drain_28 rfl ?_
  refine e_iload_n (pc := 29) d_B_drain_29 rfl ?_
  refine e_cV1 (pc := 30) s_B_drain_30 (sA_lineFor hc hk) (rC hc) rfl rfl (Nat.le_of_ble_eq_true rfl) (Nat.le_of_ble_eq_true rfl) (Nat.le_of_ble_eq_true rfl) (zGo.v ?_)
  refine e_astore (pc := 33) d_B_drain_33 (Nat.le_of_ble_eq_true rfl) ?_
  dsimp only [List.set]
  refine e_aload (pc := 35) d_B_drain_35 rfl ?_
  refine e_iload_n (pc := 37) d_B_drain_37 rfl ?_
  refine e_cV1 (pc := 38) s_B_drain_38 (sA_owns hc (Nat.mod_lt _ (by decide))) (rL hc (Nat.mod_lt _ (by decide))) rfl rfl (Nat.le_of_ble_eq_true rfl) (Nat.le_of_ble_eq_true rfl) (Nat.le_of_ble_eq_true rfl) (zGo.v ?_)
  refine e_topi (y := 0) (if_neg ho) ?_
  refine e_if_ne (pc := 41) (tgt := 51) d_B_drain_41 (by decide) (fun h9 => absurd (rfl) h9) (fun _ => ?_)
  refine e_aload_n (pc := 44) d_B_drain_44 rfl ?_
  refine e_iconst (pc := 45) (v := 2) d_B_drain_45 (by decide) ?_
  refine e_iload_n (pc := 46) d_B_drain_46 rfl ?_
  refine e_cS3 (pc := 47) s_B_drain_47 (sA_ask hc) (Nat.le_of_ble_eq_true rfl) (Nat.le_of_ble_eq_true rfl) (Nat.le_of_ble_eq_true rfl) (zGo.v ?_)
  exact e_iret (pc := 50) d_B_drain_50 rfl rfl (Nat.le_of_ble_eq_true rfl) (Nat.le_of_ble_eq_true rfl) rfl
set_option maxHeartbeats 4000000 in
set_option maxRecDepth 100000 in
theorem sA_drain {l : Launch} {G : zGP} {K : Nat} {S T : St} {th : Int32} {fo : Nat → Int64} {c k n : Nat} (hc : c < 3) (hk : k < 8) (h0 : 0 < n) (hn : n ≤ K) (hK4 : K ≤ 4) (h6 : S 6 c 0 = nI n) (h7 : S 7 c 0 = nI k) {m : Nat} (hm : m < 1024) (h17 : S 17 0 0 = nI m) (ho : ownS S c k) : Rn l G m_B_drain [.ref 0, .int (nI c)] (hpA K S T th fo) (.inl (some (.int 1)), (hpA K (drS S c k n m) T th fo)) := by
  refine Rn.of (by decide) rfl rfl (Nat.le_of_ble_eq_true rfl) rfl ?_
  show Ev l G m_B_drain 0 [.ref 0, .int (nI c), .double 0, .double 0, .double 0, .double 0] [] (hpA K S T th fo) 0 0 _
  refine e_aload_n (pc := 0) d_B_drain_0 rfl ?_
  refine e_iload_n (pc := 1) d_B_drain_1 rfl ?_
  refine e_cV1 (pc := 2) s_B_drain_2 (sA_coreAt hc) rfl rfl rfl (Nat.le_of_ble_eq_true rfl) (Nat.le_of_ble_eq_true rfl) (Nat.le_of_ble_eq_true rfl) (zGo.v ?_)
  refine e_astore_n (pc := 5) d_B_drain_5 (Nat.le_of_ble_eq_true rfl) ?_
  dsimp only [List.set]
  refine e_aload_n (pc := 6) d_B_drain_6 rfl ?_
  refine e_get (pc := 7) s_B_drain_7 (rC hc) rfl ?_
  refine e_get (pc := 10) s_B_drain_10 (rB hc) rfl ?_
  refine e_if_ne (pc := 13) (tgt := 18) d_B_drain_13 (by decide) (fun _ => ?_) (fun h9 => absurd h9 (by rw [h6]; exact nI_ne0 h0 (by omega)))
  refine e_aload_n (pc := 18) d_B_drain_18 rfl ?_
  refine e_get (pc := 19) s_B_drain_19 (rC hc) rfl ?_
  refine e_get (pc := 22) s_B_drain_22 (rB hc) rfl ?_
  refine e_iconst (pc := 25) (v := 0) d_B_drain_25 (by decide) ?_
  refine e_iald (pc := 26) d_B_drain_26 (rBa hc) (vp_lit (n := 0) (by decide) (by omega) (by omega)) ((ixf (n := 0) (by decide)).trans h7) ?_
  refine e_istore_n (pc := 27) d_B_drain_27 (Nat.le_of_ble_eq_true rfl) ?_
  dsimp only [List.set]
  refine e_aload_n (pc := 28) d_B_drain_28 rfl ?_
  refine e_iload_n (pc := 29) d_B_drain_29 rfl ?_
  refine e_cV1 (pc := 30) s_B_drain_30 (sA_lineFor hc hk) (rC hc) rfl rfl (Nat.le_of_ble_eq_true rfl) (Nat.le_of_ble_eq_true rfl) (Nat.le_of_ble_eq_true rfl) (zGo.v ?_)
  refine e_astore (pc := 33) d_B_drain_33 (Nat.le_of_ble_eq_true rfl) ?_
  dsimp only [List.set]
  refine e_aload (pc := 35) d_B_drain_35 rfl ?_
  refine e_iload_n (pc := 37) d_B_drain_37 rfl ?_
  refine e_cV1 (pc := 38) s_B_drain_38 (sA_owns hc (Nat.mod_lt _ (by decide))) (rL hc (Nat.mod_lt _ (by decide))) rfl rfl (Nat.le_of_ble_eq_true rfl) (Nat.le_of_ble_eq_true rfl) (Nat.le_of_ble_eq_true rfl) (zGo.v ?_)
  refine e_topi (y := 1) (if_pos ho) ?_
  refine e_if_ne (pc := 41) (tgt := 51) d_B_drain_41 (by decide) (fun _ => ?_) (fun h9 => absurd h9 (by decide))
  refine e_aload_n (pc := 51) d_B_drain_51 rfl ?_
  refine e_get (pc := 52) s_B_drain_52 (rC hc) rfl ?_
  refine e_get (pc := 55) s_B_drain_55 (rB hc) rfl ?_
  refine e_iconst (pc := 58) (v := 0) d_B_drain_58 (by decide) ?_
  refine e_iald (pc := 59) d_B_drain_59 (rBv hc) (vp_lit (n := 0) (by decide) (by omega) (by omega)) (ixf (n := 0) (by decide)) ?_
  refine e_istore (pc := 60) d_B_drain_60 (Nat.le_of_ble_eq_true rfl) ?_
  dsimp only [List.set]
  refine e_aload (pc := 62) d_B_drain_62 rfl ?_
  refine e_iload (pc := 64) d_B_drain_64 rfl ?_
  refine e_cV1 (pc := 66) s_B_drain_66 (sA_modify hc (Nat.mod_lt _ (by decide))) (rL hc (Nat.mod_lt _ (by decide))) rfl rfl (Nat.le_of_ble_eq_true rfl) (Nat.le_of_ble_eq_true rfl) (Nat.le_of_ble_eq_true rfl) (zGo.n ?_)
  refine e_aload_n (pc := 69) d_B_drain_69 rfl ?_
  refine e_get (pc := 70) s_B_drain_70 (rC hc) rfl ?_
  refine e_cV0 (pc := 73) s_B_drain_73 (sA_rm hc h0 hn hK4 h6) (rB hc) rfl rfl (Nat.le_of_ble_eq_true rfl) (Nat.le_of_ble_eq_true rfl) (Nat.le_of_ble_eq_true rfl) (zGo.n ?_)
  refine e_aload_n (pc := 76) d_B_drain_76 rfl ?_
  refine e_get (pc := 77) s_B_drain_77 rfl rfl ?_
  refine e_iconst (pc := 80) (v := 1) d_B_drain_80 (by decide) ?_
  refine e_aload_n (pc := 81) d_B_drain_81 rfl ?_
  refine e_get (pc := 82) s_B_drain_82 (rC hc) rfl ?_
  refine e_iload_n (pc := 85) d_B_drain_85 rfl ?_
  refine e_iload (pc := 86) d_B_drain_86 rfl ?_
  refine e_cV4 (pc := 88) s_B_drain_88 (sA_enter hm (by rw [rmS_o _ _ _ (by decide) (by decide) (by decide)]; exact h17)) rfl rfl rfl (Nat.le_of_ble_eq_true rfl) (Nat.le_of_ble_eq_true rfl) (Nat.le_of_ble_eq_true rfl) (zGo.n ?_)
  refine e_iconst (pc := 91) (v := 1) d_B_drain_91 (by decide) ?_
  exact e_iret (pc := 92) d_B_drain_92 rfl rfl (Nat.le_of_ble_eq_true rfl) (Nat.le_of_ble_eq_true rfl) rfl
set_option maxHeartbeats 4000000 in
set_option maxRecDepth 100000 in
theorem sA_grantN {l : Launch} {G : zGP} {K : Nat} {S T : St} {th : Int32} {fo : Nat → Int64} {c : Nat} (hc : c < 3) (h : S 12 c 0 = 0 ∨ ¬ S 14 c 0 = 0) : Rn l G m_B_grant [.ref 0, .int (nI c)] (hpA K S T th fo) (.inl (some (.int 3)), (hpA K S T th fo)) := by
  refine Rn.of (by decide) rfl rfl (Nat.le_of_ble_eq_true rfl) rfl ?_
  show Ev l G m_B_grant 0 [.ref 0, .int (nI c), .double 0, .double 0, .double 0, .double 0, .double 0] [] (hpA K S T th fo) 0 0 _
  refine e_aload_n (pc := 0) d_B_grant_0 rfl ?_
  refine e_iload_n (pc := 1) d_B_grant_1 rfl ?_
  refine e_cV1 (pc := 2) s_B_grant_2 (sA_coreAt hc) rfl rfl rfl (Nat.le_of_ble_eq_true rfl) (Nat.le_of_ble_eq_true rfl) (Nat.le_of_ble_eq_true rfl) (zGo.v ?_)
  refine e_astore_n (pc := 5) d_B_grant_5 (Nat.le_of_ble_eq_true rfl) ?_
  dsimp only [List.set]
  refine e_aload_n (pc := 6) d_B_grant_6 rfl ?_
  refine e_get (pc := 7) s_B_grant_7 (rC hc) rfl ?_
  refine e_astore_n (pc := 10) d_B_grant_10 (Nat.le_of_ble_eq_true rfl) ?_
  dsimp only [List.set]
  refine e_aload_n (pc := 11) d_B_grant_11 rfl ?_
  refine e_get (pc := 12) s_B_grant_12 (rQ hc) rfl ?_
  refine e_if_eq (pc := 15) (tgt := 25) d_B_grant_15 (by decide) (fun h1 => ?_) (fun h1 => ?_)
  · refine e_iconst (pc := 25) (v := 3) d_B_grant_25 (by decide) ?_
    exact e_iret (pc := 26) d_B_grant_26 rfl rfl (Nat.le_of_ble_eq_true rfl) (Nat.le_of_ble_eq_true rfl) rfl
  · refine e_aload_n (pc := 18) d_B_grant_18 rfl ?_
    refine e_get (pc := 19) s_B_grant_19 (rQ hc) rfl ?_
    refine e_if_eq (pc := 22) (tgt := 27) d_B_grant_22 (by decide) (fun h2 => ?_) (fun h2 => ?_)
    · exact absurd h (by simp [h1, h2])
    · refine e_iconst (pc := 25) (v := 3) d_B_grant_25 (by decide) ?_
      exact e_iret (pc := 26) d_B_grant_26 rfl rfl (Nat.le_of_ble_eq_true rfl) (Nat.le_of_ble_eq_true rfl) rfl
set_option maxHeartbeats 4000000 in
set_option maxRecDepth 100000 in
theorem sA_grantB {l : Launch} {G : zGP} {K : Nat} {S T : St} {th : Int32} {fo : Nat → Int64} {c k : Nat} (hc : c < 3) (hk : k < 8) (h12 : ¬ S 12 c 0 = 0) (h14 : S 14 c 0 = 0) (h13 : S 13 c 0 = nI k) (he : elF S c k) : Rn l G m_B_grant [.ref 0, .int (nI c)] (hpA K S T th fo) (.inl (some (.int 4)), (hpA K S T th fo)) := by
  refine Rn.of (by decide) rfl rfl (Nat.le_of_ble_eq_true rfl) rfl ?_
  show Ev l G m_B_grant 0 [.ref 0, .int (nI c), .double 0, .double 0, .double 0, .double 0, .double 0] [] (hpA K S T th fo) 0 0 _
  refine e_aload_n (pc := 0) d_B_grant_0 rfl ?_
  refine e_iload_n (pc := 1) d_B_grant_1 rfl ?_
  refine e_cV1 (pc := 2) s_B_grant_2 (sA_coreAt hc) rfl rfl rfl (Nat.le_of_ble_eq_true rfl) (Nat.le_of_ble_eq_true rfl) (Nat.le_of_ble_eq_true rfl) (zGo.v ?_)
  refine e_astore_n (pc := 5) d_B_grant_5 (Nat.le_of_ble_eq_true rfl) ?_
  dsimp only [List.set]
  refine e_aload_n (pc := 6) d_B_grant_6 rfl ?_
  refine e_get (pc := 7) s_B_grant_7 (rC hc) rfl ?_
  refine e_astore_n (pc := 10) d_B_grant_10 (Nat.le_of_ble_eq_true rfl) ?_
  dsimp only [List.set]
  refine e_aload_n (pc := 11) d_B_grant_11 rfl ?_
  refine e_get (pc := 12) s_B_grant_12 (rQ hc) rfl ?_
  refine e_if_eq (pc := 15) (tgt := 25) d_B_grant_15 (by decide) (fun h9 => absurd h9 (h12)) (fun _ => ?_)
  refine e_aload_n (pc := 18) d_B_grant_18 rfl ?_
  refine e_get (pc := 19) s_B_grant_19 (rQ hc) rfl ?_
  refine e_if_eq (pc := 22) (tgt := 27) d_B_grant_22 (by decide) (fun _ => ?_) (fun h9 => absurd (h14) h9)
  refine e_aload_n (pc := 27) d_B_grant_27 rfl ?_
  refine e_get (pc := 28) s_B_grant_28 (rQ hc) rfl ?_
  refine e_topi (y := nI k) h13 ?_
  refine e_istore (pc := 31) d_B_grant_31 (Nat.le_of_ble_eq_true rfl) ?_
  dsimp only [List.set]
  refine e_aload_n (pc := 33) d_B_grant_33 rfl ?_
  refine e_aload_n (pc := 34) d_B_grant_34 rfl ?_
  refine e_iload (pc := 35) d_B_grant_35 rfl ?_
  refine e_cV2 (pc := 37) s_B_grant_37 (sA_inFlightE hk) rfl rfl rfl (Nat.le_of_ble_eq_true rfl) (Nat.le_of_ble_eq_true rfl) (Nat.le_of_ble_eq_true rfl) (zGo.v ?_)
  refine e_topi (y := 1) (if_pos he) ?_
  refine e_if_eq (pc := 40) (tgt := 45) d_B_grant_40 (by decide) (fun h9 => absurd h9 (by decide)) (fun _ => ?_)
  refine e_iconst (pc := 43) (v := 4) d_B_grant_43 (by decide) ?_
  exact e_iret (pc := 44) d_B_grant_44 rfl rfl (Nat.le_of_ble_eq_true rfl) (Nat.le_of_ble_eq_true rfl) rfl
set_option maxHeartbeats 4000000 in
set_option maxRecDepth 100000 in
theorem sA_grant0 {l : Launch} {G : zGP} {K : Nat} {S T : St} {th : Int32} {fo : Nat → Int64} {k t0 t1 t2 : Nat} (hk : k < 8) (h12 : ¬ S 12 0 0 = 0) (h14 : S 14 0 0 = 0) (h13 : S 13 0 0 = nI k) (he : ¬ elF S 0 k) (ht0 : t0 < 8) (ht1 : t1 < 8) (ht2 : t2 < 8) (h100 : S 10 0 (k % 2) = nI t0) (h101 : S 10 1 (k % 2) = nI t1) (h102 : S 10 2 (k % 2) = nI t2) : Rn l G m_B_grant [.ref 0, .int (nI 0)] (hpA K S T th fo) (.inl (some (.int 1)), (hpA K (gnS S 0 k) T th fo)) := by
  refine Rn.of (by decide) rfl rfl (Nat.le_of_ble_eq_true rfl) rfl ?_
  show Ev l G m_B_grant 0 [.ref 0, .int (nI 0), .double 0, .double 0, .double 0, .double 0, .double 0] [] (hpA K S T th fo) 0 0 _
  refine e_aload_n (pc := 0) d_B_grant_0 rfl ?_
  refine e_iload_n (pc := 1) d_B_grant_1 rfl ?_
  refine e_cV1 (pc := 2) s_B_grant_2 (sA_coreAt (c := 0) (by decide)) rfl rfl rfl (Nat.le_of_ble_eq_true rfl) (Nat.le_of_ble_eq_true rfl) (Nat.le_of_ble_eq_true rfl) (zGo.v ?_)
  refine e_astore_n (pc := 5) d_B_grant_5 (Nat.le_of_ble_eq_true rfl) ?_
  dsimp only [List.set]
  refine e_aload_n (pc := 6) d_B_grant_6 rfl ?_
  refine e_get (pc := 7) s_B_grant_7 (rC (c := 0) (by decide)) rfl ?_
  refine e_astore_n (pc := 10) d_B_grant_10 (Nat.le_of_ble_eq_true rfl) ?_
  dsimp only [List.set]
  refine e_aload_n (pc := 11) d_B_grant_11 rfl ?_
  refine e_get (pc := 12) s_B_grant_12 (rQ (c := 0) (by decide)) rfl ?_
  refine e_if_eq (pc := 15) (tgt := 25) d_B_grant_15 (by decide) (fun h9 => absurd h9 (h12)) (fun _ => ?_)
  refine e_aload_n (pc := 18) d_B_grant_18 rfl ?_
  refine e_get (pc := 19) s_B_grant_19 (rQ (c := 0) (by decide)) rfl ?_
  refine e_if_eq (pc := 22) (tgt := 27) d_B_grant_22 (by decide) (fun _ => ?_) (fun h9 => absurd (h14) h9)
  refine e_aload_n (pc := 27) d_B_grant_27 rfl ?_
  refine e_get (pc := 28) s_B_grant_28 (rQ (c := 0) (by decide)) rfl ?_
  refine e_topi (y := nI k) h13 ?_
  refine e_istore (pc := 31) d_B_grant_31 (Nat.le_of_ble_eq_true rfl) ?_
  dsimp only [List.set]
  refine e_aload_n (pc := 33) d_B_grant_33 rfl ?_
  refine e_aload_n (pc := 34) d_B_grant_34 rfl ?_
  refine e_iload (pc := 35) d_B_grant_35 rfl ?_
  refine e_cV2 (pc := 37) s_B_grant_37 (sA_inFlightE (c := 0) hk) rfl rfl rfl (Nat.le_of_ble_eq_true rfl) (Nat.le_of_ble_eq_true rfl) (Nat.le_of_ble_eq_true rfl) (zGo.v ?_)
  refine e_topi (y := 0) (if_neg he) ?_
  refine e_if_eq (pc := 40) (tgt := 45) d_B_grant_40 (by decide) (fun _ => ?_) (fun h9 => absurd (rfl) h9)
  refine e_aload_n (pc := 45) d_B_grant_45 rfl ?_
  refine e_aload_n (pc := 46) d_B_grant_46 rfl ?_
  refine e_iload (pc := 47) d_B_grant_47 rfl ?_
  refine e_cV1 (pc := 49) s_B_grant_49 (sA_lineFor (c := 0) (by decide) hk) (rC (c := 0) (by decide)) rfl rfl (Nat.le_of_ble_eq_true rfl) (Nat.le_of_ble_eq_true rfl) (Nat.le_of_ble_eq_true rfl) (zGo.v ?_)
  refine e_iload (pc := 52) d_B_grant_52 rfl ?_
  refine e_cV2 (pc := 54) s_B_grant_54 (sA_makeRoom (c := 0) (by decide) hk ht0 h100) rfl rfl rfl (Nat.le_of_ble_eq_true rfl) (Nat.le_of_ble_eq_true rfl) (Nat.le_of_ble_eq_true rfl) (zGo.n ?_)
  refine e_aload_n (pc := 57) d_B_grant_57 rfl ?_
  refine e_iload (pc := 58) d_B_grant_58 rfl ?_
  refine e_cV1 (pc := 60) s_B_grant_60 (sA_wordAt hk) rfl rfl rfl (Nat.le_of_ble_eq_true rfl) (Nat.le_of_ble_eq_true rfl) (Nat.le_of_ble_eq_true rfl) (zGo.v ?_)
  refine e_istore (pc := 63) d_B_grant_63 (Nat.le_of_ble_eq_true rfl) ?_
  dsimp only [List.set]
  refine e_iconst (pc := 65) (v := 0) d_B_grant_65 (by decide) ?_
  refine e_istore (pc := 66) d_B_grant_66 (Nat.le_of_ble_eq_true rfl) ?_
  dsimp only [List.set]
  refine e_iload (pc := 68) d_B_grant_68 rfl ?_
  refine e_iconst (pc := 70) (v := 3) d_B_grant_70 (by decide) ?_
  refine e_icmp_ge (pc := 71) (tgt := 113) d_B_grant_71 (by decide) (fun h9 => absurd h9 (by decide)) (fun _ => ?_)
  refine e_aload_n (pc := 74) d_B_grant_74 rfl ?_
  refine e_get (pc := 75) s_B_grant_75 rfl rfl ?_
  refine e_iload (pc := 78) d_B_grant_78 rfl ?_
  refine e_aald (pc := 80) d_B_grant_80 rfl rfl (vp_dec (by decide)) (ixg (n := 0) (by decide) (crR_at (c := 0) (by decide))) ?_
  refine e_aload_n (pc := 81) d_B_grant_81 rfl ?_
  refine e_acmp_eq (pc := 82) (tgt := 107) d_B_grant_82 (by decide) (fun _ => ?_) (fun h9 => absurd (rfl) h9)
  refine e_iinc (pc := 107) d_B_grant_107 rfl (Nat.le_of_ble_eq_true rfl) ?_
  dsimp only [List.set]
  refine e_goto (pc := 110) (tgt := 68) d_B_grant_110 (by decide) ?_
  refine e_iload (pc := 68) d_B_grant_68 rfl ?_
  refine e_iconst (pc := 70) (v := 3) d_B_grant_70 (by decide) ?_
  refine e_icmp_ge (pc := 71) (tgt := 113) d_B_grant_71 (by decide) (fun h9 => absurd h9 (by decide)) (fun _ => ?_)
  refine e_aload_n (pc := 74) d_B_grant_74 rfl ?_
  refine e_get (pc := 75) s_B_grant_75 rfl rfl ?_
  refine e_iload (pc := 78) d_B_grant_78 rfl ?_
  refine e_aald (pc := 80) d_B_grant_80 rfl rfl (vp_dec (by decide)) (ixg (n := 1) (by decide) (crR_at (c := 1) (by decide))) ?_
  refine e_aload_n (pc := 81) d_B_grant_81 rfl ?_
  refine e_acmp_eq (pc := 82) (tgt := 107) d_B_grant_82 (by decide) (fun h9 => absurd h9 (by decide)) (fun _ => ?_)
  refine e_aload_n (pc := 85) d_B_grant_85 rfl ?_
  refine e_aload_n (pc := 86) d_B_grant_86 rfl ?_
  refine e_get (pc := 87) s_B_grant_87 rfl rfl ?_
  refine e_iload (pc := 90) d_B_grant_90 rfl ?_
  refine e_aald (pc := 92) d_B_grant_92 rfl rfl (vp_dec (by decide)) (ixg (n := 1) (by decide) (crR_at (c := 1) (by decide))) ?_
  refine e_iload (pc := 93) d_B_grant_93 rfl ?_
  refine e_cV1 (pc := 95) s_B_grant_95 (sA_lineFor (c := 1) (by decide) hk) (rC (c := 1) (by decide)) rfl rfl (Nat.le_of_ble_eq_true rfl) (Nat.le_of_ble_eq_true rfl) (Nat.le_of_ble_eq_true rfl) (zGo.v ?_)
  refine e_iload (pc := 98) d_B_grant_98 rfl ?_
  refine e_aload_n (pc := 100) d_B_grant_100 rfl ?_
  refine e_get (pc := 101) s_B_grant_101 (rQ (c := 0) (by decide)) rfl ?_
  refine e_topi (y := S 12 0 0) (by rw [mrS_o _ _ _ (by decide) (by decide)]) ?_
  refine e_cV3 (pc := 104) s_B_grant_104 (sA_giveWay (c := 1) (by decide) hk ht1 (by rw [mrS_o _ _ _ (by decide) (by decide)]; exact h101)) rfl rfl rfl (Nat.le_of_ble_eq_true rfl) (Nat.le_of_ble_eq_true rfl) (Nat.le_of_ble_eq_true rfl) (zGo.n ?_)
  refine e_iinc (pc := 107) d_B_grant_107 rfl (Nat.le_of_ble_eq_true rfl) ?_
  dsimp only [List.set]
  refine e_goto (pc := 110) (tgt := 68) d_B_grant_110 (by decide) ?_
  refine e_iload (pc := 68) d_B_grant_68 rfl ?_
  refine e_iconst (pc := 70) (v := 3) d_B_grant_70 (by decide) ?_
  refine e_icmp_ge (pc := 71) (tgt := 113) d_B_grant_71 (by decide) (fun h9 => absurd h9 (by decide)) (fun _ => ?_)
  refine e_aload_n (pc := 74) d_B_grant_74 rfl ?_
  refine e_get (pc := 75) s_B_grant_75 rfl rfl ?_
  refine e_iload (pc := 78) d_B_grant_78 rfl ?_
  refine e_aald (pc := 80) d_B_grant_80 rfl rfl (vp_dec (by decide)) (ixg (n := 2) (by decide) (crR_at (c := 2) (by decide))) ?_
  refine e_aload_n (pc := 81) d_B_grant_81 rfl ?_
  refine e_acmp_eq (pc := 82) (tgt := 107) d_B_grant_82 (by decide) (fun h9 => absurd h9 (by decide)) (fun _ => ?_)
  refine e_aload_n (pc := 85) d_B_grant_85 rfl ?_
  refine e_aload_n (pc := 86) d_B_grant_86 rfl ?_
  refine e_get (pc := 87) s_B_grant_87 rfl rfl ?_
  refine e_iload (pc := 90) d_B_grant_90 rfl ?_
  refine e_aald (pc := 92) d_B_grant_92 rfl rfl (vp_dec (by decide)) (ixg (n := 2) (by decide) (crR_at (c := 2) (by decide))) ?_
  refine e_iload (pc := 93) d_B_grant_93 rfl ?_
  refine e_cV1 (pc := 95) s_B_grant_95 (sA_lineFor (c := 2) (by decide) hk) (rC (c := 2) (by decide)) rfl rfl (Nat.le_of_ble_eq_true rfl) (Nat.le_of_ble_eq_true rfl) (Nat.le_of_ble_eq_true rfl) (zGo.v ?_)
  refine e_iload (pc := 98) d_B_grant_98 rfl ?_
  refine e_aload_n (pc := 100) d_B_grant_100 rfl ?_
  refine e_get (pc := 101) s_B_grant_101 (rQ (c := 0) (by decide)) rfl ?_
  refine e_topi (y := S 12 0 0) (by rw [gwS_o _ _ _ _ (by decide) (by decide), mrS_o _ _ _ (by decide) (by decide)]) ?_
  refine e_cV3 (pc := 104) s_B_grant_104 (sA_giveWay (c := 2) (by decide) hk ht2 (by rw [gwS_o _ _ _ _ (by decide) (by decide), mrS_o _ _ _ (by decide) (by decide)]; exact h102)) rfl rfl rfl (Nat.le_of_ble_eq_true rfl) (Nat.le_of_ble_eq_true rfl) (Nat.le_of_ble_eq_true rfl) (zGo.n ?_)
  refine e_iinc (pc := 107) d_B_grant_107 rfl (Nat.le_of_ble_eq_true rfl) ?_
  dsimp only [List.set]
  refine e_goto (pc := 110) (tgt := 68) d_B_grant_110 (by decide) ?_
  refine e_iload (pc := 68) d_B_grant_68 rfl ?_
  refine e_iconst (pc := 70) (v := 3) d_B_grant_70 (by decide) ?_
  refine e_icmp_ge (pc := 71) (tgt := 113) d_B_grant_71 (by decide) (fun _ => ?_) (fun h9 => absurd (by decide) h9)
  refine e_aload_n (pc := 113) d_B_grant_113 rfl ?_
  refine e_iload (pc := 114) d_B_grant_114 rfl ?_
  refine e_cV1 (pc := 116) s_B_grant_116 (sA_takeOff (c := 0) (by decide)) (rQ (c := 0) (by decide)) rfl rfl (Nat.le_of_ble_eq_true rfl) (Nat.le_of_ble_eq_true rfl) (Nat.le_of_ble_eq_true rfl) (zGo.n ?_)
  refine e_iconst (pc := 119) (v := 1) d_B_grant_119 (by decide) ?_
  exact e_iret (pc := 120) d_B_grant_120 rfl rfl (Nat.le_of_ble_eq_true rfl) (Nat.le_of_ble_eq_true rfl) rfl
set_option maxHeartbeats 4000000 in
set_option maxRecDepth 100000 in
theorem sA_grant1 {l : Launch} {G : zGP} {K : Nat} {S T : St} {th : Int32} {fo : Nat → Int64} {k t0 t1 t2 : Nat} (hk : k < 8) (h12 : ¬ S 12 1 0 = 0) (h14 : S 14 1 0 = 0) (h13 : S 13 1 0 = nI k) (he : ¬ elF S 1 k) (ht0 : t0 < 8) (ht1 : t1 < 8) (ht2 : t2 < 8) (h100 : S 10 0 (k % 2) = nI t0) (h101 : S 10 1 (k % 2) = nI t1) (h102 : S 10 2 (k % 2) = nI t2) : Rn l G m_B_grant [.ref 0, .int (nI 1)] (hpA K S T th fo) (.inl (some (.int 1)), (hpA K (gnS S 1 k) T th fo)) := by
  refine Rn.of (by decide) rfl rfl (Nat.le_of_ble_eq_true rfl) rfl ?_
  show Ev l G m_B_grant 0 [.ref 0, .int (nI 1), .double 0, .double 0, .double 0, .double 0, .double 0] [] (hpA K S T th fo) 0 0 _
  refine e_aload_n (pc := 0) d_B_grant_0 rfl ?_
  refine e_iload_n (pc := 1) d_B_grant_1 rfl ?_
  refine e_cV1 (pc := 2) s_B_grant_2 (sA_coreAt (c := 1) (by decide)) rfl rfl rfl (Nat.le_of_ble_eq_true rfl) (Nat.le_of_ble_eq_true rfl) (Nat.le_of_ble_eq_true rfl) (zGo.v ?_)
  refine e_astore_n (pc := 5) d_B_grant_5 (Nat.le_of_ble_eq_true rfl) ?_
  dsimp only [List.set]
  refine e_aload_n (pc := 6) d_B_grant_6 rfl ?_
  refine e_get (pc := 7) s_B_grant_7 (rC (c := 1) (by decide)) rfl ?_
  refine e_astore_n (pc := 10) d_B_grant_10 (Nat.le_of_ble_eq_true rfl) ?_
  dsimp only [List.set]
  refine e_aload_n (pc := 11) d_B_grant_11 rfl ?_
  refine e_get (pc := 12) s_B_grant_12 (rQ (c := 1) (by decide)) rfl ?_
  refine e_if_eq (pc := 15) (tgt := 25) d_B_grant_15 (by decide) (fun h9 => absurd h9 (h12)) (fun _ => ?_)
  refine e_aload_n (pc := 18) d_B_grant_18 rfl ?_
  refine e_get (pc := 19) s_B_grant_19 (rQ (c := 1) (by decide)) rfl ?_
  refine e_if_eq (pc := 22) (tgt := 27) d_B_grant_22 (by decide) (fun _ => ?_) (fun h9 => absurd (h14) h9)
  refine e_aload_n (pc := 27) d_B_grant_27 rfl ?_
  refine e_get (pc := 28) s_B_grant_28 (rQ (c := 1) (by decide)) rfl ?_
  refine e_topi (y := nI k) h13 ?_
  refine e_istore (pc := 31) d_B_grant_31 (Nat.le_of_ble_eq_true rfl) ?_
  dsimp only [List.set]
  refine e_aload_n (pc := 33) d_B_grant_33 rfl ?_
  refine e_aload_n (pc := 34) d_B_grant_34 rfl ?_
  refine e_iload (pc := 35) d_B_grant_35 rfl ?_
  refine e_cV2 (pc := 37) s_B_grant_37 (sA_inFlightE (c := 1) hk) rfl rfl rfl (Nat.le_of_ble_eq_true rfl) (Nat.le_of_ble_eq_true rfl) (Nat.le_of_ble_eq_true rfl) (zGo.v ?_)
  refine e_topi (y := 0) (if_neg he) ?_
  refine e_if_eq (pc := 40) (tgt := 45) d_B_grant_40 (by decide) (fun _ => ?_) (fun h9 => absurd (rfl) h9)
  refine e_aload_n (pc := 45) d_B_grant_45 rfl ?_
  refine e_aload_n (pc := 46) d_B_grant_46 rfl ?_
  refine e_iload (pc := 47) d_B_grant_47 rfl ?_
  refine e_cV1 (pc := 49) s_B_grant_49 (sA_lineFor (c := 1) (by decide) hk) (rC (c := 1) (by decide)) rfl rfl (Nat.le_of_ble_eq_true rfl) (Nat.le_of_ble_eq_true rfl) (Nat.le_of_ble_eq_true rfl) (zGo.v ?_)
  refine e_iload (pc := 52) d_B_grant_52 rfl ?_
  refine e_cV2 (pc := 54) s_B_grant_54 (sA_makeRoom (c := 1) (by decide) hk ht1 h101) rfl rfl rfl (Nat.le_of_ble_eq_true rfl) (Nat.le_of_ble_eq_true rfl) (Nat.le_of_ble_eq_true rfl) (zGo.n ?_)
  refine e_aload_n (pc := 57) d_B_grant_57 rfl ?_
  refine e_iload (pc := 58) d_B_grant_58 rfl ?_
  refine e_cV1 (pc := 60) s_B_grant_60 (sA_wordAt hk) rfl rfl rfl (Nat.le_of_ble_eq_true rfl) (Nat.le_of_ble_eq_true rfl) (Nat.le_of_ble_eq_true rfl) (zGo.v ?_)
  refine e_istore (pc := 63) d_B_grant_63 (Nat.le_of_ble_eq_true rfl) ?_
  dsimp only [List.set]
  refine e_iconst (pc := 65) (v := 0) d_B_grant_65 (by decide) ?_
  refine e_istore (pc := 66) d_B_grant_66 (Nat.le_of_ble_eq_true rfl) ?_
  dsimp only [List.set]
  refine e_iload (pc := 68) d_B_grant_68 rfl ?_
  refine e_iconst (pc := 70) (v := 3) d_B_grant_70 (by decide) ?_
  refine e_icmp_ge (pc := 71) (tgt := 113) d_B_grant_71 (by decide) (fun h9 => absurd h9 (by decide)) (fun _ => ?_)
  refine e_aload_n (pc := 74) d_B_grant_74 rfl ?_
  refine e_get (pc := 75) s_B_grant_75 rfl rfl ?_
  refine e_iload (pc := 78) d_B_grant_78 rfl ?_
  refine e_aald (pc := 80) d_B_grant_80 rfl rfl (vp_dec (by decide)) (ixg (n := 0) (by decide) (crR_at (c := 0) (by decide))) ?_
  refine e_aload_n (pc := 81) d_B_grant_81 rfl ?_
  refine e_acmp_eq (pc := 82) (tgt := 107) d_B_grant_82 (by decide) (fun h9 => absurd h9 (by decide)) (fun _ => ?_)
  refine e_aload_n (pc := 85) d_B_grant_85 rfl ?_
  refine e_aload_n (pc := 86) d_B_grant_86 rfl ?_
  refine e_get (pc := 87) s_B_grant_87 rfl rfl ?_
  refine e_iload (pc := 90) d_B_grant_90 rfl ?_
  refine e_aald (pc := 92) d_B_grant_92 rfl rfl (vp_dec (by decide)) (ixg (n := 0) (by decide) (crR_at (c := 0) (by decide))) ?_
  refine e_iload (pc := 93) d_B_grant_93 rfl ?_
  refine e_cV1 (pc := 95) s_B_grant_95 (sA_lineFor (c := 0) (by decide) hk) (rC (c := 0) (by decide)) rfl rfl (Nat.le_of_ble_eq_true rfl) (Nat.le_of_ble_eq_true rfl) (Nat.le_of_ble_eq_true rfl) (zGo.v ?_)
  refine e_iload (pc := 98) d_B_grant_98 rfl ?_
  refine e_aload_n (pc := 100) d_B_grant_100 rfl ?_
  refine e_get (pc := 101) s_B_grant_101 (rQ (c := 1) (by decide)) rfl ?_
  refine e_topi (y := S 12 1 0) (by rw [mrS_o _ _ _ (by decide) (by decide)]) ?_
  refine e_cV3 (pc := 104) s_B_grant_104 (sA_giveWay (c := 0) (by decide) hk ht0 (by rw [mrS_o _ _ _ (by decide) (by decide)]; exact h100)) rfl rfl rfl (Nat.le_of_ble_eq_true rfl) (Nat.le_of_ble_eq_true rfl) (Nat.le_of_ble_eq_true rfl) (zGo.n ?_)
  refine e_iinc (pc := 107) d_B_grant_107 rfl (Nat.le_of_ble_eq_true rfl) ?_
  dsimp only [List.set]
  refine e_goto (pc := 110) (tgt := 68) d_B_grant_110 (by decide) ?_
  refine e_iload (pc := 68) d_B_grant_68 rfl ?_
  refine e_iconst (pc := 70) (v := 3) d_B_grant_70 (by decide) ?_
  refine e_icmp_ge (pc := 71) (tgt := 113) d_B_grant_71 (by decide) (fun h9 => absurd h9 (by decide)) (fun _ => ?_)
  refine e_aload_n (pc := 74) d_B_grant_74 rfl ?_
  refine e_get (pc := 75) s_B_grant_75 rfl rfl ?_
  refine e_iload (pc := 78) d_B_grant_78 rfl ?_
  refine e_aald (pc := 80) d_B_grant_80 rfl rfl (vp_dec (by decide)) (ixg (n := 1) (by decide) (crR_at (c := 1) (by decide))) ?_
  refine e_aload_n (pc := 81) d_B_grant_81 rfl ?_
  refine e_acmp_eq (pc := 82) (tgt := 107) d_B_grant_82 (by decide) (fun _ => ?_) (fun h9 => absurd (rfl) h9)
  refine e_iinc (pc := 107) d_B_grant_107 rfl (Nat.le_of_ble_eq_true rfl) ?_
  dsimp only [List.set]
  refine e_goto (pc := 110) (tgt := 68) d_B_grant_110 (by decide) ?_
  refine e_iload (pc := 68) d_B_grant_68 rfl ?_
  refine e_iconst (pc := 70) (v := 3) d_B_grant_70 (by decide) ?_
  refine e_icmp_ge (pc := 71) (tgt := 113) d_B_grant_71 (by decide) (fun h9 => absurd h9 (by decide)) (fun _ => ?_)
  refine e_aload_n (pc := 74) d_B_grant_74 rfl ?_
  refine e_get (pc := 75) s_B_grant_75 rfl rfl ?_
  refine e_iload (pc := 78) d_B_grant_78 rfl ?_
  refine e_aald (pc := 80) d_B_grant_80 rfl rfl (vp_dec (by decide)) (ixg (n := 2) (by decide) (crR_at (c := 2) (by decide))) ?_
  refine e_aload_n (pc := 81) d_B_grant_81 rfl ?_
  refine e_acmp_eq (pc := 82) (tgt := 107) d_B_grant_82 (by decide) (fun h9 => absurd h9 (by decide)) (fun _ => ?_)
  refine e_aload_n (pc := 85) d_B_grant_85 rfl ?_
  refine e_aload_n (pc := 86) d_B_grant_86 rfl ?_
  refine e_get (pc := 87) s_B_grant_87 rfl rfl ?_
  refine e_iload (pc := 90) d_B_grant_90 rfl ?_
  refine e_aald (pc := 92) d_B_grant_92 rfl rfl (vp_dec (by decide)) (ixg (n := 2) (by decide) (crR_at (c := 2) (by decide))) ?_
  refine e_iload (pc := 93) d_B_grant_93 rfl ?_
  refine e_cV1 (pc := 95) s_B_grant_95 (sA_lineFor (c := 2) (by decide) hk) (rC (c := 2) (by decide)) rfl rfl (Nat.le_of_ble_eq_true rfl) (Nat.le_of_ble_eq_true rfl) (Nat.le_of_ble_eq_true rfl) (zGo.v ?_)
  refine e_iload (pc := 98) d_B_grant_98 rfl ?_
  refine e_aload_n (pc := 100) d_B_grant_100 rfl ?_
  refine e_get (pc := 101) s_B_grant_101 (rQ (c := 1) (by decide)) rfl ?_
  refine e_topi (y := S 12 1 0) (by rw [gwS_o _ _ _ _ (by decide) (by decide), mrS_o _ _ _ (by decide) (by decide)]) ?_
  refine e_cV3 (pc := 104) s_B_grant_104 (sA_giveWay (c := 2) (by decide) hk ht2 (by rw [gwS_o _ _ _ _ (by decide) (by decide), mrS_o _ _ _ (by decide) (by decide)]; exact h102)) rfl rfl rfl (Nat.le_of_ble_eq_true rfl) (Nat.le_of_ble_eq_true rfl) (Nat.le_of_ble_eq_true rfl) (zGo.n ?_)
  refine e_iinc (pc := 107) d_B_grant_107 rfl (Nat.le_of_ble_eq_true rfl) ?_
  dsimp only [List.set]
  refine e_goto (pc := 110) (tgt := 68) d_B_grant_110 (by decide) ?_
  refine e_iload (pc := 68) d_B_grant_68 rfl ?_
  refine e_iconst (pc := 70) (v := 3) d_B_grant_70 (by decide) ?_
  refine e_icmp_ge (pc := 71) (tgt := 113) d_B_grant_71 (by decide) (fun _ => ?_) (fun h9 => absurd (by decide) h9)
  refine e_aload_n (pc := 113) d_B_grant_113 rfl ?_
  refine e_iload (pc := 114) d_B_grant_114 rfl ?_
  refine e_cV1 (pc := 116) s_B_grant_116 (sA_takeOff (c := 1) (by decide)) (rQ (c := 1) (by decide)) rfl rfl (Nat.le_of_ble_eq_true rfl) (Nat.le_of_ble_eq_true rfl) (Nat.le_of_ble_eq_true rfl) (zGo.n ?_)
  refine e_iconst (pc := 119) (v := 1) d_B_grant_119 (by decide) ?_
  exact e_iret (pc := 120) d_B_grant_120 rfl rfl (Nat.le_of_ble_eq_true rfl) (Nat.le_of_ble_eq_true rfl) rfl
set_option maxHeartbeats 4000000 in
set_option maxRecDepth 100000 in
theorem sA_grant2 {l : Launch} {G : zGP} {K : Nat} {S T : St} {th : Int32} {fo : Nat → Int64} {k t0 t1 t2 : Nat} (hk : k < 8) (h12 : ¬ S 12 2 0 = 0) (h14 : S 14 2 0 = 0) (h13 : S 13 2 0 = nI k) (he : ¬ elF S 2 k) (ht0 : t0 < 8) (ht1 : t1 < 8) (ht2 : t2 < 8) (h100 : S 10 0 (k % 2) = nI t0) (h101 : S 10 1 (k % 2) = nI t1) (h102 : S 10 2 (k % 2) = nI t2) : Rn l G m_B_grant [.ref 0, .int (nI 2)] (hpA K S T th fo) (.inl (some (.int 1)), (hpA K (gnS S 2 k) T th fo)) := by
  refine Rn.of (by decide) rfl rfl (Nat.le_of_ble_eq_true rfl) rfl ?_
  show Ev l G m_B_grant 0 [.ref 0, .int (nI 2), .double 0, .double 0, .double 0, .double 0, .double 0] [] (hpA K S T th fo) 0 0 _
  refine e_aload_n (pc := 0) d_B_grant_0 rfl ?_
  refine e_iload_n (pc := 1) d_B_grant_1 rfl ?_
  refine e_cV1 (pc := 2) s_B_grant_2 (sA_coreAt (c := 2) (by decide)) rfl rfl rfl (Nat.le_of_ble_eq_true rfl) (Nat.le_of_ble_eq_true rfl) (Nat.le_of_ble_eq_true rfl) (zGo.v ?_)
  refine e_astore_n (pc := 5) d_B_grant_5 (Nat.le_of_ble_eq_true rfl) ?_
  dsimp only [List.set]
  refine e_aload_n (pc := 6) d_B_grant_6 rfl ?_
  refine e_get (pc := 7) s_B_grant_7 (rC (c := 2) (by decide)) rfl ?_
  refine e_astore_n (pc := 10) d_B_grant_10 (Nat.le_of_ble_eq_true rfl) ?_
  dsimp only [List.set]
  refine e_aload_n (pc := 11) d_B_grant_11 rfl ?_
  refine e_get (pc := 12) s_B_grant_12 (rQ (c := 2) (by decide)) rfl ?_
  refine e_if_eq (pc := 15) (tgt := 25) d_B_grant_15 (by decide) (fun h9 => absurd h9 (h12)) (fun _ => ?_)
  refine e_aload_n (pc := 18) d_B_grant_18 rfl ?_
  refine e_get (pc := 19) s_B_grant_19 (rQ (c := 2) (by decide)) rfl ?_
  refine e_if_eq (pc := 22) (tgt := 27) d_B_grant_22 (by decide) (fun _ => ?_) (fun h9 => absurd (h14) h9)
  refine e_aload_n (pc := 27) d_B_grant_27 rfl ?_
  refine e_get (pc := 28) s_B_grant_28 (rQ (c := 2) (by decide)) rfl ?_
  refine e_topi (y := nI k) h13 ?_
  refine e_istore (pc := 31) d_B_grant_31 (Nat.le_of_ble_eq_true rfl) ?_
  dsimp only [List.set]
  refine e_aload_n (pc := 33) d_B_grant_33 rfl ?_
  refine e_aload_n (pc := 34) d_B_grant_34 rfl ?_
  refine e_iload (pc := 35) d_B_grant_35 rfl ?_
  refine e_cV2 (pc := 37) s_B_grant_37 (sA_inFlightE (c := 2) hk) rfl rfl rfl (Nat.le_of_ble_eq_true rfl) (Nat.le_of_ble_eq_true rfl) (Nat.le_of_ble_eq_true rfl) (zGo.v ?_)
  refine e_topi (y := 0) (if_neg he) ?_
  refine e_if_eq (pc := 40) (tgt := 45) d_B_grant_40 (by decide) (fun _ => ?_) (fun h9 => absurd (rfl) h9)
  refine e_aload_n (pc := 45) d_B_grant_45 rfl ?_
  refine e_aload_n (pc := 46) d_B_grant_46 rfl ?_
  refine e_iload (pc := 47) d_B_grant_47 rfl ?_
  refine e_cV1 (pc := 49) s_B_grant_49 (sA_lineFor (c := 2) (by decide) hk) (rC (c := 2) (by decide)) rfl rfl (Nat.le_of_ble_eq_true rfl) (Nat.le_of_ble_eq_true rfl) (Nat.le_of_ble_eq_true rfl) (zGo.v ?_)
  refine e_iload (pc := 52) d_B_grant_52 rfl ?_
  refine e_cV2 (pc := 54) s_B_grant_54 (sA_makeRoom (c := 2) (by decide) hk ht2 h102) rfl rfl rfl (Nat.le_of_ble_eq_true rfl) (Nat.le_of_ble_eq_true rfl) (Nat.le_of_ble_eq_true rfl) (zGo.n ?_)
  refine e_aload_n (pc := 57) d_B_grant_57 rfl ?_
  refine e_iload (pc := 58) d_B_grant_58 rfl ?_
  refine e_cV1 (pc := 60) s_B_grant_60 (sA_wordAt hk) rfl rfl rfl (Nat.le_of_ble_eq_true rfl) (Nat.le_of_ble_eq_true rfl) (Nat.le_of_ble_eq_true rfl) (zGo.v ?_)
  refine e_istore (pc := 63) d_B_grant_63 (Nat.le_of_ble_eq_true rfl) ?_
  dsimp only [List.set]
  refine e_iconst (pc := 65) (v := 0) d_B_grant_65 (by decide) ?_
  refine e_istore (pc := 66) d_B_grant_66 (Nat.le_of_ble_eq_true rfl) ?_
  dsimp only [List.set]
  refine e_iload (pc := 68) d_B_grant_68 rfl ?_
  refine e_iconst (pc := 70) (v := 3) d_B_grant_70 (by decide) ?_
  refine e_icmp_ge (pc := 71) (tgt := 113) d_B_grant_71 (by decide) (fun h9 => absurd h9 (by decide)) (fun _ => ?_)
  refine e_aload_n (pc := 74) d_B_grant_74 rfl ?_
  refine e_get (pc := 75) s_B_grant_75 rfl rfl ?_
  refine e_iload (pc := 78) d_B_grant_78 rfl ?_
  refine e_aald (pc := 80) d_B_grant_80 rfl rfl (vp_dec (by decide)) (ixg (n := 0) (by decide) (crR_at (c := 0) (by decide))) ?_
  refine e_aload_n (pc := 81) d_B_grant_81 rfl ?_
  refine e_acmp_eq (pc := 82) (tgt := 107) d_B_grant_82 (by decide) (fun h9 => absurd h9 (by decide)) (fun _ => ?_)
  refine e_aload_n (pc := 85) d_B_grant_85 rfl ?_
  refine e_aload_n (pc := 86) d_B_grant_86 rfl ?_
  refine e_get (pc := 87) s_B_grant_87 rfl rfl ?_
  refine e_iload (pc := 90) d_B_grant_90 rfl ?_
  refine e_aald (pc := 92) d_B_grant_92 rfl rfl (vp_dec (by decide)) (ixg (n := 0) (by decide) (crR_at (c := 0) (by decide))) ?_
  refine e_iload (pc := 93) d_B_grant_93 rfl ?_
  refine e_cV1 (pc := 95) s_B_grant_95 (sA_lineFor (c := 0) (by decide) hk) (rC (c := 0) (by decide)) rfl rfl (Nat.le_of_ble_eq_true rfl) (Nat.le_of_ble_eq_true rfl) (Nat.le_of_ble_eq_true rfl) (zGo.v ?_)
  refine e_iload (pc := 98) d_B_grant_98 rfl ?_
  refine e_aload_n (pc := 100) d_B_grant_100 rfl ?_
  refine e_get (pc := 101) s_B_grant_101 (rQ (c := 2) (by decide)) rfl ?_
  refine e_topi (y := S 12 2 0) (by rw [mrS_o _ _ _ (by decide) (by decide)]) ?_
  refine e_cV3 (pc := 104) s_B_grant_104 (sA_giveWay (c := 0) (by decide) hk ht0 (by rw [mrS_o _ _ _ (by decide) (by decide)]; exact h100)) rfl rfl rfl (Nat.le_of_ble_eq_true rfl) (Nat.le_of_ble_eq_true rfl) (Nat.le_of_ble_eq_true rfl) (zGo.n ?_)
  refine e_iinc (pc := 107) d_B_grant_107 rfl (Nat.le_of_ble_eq_true rfl) ?_
  dsimp only [List.set]
  refine e_goto (pc := 110) (tgt := 68) d_B_grant_110 (by decide) ?_
  refine e_iload (pc := 68) d_B_grant_68 rfl ?_
  refine e_iconst (pc := 70) (v := 3) d_B_grant_70 (by decide) ?_
  refine e_icmp_ge (pc := 71) (tgt := 113) d_B_grant_71 (by decide) (fun h9 => absurd h9 (by decide)) (fun _ => ?_)
  refine e_aload_n (pc := 74) d_B_grant_74 rfl ?_
  refine e_get (pc := 75) s_B_grant_75 rfl rfl ?_
  refine e_iload (pc := 78) d_B_grant_78 rfl ?_
  refine e_aald (pc := 80) d_B_grant_80 rfl rfl (vp_dec (by decide)) (ixg (n := 1) (by decide) (crR_at (c := 1) (by decide))) ?_
  refine e_aload_n (pc := 81) d_B_grant_81 rfl ?_
  refine e_acmp_eq (pc := 82) (tgt := 107) d_B_grant_82 (by decide) (fun h9 => absurd h9 (by decide)) (fun _ => ?_)
  refine e_aload_n (pc := 85) d_B_grant_85 rfl ?_
  refine e_aload_n (pc := 86) d_B_grant_86 rfl ?_
  refine e_get (pc := 87) s_B_grant_87 rfl rfl ?_
  refine e_iload (pc := 90) d_B_grant_90 rfl ?_
  refine e_aald (pc := 92) d_B_grant_92 rfl rfl (vp_dec (by decide)) (ixg (n := 1) (by decide) (crR_at (c := 1) (by decide))) ?_
  refine e_iload (pc := 93) d_B_grant_93 rfl ?_
  refine e_cV1 (pc := 95) s_B_grant_95 (sA_lineFor (c := 1) (by decide) hk) (rC (c := 1) (by decide)) rfl rfl (Nat.le_of_ble_eq_true rfl) (Nat.le_of_ble_eq_true rfl) (Nat.le_of_ble_eq_true rfl) (zGo.v ?_)
  refine e_iload (pc := 98) d_B_grant_98 rfl ?_
  refine e_aload_n (pc := 100) d_B_grant_100 rfl ?_
  refine e_get (pc := 101) s_B_grant_101 (rQ (c := 2) (by decide)) rfl ?_
  refine e_topi (y := S 12 2 0) (by rw [gwS_o _ _ _ _ (by decide) (by decide), mrS_o _ _ _ (by decide) (by decide)]) ?_
  refine e_cV3 (pc := 104) s_B_grant_104 (sA_giveWay (c := 1) (by decide) hk ht1 (by rw [gwS_o _ _ _ _ (by decide) (by decide), mrS_o _ _ _ (by decide) (by decide)]; exact h101)) rfl rfl rfl (Nat.le_of_ble_eq_true rfl) (Nat.le_of_ble_eq_true rfl) (Nat.le_of_ble_eq_true rfl) (zGo.n ?_)
  refine e_iinc (pc := 107) d_B_grant_107 rfl (Nat.le_of_ble_eq_true rfl) ?_
  dsimp only [List.set]
  refine e_goto (pc := 110) (tgt := 68) d_B_grant_110 (by decide) ?_
  refine e_iload (pc := 68) d_B_grant_68 rfl ?_
  refine e_iconst (pc := 70) (v := 3) d_B_grant_70 (by decide) ?_
  refine e_icmp_ge (pc := 71) (tgt := 113) d_B_grant_71 (by decide) (fun h9 => absurd h9 (by decide)) (fun _ => ?_)
  refine e_aload_n (pc := 74) d_B_grant_74 rfl ?_
  refine e_get (pc := 75) s_B_grant_75 rfl rfl ?_
  refine e_iload (pc := 78) d_B_grant_78 rfl ?_
  refine e_aald (pc := 80) d_B_grant_80 rfl rfl (vp_dec (by decide)) (ixg (n := 2) (by decide) (crR_at (c := 2) (by decide))) ?_
  refine e_aload_n (pc := 81) d_B_grant_81 rfl ?_
  refine e_acmp_eq (pc := 82) (tgt := 107) d_B_grant_82 (by decide) (fun _ => ?_) (fun h9 => absurd (rfl) h9)
  refine e_iinc (pc := 107) d_B_grant_107 rfl (Nat.le_of_ble_eq_true rfl) ?_
  dsimp only [List.set]
  refine e_goto (pc := 110) (tgt := 68) d_B_grant_110 (by decide) ?_
  refine e_iload (pc := 68) d_B_grant_68 rfl ?_
  refine e_iconst (pc := 70) (v := 3) d_B_grant_70 (by decide) ?_
  refine e_icmp_ge (pc := 71) (tgt := 113) d_B_grant_71 (by decide) (fun _ => ?_) (fun h9 => absurd (by decide) h9)
  refine e_aload_n (pc := 113) d_B_grant_113 rfl ?_
  refine e_iload (pc := 114) d_B_grant_114 rfl ?_
  refine e_cV1 (pc := 116) s_B_grant_116 (sA_takeOff (c := 2) (by decide)) (rQ (c := 2) (by decide)) rfl rfl (Nat.le_of_ble_eq_true rfl) (Nat.le_of_ble_eq_true rfl) (Nat.le_of_ble_eq_true rfl) (zGo.n ?_)
  refine e_iconst (pc := 119) (v := 1) d_B_grant_119 (by decide) ?_
  exact e_iret (pc := 120) d_B_grant_120 rfl rfl (Nat.le_of_ble_eq_true rfl) (Nat.le_of_ble_eq_true rfl) rfl
set_option maxHeartbeats 4000000 in
set_option maxRecDepth 100000 in
theorem sA_grant {l : Launch} {G : zGP} {K : Nat} {S T : St} {th : Int32} {fo : Nat → Int64} {c k : Nat} (hc : c < 3) (hk : k < 8) (h12 : ¬ S 12 c 0 = 0) (h14 : S 14 c 0 = 0) (h13 : S 13 c 0 = nI k) (he : ¬ elF S c k) (h10 : ∀ d j, d < 3 → j < 2 → ∃ t, t < 8 ∧ S 10 d j = nI t) : Rn l G m_B_grant [.ref 0, .int (nI c)] (hpA K S T th fo) (.inl (some (.int 1)), (hpA K (gnS S c k) T th fo)) := by
  obtain ⟨t0, ht0, q0⟩ := h10 0 (k % 2) (by decide) (Nat.mod_lt _ (by decide))
  obtain ⟨t1, ht1, q1⟩ := h10 1 (k % 2) (by decide) (Nat.mod_lt _ (by decide))
  obtain ⟨t2, ht2, q2⟩ := h10 2 (k % 2) (by decide) (Nat.mod_lt _ (by decide))
  rcases (show c = 0 ∨ c = 1 ∨ c = 2 by omega) with rfl | rfl | rfl
  · exact sA_grant0 hk h12 h14 h13 he ht0 ht1 ht2 q0 q1 q2
  · exact sA_grant1 hk h12 h14 h13 he ht0 ht1 ht2 q0 q1 q2
  · exact sA_grant2 hk h12 h14 h13 he ht0 ht1 ht2 q0 q1 q2
set_option maxHeartbeats 4000000 in
set_option maxRecDepth 100000 in
theorem sA_fillN {l : Launch} {G : zGP} {K : Nat} {S T : St} {th : Int32} {fo : Nat → Int64} {c : Nat} (hc : c < 3) (h14 : S 14 c 0 = 0) : Rn l G m_B_fill [.ref 0, .int (nI c)] (hpA K S T th fo) (.inl (some (.int 3)), (hpA K S T th fo)) := by
  refine Rn.of (by decide) rfl rfl (Nat.le_of_ble_eq_true rfl) rfl ?_
  show Ev l G m_B_fill 0 [.ref 0, .int (nI c), .double 0, .double 0, .double 0, .double 0] [] (hpA K S T th fo) 0 0 _
  refine e_aload_n (pc := 0) d_B_fill_0 rfl ?_
  refine e_iload_n (pc := 1) d_B_fill_1 rfl ?_
  refine e_cV1 (pc := 2) s_B_fill_2 (sA_coreAt hc) rfl rfl rfl (Nat.le_of_ble_eq_true rfl) (Nat.le_of_ble_eq_true rfl) (Nat.le_of_ble_eq_true rfl) (zGo.v ?_)
  refine e_astore_n (pc := 5) d_B_fill_5 (Nat.le_of_ble_eq_true rfl) ?_
  dsimp only [List.set]
  refine e_aload_n (pc := 6) d_B_fill_6 rfl ?_
  refine e_get (pc := 7) s_B_fill_7 (rC hc) rfl ?_
  refine e_astore_n (pc := 10) d_B_fill_10 (Nat.le_of_ble_eq_true rfl) ?_
  dsimp only [List.set]
  refine e_aload_n (pc := 11) d_B_fill_11 rfl ?_
  refine e_get (pc := 12) s_B_fill_12 (rQ hc) rfl ?_
  refine e_if_ne (pc := 15) (tgt := 20) d_B_fill_15 (by decide) (fun h9 => absurd (h14) h9) (fun _ => ?_)
  refine e_iconst (pc := 18) (v := 3) d_B_fill_18 (by decide) ?_
  exact e_iret (pc := 19) d_B_fill_19 rfl rfl (Nat.le_of_ble_eq_true rfl) (Nat.le_of_ble_eq_true rfl) rfl
set_option maxHeartbeats 4000000 in
set_option maxRecDepth 100000 in
theorem sA_fill {l : Launch} {G : zGP} {K : Nat} {S T : St} {th : Int32} {fo : Nat → Int64} {c k : Nat} (hc : c < 3) (hk : k < 8) (h14 : ¬ S 14 c 0 = 0) (h13 : S 13 c 0 = nI k) : Rn l G m_B_fill [.ref 0, .int (nI c)] (hpA K S T th fo) (.inl (some (.int 1)), (hpA K (flS S c k) T th fo)) := by
  refine Rn.of (by decide) rfl rfl (Nat.le_of_ble_eq_true rfl) rfl ?_
  show Ev l G m_B_fill 0 [.ref 0, .int (nI c), .double 0, .double 0, .double 0, .double 0] [] (hpA K S T th fo) 0 0 _
  refine e_aload_n (pc := 0) d_B_fill_0 rfl ?_
  refine e_iload_n (pc := 1) d_B_fill_1 rfl ?_
  refine e_cV1 (pc := 2) s_B_fill_2 (sA_coreAt hc) rfl rfl rfl (Nat.le_of_ble_eq_true rfl) (Nat.le_of_ble_eq_true rfl) (Nat.le_of_ble_eq_true rfl) (zGo.v ?_)
  refine e_astore_n (pc := 5) d_B_fill_5 (Nat.le_of_ble_eq_true rfl) ?_
  dsimp only [List.set]
  refine e_aload_n (pc := 6) d_B_fill_6 rfl ?_
  refine e_get (pc := 7) s_B_fill_7 (rC hc) rfl ?_
  refine e_astore_n (pc := 10) d_B_fill_10 (Nat.le_of_ble_eq_true rfl) ?_
  dsimp only [List.set]
  refine e_aload_n (pc := 11) d_B_fill_11 rfl ?_
  refine e_get (pc := 12) s_B_fill_12 (rQ hc) rfl ?_
  refine e_if_ne (pc := 15) (tgt := 20) d_B_fill_15 (by decide) (fun _ => ?_) (fun h9 => absurd h9 (h14))
  refine e_aload_n (pc := 20) d_B_fill_20 rfl ?_
  refine e_get (pc := 21) s_B_fill_21 (rQ hc) rfl ?_
  refine e_topi (y := nI k) h13 ?_
  refine e_istore (pc := 24) d_B_fill_24 (Nat.le_of_ble_eq_true rfl) ?_
  dsimp only [List.set]
  refine e_aload_n (pc := 26) d_B_fill_26 rfl ?_
  refine e_get (pc := 27) s_B_fill_27 (rQ hc) rfl ?_
  refine e_iconst (pc := 30) (v := 2) d_B_fill_30 (by decide) ?_
  refine e_icmp_eq (pc := 31) (tgt := 44) d_B_fill_31 (by decide) (fun h3 => ?_) (fun h3 => ?_)
  · refine e_iconst (pc := 44) (v := 1) d_B_fill_44 (by decide) ?_
    refine e_goto (pc := 45) (tgt := 49) d_B_fill_45 (by decide) ?_
    refine e_istore (pc := 49) d_B_fill_49 (Nat.le_of_ble_eq_true rfl) ?_
    dsimp only [List.set]
    refine e_aload_n (pc := 51) d_B_fill_51 rfl ?_
    refine e_iload (pc := 52) d_B_fill_52 rfl ?_
    refine e_cV1 (pc := 54) s_B_fill_54 (sA_lineFor hc hk) (rC hc) rfl rfl (Nat.le_of_ble_eq_true rfl) (Nat.le_of_ble_eq_true rfl) (Nat.le_of_ble_eq_true rfl) (zGo.v ?_)
    refine e_iload (pc := 57) d_B_fill_57 rfl ?_
    refine e_if_eq (pc := 59) (tgt := 66) d_B_fill_59 (by decide) (fun h9 => absurd h9 (by decide)) (fun _ => ?_)
    refine e_iconst (pc := 62) (v := 2) d_B_fill_62 (by decide) ?_
    refine e_goto (pc := 63) (tgt := 67) d_B_fill_63 (by decide) ?_
    refine e_iload (pc := 67) d_B_fill_67 rfl ?_
    refine e_aload_n (pc := 69) d_B_fill_69 rfl ?_
    refine e_get (pc := 70) s_B_fill_70 (rQ hc) rfl ?_
    refine e_cV3 (pc := 73) s_B_fill_73 (sA_take hc (Nat.mod_lt _ (by decide))) (rL hc (Nat.mod_lt _ (by decide))) rfl rfl (Nat.le_of_ble_eq_true rfl) (Nat.le_of_ble_eq_true rfl) (Nat.le_of_ble_eq_true rfl) (zGo.n ?_)
    refine e_aload_n (pc := 76) d_B_fill_76 rfl ?_
    refine e_cV0 (pc := 77) s_B_fill_77 (sA_forget hc) (rQ hc) rfl rfl (Nat.le_of_ble_eq_true rfl) (Nat.le_of_ble_eq_true rfl) (Nat.le_of_ble_eq_true rfl) (zGo.n ?_)
    refine e_iconst (pc := 80) (v := 1) d_B_fill_80 (by decide) ?_
    exact e_iret (pc := 81) d_B_fill_81 rfl rfl (Nat.le_of_ble_eq_true rfl) (Nat.le_of_ble_eq_true rfl) (by rw [show flS S c k = _ from congrArg (fun z => su (su (su (su (su S 9 c (k % 2) z) 10 c (k % 2) (nI k)) 11 c (k % 2) (S 15 c 0)) 12 c 0 0) 14 c 0 0) (show flT S c k = _ from if_pos (Or.inl h3))])
  · refine e_aload_n (pc := 34) d_B_fill_34 rfl ?_
    refine e_aload_n (pc := 35) d_B_fill_35 rfl ?_
    refine e_iload (pc := 36) d_B_fill_36 rfl ?_
    refine e_cV2 (pc := 38) s_B_fill_38 (sA_heldE hk) rfl rfl rfl (Nat.le_of_ble_eq_true rfl) (Nat.le_of_ble_eq_true rfl) (Nat.le_of_ble_eq_true rfl) (zGo.v ?_)
    refine e_if_ne (pc := 41) (tgt := 48) d_B_fill_41 (by decide) (fun h4 => ?_) (fun h4 => ?_)
    · replace h4 := b1.mp h4
      refine e_iconst (pc := 48) (v := 0) d_B_fill_48 (by decide) ?_
      refine e_istore (pc := 49) d_B_fill_49 (Nat.le_of_ble_eq_true rfl) ?_
      dsimp only [List.set]
      refine e_aload_n (pc := 51) d_B_fill_51 rfl ?_
      refine e_iload (pc := 52) d_B_fill_52 rfl ?_
      refine e_cV1 (pc := 54) s_B_fill_54 (sA_lineFor hc hk) (rC hc) rfl rfl (Nat.le_of_ble_eq_true rfl) (Nat.le_of_ble_eq_true rfl) (Nat.le_of_ble_eq_true rfl) (zGo.v ?_)
      refine e_iload (pc := 57) d_B_fill_57 rfl ?_
      refine e_if_eq (pc := 59) (tgt := 66) d_B_fill_59 (by decide) (fun _ => ?_) (fun h9 => absurd (by decide) h9)
      refine e_iconst (pc := 66) (v := 1) d_B_fill_66 (by decide) ?_
      refine e_iload (pc := 67) d_B_fill_67 rfl ?_
      refine e_aload_n (pc := 69) d_B_fill_69 rfl ?_
      refine e_get (pc := 70) s_B_fill_70 (rQ hc) rfl ?_
      refine e_cV3 (pc := 73) s_B_fill_73 (sA_take hc (Nat.mod_lt _ (by decide))) (rL hc (Nat.mod_lt _ (by decide))) rfl rfl (Nat.le_of_ble_eq_true rfl) (Nat.le_of_ble_eq_true rfl) (Nat.le_of_ble_eq_true rfl) (zGo.n ?_)
      refine e_aload_n (pc := 76) d_B_fill_76 rfl ?_
      refine e_cV0 (pc := 77) s_B_fill_77 (sA_forget hc) (rQ hc) rfl rfl (Nat.le_of_ble_eq_true rfl) (Nat.le_of_ble_eq_true rfl) (Nat.le_of_ble_eq_true rfl) (zGo.n ?_)
      refine e_iconst (pc := 80) (v := 1) d_B_fill_80 (by decide) ?_
      exact e_iret (pc := 81) d_B_fill_81 rfl rfl (Nat.le_of_ble_eq_true rfl) (Nat.le_of_ble_eq_true rfl) (by rw [show flS S c k = _ from congrArg (fun z => su (su (su (su (su S 9 c (k % 2) z) 10 c (k % 2) (nI k)) 11 c (k % 2) (S 15 c 0)) 12 c 0 0) 14 c 0 0) (show flT S c k = _ from if_neg (fun q => q.elim h3 (fun z => z h4)))])
    · replace h4 := b0.mp h4
      refine e_iconst (pc := 44) (v := 1) d_B_fill_44 (by decide) ?_
      refine e_goto (pc := 45) (tgt := 49) d_B_fill_45 (by decide) ?_
      refine e_istore (pc := 49) d_B_fill_49 (Nat.le_of_ble_eq_true rfl) ?_
      dsimp only [List.set]
      refine e_aload_n (pc := 51) d_B_fill_51 rfl ?_
      refine e_iload (pc := 52) d_B_fill_52 rfl ?_
      refine e_cV1 (pc := 54) s_B_fill_54 (sA_lineFor hc hk) (rC hc) rfl rfl (Nat.le_of_ble_eq_true rfl) (Nat.le_of_ble_eq_true rfl) (Nat.le_of_ble_eq_true rfl) (zGo.v ?_)
      refine e_iload (pc := 57) d_B_fill_57 rfl ?_
      refine e_if_eq (pc := 59) (tgt := 66) d_B_fill_59 (by decide) (fun h9 => absurd h9 (by decide)) (fun _ => ?_)
      refine e_iconst (pc := 62) (v := 2) d_B_fill_62 (by decide) ?_
      refine e_goto (pc := 63) (tgt := 67) d_B_fill_63 (by decide) ?_
      refine e_iload (pc := 67) d_B_fill_67 rfl ?_
      refine e_aload_n (pc := 69) d_B_fill_69 rfl ?_
      refine e_get (pc := 70) s_B_fill_70 (rQ hc) rfl ?_
      refine e_cV3 (pc := 73) s_B_fill_73 (sA_take hc (Nat.mod_lt _ (by decide))) (rL hc (Nat.mod_lt _ (by decide))) rfl rfl (Nat.le_of_ble_eq_true rfl) (Nat.le_of_ble_eq_true rfl) (Nat.le_of_ble_eq_true rfl) (zGo.n ?_)
      refine e_aload_n (pc := 76) d_B_fill_76 rfl ?_
      refine e_cV0 (pc := 77) s_B_fill_77 (sA_forget hc) (rQ hc) rfl rfl (Nat.le_of_ble_eq_true rfl) (Nat.le_of_ble_eq_true rfl) (Nat.le_of_ble_eq_true rfl) (zGo.n ?_)
      refine e_iconst (pc := 80) (v := 1) d_B_fill_80 (by decide) ?_
      exact e_iret (pc := 81) d_B_fill_81 rfl rfl (Nat.le_of_ble_eq_true rfl) (Nat.le_of_ble_eq_true rfl) (by rw [show flS S c k = _ from congrArg (fun z => su (su (su (su (su S 9 c (k % 2) z) 10 c (k % 2) (nI k)) 11 c (k % 2) (S 15 c 0)) 12 c 0 0) 14 c 0 0) (show flT S c k = _ from if_pos (Or.inr h4))])
set_option maxHeartbeats 4000000 in
set_option maxRecDepth 100000 in
theorem sA_registerX {l : Launch} {G : zGP} {K : Nat} {S T : St} {th : Int32} {fo : Nat → Int64} {c : Nat} (hc : c < 3) {r : Int32} (hr : ¬ (0 ≤ r ∧ r < 4)) : Rn l G m_B_register [.ref 0, .int (nI c), .int r] (hpA K S T th fo) (.inr "java/lang/IllegalArgumentException", (hpA K S T th fo)) := by
  refine Rn.of (by decide) rfl rfl (Nat.le_of_ble_eq_true rfl) rfl ?_
  show Ev l G m_B_register 0 [.ref 0, .int (nI c), .int r, .double 0] [] (hpA K S T th fo) 0 0 _
  refine e_aload_n (pc := 0) d_B_register_0 rfl ?_
  refine e_iload_n (pc := 1) d_B_register_1 rfl ?_
  refine e_cV1 (pc := 2) s_B_register_2 (sA_coreAt hc) rfl rfl rfl (Nat.le_of_ble_eq_true rfl) (Nat.le_of_ble_eq_true rfl) (Nat.le_of_ble_eq_true rfl) (zGo.v ?_)
  refine e_astore_n (pc := 5) d_B_register_5 (Nat.le_of_ble_eq_true rfl) ?_
  dsimp only [List.set]
  refine e_iload_n (pc := 6) d_B_register_6 rfl ?_
  refine e_cS1 (pc := 7) s_B_register_7 (sp_isRegister) (Nat.le_of_ble_eq_true rfl) (Nat.le_of_ble_eq_true rfl) (Nat.le_of_ble_eq_true rfl) (zGo.v ?_)
  refine e_topi (y := 0) (if_neg hr) ?_
  refine e_if_ne (pc := 10) (tgt := 23) d_B_register_10 (by decide) (fun h9 => absurd (rfl) h9) (fun _ => ?_)
  exact e_thr (pc := 13) s_B_register_13 (Nat.le_of_ble_eq_true rfl) (Nat.le_of_ble_eq_true rfl) (Nat.le_of_ble_eq_true rfl) rfl
set_option maxHeartbeats 4000000 in
set_option maxRecDepth 100000 in
theorem sA_register {l : Launch} {G : zGP} {K : Nat} {S T : St} {th : Int32} {fo : Nat → Int64} {c : Nat} (hc : c < 3) {r : Nat} (hr : r < 4) : Rn l G m_B_register [.ref 0, .int (nI c), .int (nI r)] (hpA K S T th fo) (.inl (some (.int (S 0 c r))), (hpA K S T th fo)) := by
  refine Rn.of (by decide) rfl rfl (Nat.le_of_ble_eq_true rfl) rfl ?_
  show Ev l G m_B_register 0 [.ref 0, .int (nI c), .int (nI r), .double 0] [] (hpA K S T th fo) 0 0 _
  refine e_aload_n (pc := 0) d_B_register_0 rfl ?_
  refine e_iload_n (pc := 1) d_B_register_1 rfl ?_
  refine e_cV1 (pc := 2) s_B_register_2 (sA_coreAt hc) rfl rfl rfl (Nat.le_of_ble_eq_true rfl) (Nat.le_of_ble_eq_true rfl) (Nat.le_of_ble_eq_true rfl) (zGo.v ?_)
  refine e_astore_n (pc := 5) d_B_register_5 (Nat.le_of_ble_eq_true rfl) ?_
  dsimp only [List.set]
  refine e_iload_n (pc := 6) d_B_register_6 rfl ?_
  refine e_cS1 (pc := 7) s_B_register_7 (sp_isRegister) (Nat.le_of_ble_eq_true rfl) (Nat.le_of_ble_eq_true rfl) (Nat.le_of_ble_eq_true rfl) (zGo.v ?_)
  refine e_topi (y := 1) (if_pos ⟨nI_pos' (by omega), nI_lt (b := 4) hr (by decide)⟩) ?_
  refine e_if_ne (pc := 10) (tgt := 23) d_B_register_10 (by decide) (fun _ => ?_) (fun h9 => absurd h9 (by decide))
  refine e_aload_n (pc := 23) d_B_register_23 rfl ?_
  refine e_get (pc := 24) s_B_register_24 (rC hc) rfl ?_
  refine e_iload_n (pc := 27) d_B_register_27 rfl ?_
  refine e_iald (pc := 28) d_B_register_28 (rRg hc) (vp_in_nI hr (by decide)) (ixf (nI_clamp (by omega))) ?_
  exact e_iret (pc := 29) d_B_register_29 rfl rfl (Nat.le_of_ble_eq_true rfl) (Nat.le_of_ble_eq_true rfl) rfl
set_option maxHeartbeats 4000000 in
set_option maxRecDepth 100000 in
theorem sA_place {l : Launch} {G : zGP} {K : Nat} {S T : St} {th : Int32} {fo : Nat → Int64} {c : Nat} (hc : c < 3) : Rn l G m_B_place [.ref 0, .int (nI c)] (hpA K S T th fo) (.inl (some (.int (S 5 c 0))), (hpA K S T th fo)) := by
  refine Rn.of (by decide) rfl rfl (Nat.le_of_ble_eq_true rfl) rfl ?_
  show Ev l G m_B_place 0 [.ref 0, .int (nI c)] [] (hpA K S T th fo) 0 0 _
  refine e_aload_n (pc := 0) d_B_place_0 rfl ?_
  refine e_iload_n (pc := 1) d_B_place_1 rfl ?_
  refine e_cV1 (pc := 2) s_B_place_2 (sA_coreAt hc) rfl rfl rfl (Nat.le_of_ble_eq_true rfl) (Nat.le_of_ble_eq_true rfl) (Nat.le_of_ble_eq_true rfl) (zGo.v ?_)
  refine e_get (pc := 5) s_B_place_5 (rC hc) rfl ?_
  exact e_iret (pc := 8) d_B_place_8 rfl rfl (Nat.le_of_ble_eq_true rfl) (Nat.le_of_ble_eq_true rfl) rfl
set_option maxHeartbeats 4000000 in
set_option maxRecDepth 100000 in
theorem sA_buffered {l : Launch} {G : zGP} {K : Nat} {S T : St} {th : Int32} {fo : Nat → Int64} {c : Nat} (hc : c < 3) : Rn l G m_B_buffered [.ref 0, .int (nI c)] (hpA K S T th fo) (.inl (some (.int (S 6 c 0))), (hpA K S T th fo)) := by
  refine Rn.of (by decide) rfl rfl (Nat.le_of_ble_eq_true rfl) rfl ?_
  show Ev l G m_B_buffered 0 [.ref 0, .int (nI c)] [] (hpA K S T th fo) 0 0 _
  refine e_aload_n (pc := 0) d_B_buffered_0 rfl ?_
  refine e_iload_n (pc := 1) d_B_buffered_1 rfl ?_
  refine e_cV1 (pc := 2) s_B_buffered_2 (sA_coreAt hc) rfl rfl rfl (Nat.le_of_ble_eq_true rfl) (Nat.le_of_ble_eq_true rfl) (Nat.le_of_ble_eq_true rfl) (zGo.v ?_)
  refine e_get (pc := 5) s_B_buffered_5 (rC hc) rfl ?_
  refine e_get (pc := 8) s_B_buffered_8 (rB hc) rfl ?_
  exact e_iret (pc := 11) d_B_buffered_11 rfl rfl (Nat.le_of_ble_eq_true rfl) (Nat.le_of_ble_eq_true rfl) rfl
set_option maxHeartbeats 4000000 in
set_option maxRecDepth 100000 in
theorem sA_requireStore {l : Launch} {G : zGP} {K : Nat} {S T : St} {th : Int32} {fo : Nat → Int64} {c n q : Nat} (hc : c < 3) (hq : q < n) (hn : n ≤ 4) (h6 : S 6 c 0 = nI n) : Rn l G m_B_requireStore [.ref (pC c + 8), .int (nI q)] (hpA K S T th fo) (.inl none, (hpA K S T th fo)) := by
  refine Rn.of (by decide) rfl rfl (Nat.le_of_ble_eq_true rfl) rfl ?_
  show Ev l G m_B_requireStore 0 [.ref (pC c + 8), .int (nI q)] [] (hpA K S T th fo) 0 0 _
  refine e_iload_n (pc := 0) d_B_requireStore_0 rfl ?_
  refine e_if_lt (pc := 1) (tgt := 12) d_B_requireStore_1 (by decide) (fun h9 => absurd h9 (nI_pos (by omega))) (fun _ => ?_)
  refine e_iload_n (pc := 4) d_B_requireStore_4 rfl ?_
  refine e_aload_n (pc := 5) d_B_requireStore_5 rfl ?_
  refine e_get (pc := 6) s_B_requireStore_6 (rB hc) rfl ?_
  refine e_icmp_lt (pc := 9) (tgt := 22) d_B_requireStore_9 (by decide) (fun _ => ?_) (fun h9 => absurd (by rw [h6]; exact nI_lt hq (by omega)) h9)
  exact e_vret (pc := 22) d_B_requireStore_22 rfl (Nat.le_of_ble_eq_true rfl) (Nat.le_of_ble_eq_true rfl) rfl
set_option maxHeartbeats 4000000 in
set_option maxRecDepth 100000 in
theorem sX_requireStore {l : Launch} {G : zGP} {K : Nat} {S T : St} {th : Int32} {fo : Nat → Int64} {c : Nat} {i : Int32} (hc : c < 3) (hi : ¬ (0 ≤ i ∧ i < S 6 c 0)) : Rn l G m_B_requireStore [.ref (pC c + 8), .int i] (hpA K S T th fo) (.inr "java/util/NoSuchElementException", (hpA K S T th fo)) := by
  refine Rn.of (by decide) rfl rfl (Nat.le_of_ble_eq_true rfl) rfl ?_
  show Ev l G m_B_requireStore 0 [.ref (pC c + 8), .int i] [] (hpA K S T th fo) 0 0 _
  refine e_iload_n (pc := 0) d_B_requireStore_0 rfl ?_
  refine e_if_lt (pc := 1) (tgt := 12) d_B_requireStore_1 (by decide) (fun h5 => ?_) (fun h5 => ?_)
  · exact e_thrX (pc := 12) s_B_requireStore_12 (Nat.le_of_ble_eq_true rfl) (Nat.le_of_ble_eq_true rfl) (Nat.le_of_ble_eq_true rfl) rfl
  · refine e_iload_n (pc := 4) d_B_requireStore_4 rfl ?_
    refine e_aload_n (pc := 5) d_B_requireStore_5 rfl ?_
    refine e_get (pc := 6) s_B_requireStore_6 (rB hc) rfl ?_
    refine e_icmp_lt (pc := 9) (tgt := 22) d_B_requireStore_9 (by decide) (fun h6 => ?_) (fun h6 => ?_)
    · exact absurd ⟨Int32.not_lt.mp (by assumption), by assumption⟩ hi
    · exact e_thrX (pc := 12) s_B_requireStore_12 (Nat.le_of_ble_eq_true rfl) (Nat.le_of_ble_eq_true rfl) (Nat.le_of_ble_eq_true rfl) rfl
set_option maxHeartbeats 4000000 in
set_option maxRecDepth 100000 in
theorem sA_storeAddressX {l : Launch} {G : zGP} {K : Nat} {S T : St} {th : Int32} {fo : Nat → Int64} {c : Nat} (hc : c < 3) {i : Int32} (hi : ¬ (0 ≤ i ∧ i < S 6 c 0)) : Rn l G m_B_storeAddress [.ref 0, .int (nI c), .int i] (hpA K S T th fo) (.inr "java/util/NoSuchElementException", (hpA K S T th fo)) := by
  refine Rn.of (by decide) rfl rfl (Nat.le_of_ble_eq_true rfl) rfl ?_
  show Ev l G m_B_storeAddress 0 [.ref 0, .int (nI c), .int i, .double 0] [] (hpA K S T th fo) 0 0 _
  refine e_aload_n (pc := 0) d_B_storeAddress_0 rfl ?_
  refine e_iload_n (pc := 1) d_B_storeAddress_1 rfl ?_
  refine e_cV1 (pc := 2) s_B_storeAddress_2 (sA_coreAt hc) rfl rfl rfl (Nat.le_of_ble_eq_true rfl) (Nat.le_of_ble_eq_true rfl) (Nat.le_of_ble_eq_true rfl) (zGo.v ?_)
  refine e_get (pc := 5) s_B_storeAddress_5 (rC hc) rfl ?_
  refine e_astore_n (pc := 8) d_B_storeAddress_8 (Nat.le_of_ble_eq_true rfl) ?_
  dsimp only [List.set]
  refine e_aload_n (pc := 9) d_B_storeAddress_9 rfl ?_
  refine e_iload_n (pc := 10) d_B_storeAddress_10 rfl ?_
  exact e_cS2 (pc := 11) s_B_storeAddress_11 (sX_requireStore hc hi) (Nat.le_of_ble_eq_true rfl) (Nat.le_of_ble_eq_true rfl) (Nat.le_of_ble_eq_true rfl) (zGo.t rfl (Nat.le_of_ble_eq_true rfl) (Nat.le_of_ble_eq_true rfl) rfl)
set_option maxHeartbeats 4000000 in
set_option maxRecDepth 100000 in
theorem sA_storeAddress {l : Launch} {G : zGP} {K : Nat} {S T : St} {th : Int32} {fo : Nat → Int64} {c n q : Nat} (hc : c < 3) (hq : q < n) (hn : n ≤ K) (hK4 : K ≤ 4) (h6 : S 6 c 0 = nI n) : Rn l G m_B_storeAddress [.ref 0, .int (nI c), .int (nI q)] (hpA K S T th fo) (.inl (some (.int (S 7 c q))), (hpA K S T th fo)) := by
  refine Rn.of (by decide) rfl rfl (Nat.le_of_ble_eq_true rfl) rfl ?_
  show Ev l G m_B_storeAddress 0 [.ref 0, .int (nI c), .int (nI q), .double 0] [] (hpA K S T th fo) 0 0 _
  refine e_aload_n (pc := 0) d_B_storeAddress_0 rfl ?_
  refine e_iload_n (pc := 1) d_B_storeAddress_1 rfl ?_
  refine e_cV1 (pc := 2) s_B_storeAddress_2 (sA_coreAt hc) rfl rfl rfl (Nat.le_of_ble_eq_true rfl) (Nat.le_of_ble_eq_true rfl) (Nat.le_of_ble_eq_true rfl) (zGo.v ?_)
  refine e_get (pc := 5) s_B_storeAddress_5 (rC hc) rfl ?_
  refine e_astore_n (pc := 8) d_B_storeAddress_8 (Nat.le_of_ble_eq_true rfl) ?_
  dsimp only [List.set]
  refine e_aload_n (pc := 9) d_B_storeAddress_9 rfl ?_
  refine e_iload_n (pc := 10) d_B_storeAddress_10 rfl ?_
  refine e_cS2 (pc := 11) s_B_storeAddress_11 (sA_requireStore hc hq (by omega) h6) (Nat.le_of_ble_eq_true rfl) (Nat.le_of_ble_eq_true rfl) (Nat.le_of_ble_eq_true rfl) (zGo.n ?_)
  refine e_aload_n (pc := 14) d_B_storeAddress_14 rfl ?_
  refine e_get (pc := 15) s_B_storeAddress_15 (rB hc) rfl ?_
  refine e_iload_n (pc := 18) d_B_storeAddress_18 rfl ?_
  refine e_iald (pc := 19) d_B_storeAddress_19 (rBa hc) (vp_in_nI (by omega) (by omega)) (ixf (nI_clamp (by omega))) ?_
  exact e_iret (pc := 20) d_B_storeAddress_20 rfl rfl (Nat.le_of_ble_eq_true rfl) (Nat.le_of_ble_eq_true rfl) rfl
set_option maxHeartbeats 4000000 in
set_option maxRecDepth 100000 in
theorem sA_storeValueX {l : Launch} {G : zGP} {K : Nat} {S T : St} {th : Int32} {fo : Nat → Int64} {c : Nat} (hc : c < 3) {i : Int32} (hi : ¬ (0 ≤ i ∧ i < S 6 c 0)) : Rn l G m_B_storeValue [.ref 0, .int (nI c), .int i] (hpA K S T th fo) (.inr "java/util/NoSuchElementException", (hpA K S T th fo)) := by
  refine Rn.of (by decide) rfl rfl (Nat.le_of_ble_eq_true rfl) rfl ?_
  show Ev l G m_B_storeValue 0 [.ref 0, .int (nI c), .int i, .double 0] [] (hpA K S T th fo) 0 0 _
  refine e_aload_n (pc := 0) d_B_storeValue_0 rfl ?_
  refine e_iload_n (pc := 1) d_B_storeValue_1 rfl ?_
  refine e_cV1 (pc := 2) s_B_storeValue_2 (sA_coreAt hc) rfl rfl rfl (Nat.le_of_ble_eq_true rfl) (Nat.le_of_ble_eq_true rfl) (Nat.le_of_ble_eq_true rfl) (zGo.v ?_)
  refine e_get (pc := 5) s_B_storeValue_5 (rC hc) rfl ?_
  refine e_astore_n (pc := 8) d_B_storeValue_8 (Nat.le_of_ble_eq_true rfl) ?_
  dsimp only [List.set]
  refine e_aload_n (pc := 9) d_B_storeValue_9 rfl ?_
  refine e_iload_n (pc := 10) d_B_storeValue_10 rfl ?_
  exact e_cS2 (pc := 11) s_B_storeValue_11 (sX_requireStore hc hi) (Nat.le_of_ble_eq_true rfl) (Nat.le_of_ble_eq_true rfl) (Nat.le_of_ble_eq_true rfl) (zGo.t rfl (Nat.le_of_ble_eq_true rfl) (Nat.le_of_ble_eq_true rfl) rfl)
set_option maxHeartbeats 4000000 in
set_option maxRecDepth 100000 in
theorem sA_storeValue {l : Launch} {G : zGP} {K : Nat} {S T : St} {th : Int32} {fo : Nat → Int64} {c n q : Nat} (hc : c < 3) (hq : q < n) (hn : n ≤ K) (hK4 : K ≤ 4) (h6 : S 6 c 0 = nI n) : Rn l G m_B_storeValue [.ref 0, .int (nI c), .int (nI q)] (hpA K S T th fo) (.inl (some (.int (S 8 c q))), (hpA K S T th fo)) := by
  refine Rn.of (by decide) rfl rfl (Nat.le_of_ble_eq_true rfl) rfl ?_
  show Ev l G m_B_storeValue 0 [.ref 0, .int (nI c), .int (nI q), .double 0] [] (hpA K S T th fo) 0 0 _
  refine e_aload_n (pc := 0) d_B_storeValue_0 rfl ?_
  refine e_iload_n (pc := 1) d_B_storeValue_1 rfl ?_
  refine e_cV1 (pc := 2) s_B_storeValue_2 (sA_coreAt hc) rfl rfl rfl (Nat.le_of_ble_eq_true rfl) (Nat.le_of_ble_eq_true rfl) (Nat.le_of_ble_eq_true rfl) (zGo.v ?_)
  refine e_get (pc := 5) s_B_storeValue_5 (rC hc) rfl ?_
  refine e_astore_n (pc := 8) d_B_storeValue_8 (Nat.le_of_ble_eq_true rfl) ?_
  dsimp only [List.set]
  refine e_aload_n (pc := 9) d_B_storeValue_9 rfl ?_
  refine e_iload_n (pc := 10) d_B_storeValue_10 rfl ?_
  refine e_cS2 (pc := 11) s_B_storeValue_11 (sA_requireStore hc hq (by omega) h6) (Nat.le_of_ble_eq_true rfl) (Nat.le_of_ble_eq_true rfl) (Nat.le_of_ble_eq_true rfl) (zGo.n ?_)
  refine e_aload_n (pc := 14) d_B_storeValue_14 rfl ?_
  refine e_get (pc := 15) s_B_storeValue_15 (rB hc) rfl ?_
  refine e_iload_n (pc := 18) d_B_storeValue_18 rfl ?_
  refine e_iald (pc := 19) d_B_storeValue_19 (rBv hc) (vp_in_nI (by omega) (by omega)) (ixf (nI_clamp (by omega))) ?_
  exact e_iret (pc := 20) d_B_storeValue_20 rfl rfl (Nat.le_of_ble_eq_true rfl) (Nat.le_of_ble_eq_true rfl) rfl
set_option maxHeartbeats 4000000 in
set_option maxRecDepth 100000 in
theorem sA_lineX {l : Launch} {G : zGP} {K : Nat} {S T : St} {th : Int32} {fo : Nat → Int64} {c : Nat} (hc : c < 3) {i : Int32} (hi : ¬ (0 ≤ i ∧ i < 2)) : Rn l G m_B_line [.ref 0, .int (nI c), .int i] (hpA K S T th fo) (.inr "java/lang/IllegalArgumentException", (hpA K S T th fo)) := by
  refine Rn.of (by decide) rfl rfl (Nat.le_of_ble_eq_true rfl) rfl ?_
  show Ev l G m_B_line 0 [.ref 0, .int (nI c), .int i, .double 0, .double 0] [] (hpA K S T th fo) 0 0 _
  refine e_aload_n (pc := 0) d_B_line_0 rfl ?_
  refine e_iload_n (pc := 1) d_B_line_1 rfl ?_
  refine e_cV1 (pc := 2) s_B_line_2 (sA_coreAt hc) rfl rfl rfl (Nat.le_of_ble_eq_true rfl) (Nat.le_of_ble_eq_true rfl) (Nat.le_of_ble_eq_true rfl) (zGo.v ?_)
  refine e_astore_n (pc := 5) d_B_line_5 (Nat.le_of_ble_eq_true rfl) ?_
  dsimp only [List.set]
  refine e_iload_n (pc := 6) d_B_line_6 rfl ?_
  refine e_if_lt (pc := 7) (tgt := 15) d_B_line_7 (by decide) (fun h7 => ?_) (fun h7 => ?_)
  · exact e_thr (pc := 15) s_B_line_15 (Nat.le_of_ble_eq_true rfl) (Nat.le_of_ble_eq_true rfl) (Nat.le_of_ble_eq_true rfl) rfl
  · refine e_iload_n (pc := 10) d_B_line_10 rfl ?_
    refine e_iconst (pc := 11) (v := 2) d_B_line_11 (by decide) ?_
    refine e_icmp_lt (pc := 12) (tgt := 25) d_B_line_12 (by decide) (fun h8 => ?_) (fun h8 => ?_)
    · exact absurd ⟨Int32.not_lt.mp (by assumption), by assumption⟩ hi
    · exact e_thr (pc := 15) s_B_line_15 (Nat.le_of_ble_eq_true rfl) (Nat.le_of_ble_eq_true rfl) (Nat.le_of_ble_eq_true rfl) rfl
set_option maxHeartbeats 4000000 in
set_option maxRecDepth 100000 in
theorem sA_line {l : Launch} {G : zGP} {K : Nat} {S T : St} {th : Int32} {fo : Nat → Int64} {c j : Nat} (hc : c < 3) (hj : j < 2) : Rn l G m_B_line [.ref 0, .int (nI c), .int (nI j)] (hpA K S T th fo) (.inl (some (.int (lnV S c j))), (hpA K S T th fo)) := by
  refine Rn.of (by decide) rfl rfl (Nat.le_of_ble_eq_true rfl) rfl ?_
  show Ev l G m_B_line 0 [.ref 0, .int (nI c), .int (nI j), .double 0, .double 0] [] (hpA K S T th fo) 0 0 _
  refine e_aload_n (pc := 0) d_B_line_0 rfl ?_
  refine e_iload_n (pc := 1) d_B_line_1 rfl ?_
  refine e_cV1 (pc := 2) s_B_line_2 (sA_coreAt hc) rfl rfl rfl (Nat.le_of_ble_eq_true rfl) (Nat.le_of_ble_eq_true rfl) (Nat.le_of_ble_eq_true rfl) (zGo.v ?_)
  refine e_astore_n (pc := 5) d_B_line_5 (Nat.le_of_ble_eq_true rfl) ?_
  dsimp only [List.set]
  refine e_iload_n (pc := 6) d_B_line_6 rfl ?_
  refine e_if_lt (pc := 7) (tgt := 15) d_B_line_7 (by decide) (fun h9 => absurd h9 (nI_pos (by omega))) (fun _ => ?_)
  refine e_iload_n (pc := 10) d_B_line_10 rfl ?_
  refine e_iconst (pc := 11) (v := 2) d_B_line_11 (by decide) ?_
  refine e_icmp_lt (pc := 12) (tgt := 25) d_B_line_12 (by decide) (fun _ => ?_) (fun h9 => absurd (nI_lt (b := 2) hj (by decide)) h9)
  refine e_aload_n (pc := 25) d_B_line_25 rfl ?_
  refine e_get (pc := 26) s_B_line_26 (rC hc) rfl ?_
  refine e_iload_n (pc := 29) d_B_line_29 rfl ?_
  refine e_aald (pc := 30) d_B_line_30 (rLs hc) rfl (vp_in_nI hj (by decide)) (ixg (nI_clamp (by omega)) (lnR_at hj)) ?_
  refine e_astore (pc := 31) d_B_line_31 (Nat.le_of_ble_eq_true rfl) ?_
  dsimp only [List.set]
  refine e_aload (pc := 33) d_B_line_33 rfl ?_
  refine e_get (pc := 35) s_B_line_35 (rL hc hj) rfl ?_
  refine e_if_ne (pc := 38) (tgt := 45) d_B_line_38 (by decide) (fun h9 => ?_) (fun h9 => ?_)
  · refine e_aload (pc := 45) d_B_line_45 rfl ?_
    refine e_get (pc := 47) s_B_line_47 (rL hc hj) rfl ?_
    refine e_iconst (pc := 50) (v := 4) d_B_line_50 (by decide) ?_
    refine e_aload (pc := 51) d_B_line_51 rfl ?_
    refine e_get (pc := 53) s_B_line_53 (rL hc hj) rfl ?_
    refine e_imul (pc := 56) d_B_line_56 ?_
    refine e_iadd (pc := 57) d_B_line_57 ?_
    exact e_iret (pc := 58) d_B_line_58 rfl rfl (Nat.le_of_ble_eq_true rfl) (Nat.le_of_ble_eq_true rfl) (zR (by simp [lnV, h9]))
  · refine e_iconst (pc := 41) (v := 0) d_B_line_41 (by decide) ?_
    refine e_goto (pc := 42) (tgt := 58) d_B_line_42 (by decide) ?_
    exact e_iret (pc := 58) d_B_line_58 rfl rfl (Nat.le_of_ble_eq_true rfl) (Nat.le_of_ble_eq_true rfl) (zR (by simp [lnV, h9]))
set_option maxHeartbeats 4000000 in
set_option maxRecDepth 100000 in
theorem sA_cachedX1 {l : Launch} {G : zGP} {K : Nat} {S T : St} {th : Int32} {fo : Nat → Int64} {c : Nat} (hc : c < 3) {x : Int32} (hx : ¬ (0 ≤ x ∧ x < 8)) : Rn l G m_B_cached [.ref 0, .int (nI c), .int x] (hpA K S T th fo) (.inr "java/lang/IllegalArgumentException", (hpA K S T th fo)) := by
  refine Rn.of (by decide) rfl rfl (Nat.le_of_ble_eq_true rfl) rfl ?_
  show Ev l G m_B_cached 0 [.ref 0, .int (nI c), .int x, .double 0, .double 0] [] (hpA K S T th fo) 0 0 _
  refine e_aload_n (pc := 0) d_B_cached_0 rfl ?_
  refine e_iload_n (pc := 1) d_B_cached_1 rfl ?_
  refine e_cV1 (pc := 2) s_B_cached_2 (sA_coreAt hc) rfl rfl rfl (Nat.le_of_ble_eq_true rfl) (Nat.le_of_ble_eq_true rfl) (Nat.le_of_ble_eq_true rfl) (zGo.v ?_)
  refine e_astore_n (pc := 5) d_B_cached_5 (Nat.le_of_ble_eq_true rfl) ?_
  dsimp only [List.set]
  refine e_iload_n (pc := 6) d_B_cached_6 rfl ?_
  exact e_cS1 (pc := 7) s_B_cached_7 (sX_requireAddress hx) (Nat.le_of_ble_eq_true rfl) (Nat.le_of_ble_eq_true rfl) (Nat.le_of_ble_eq_true rfl) (zGo.t rfl (Nat.le_of_ble_eq_true rfl) (Nat.le_of_ble_eq_true rfl) rfl)
set_option maxHeartbeats 4000000 in
set_option maxRecDepth 100000 in
theorem sA_cachedX2 {l : Launch} {G : zGP} {K : Nat} {S T : St} {th : Int32} {fo : Nat → Int64} {c k : Nat} (hc : c < 3) (hk : k < 8) (hh : ¬ hasS S c k) : Rn l G m_B_cached [.ref 0, .int (nI c), .int (nI k)] (hpA K S T th fo) (.inr "java/util/NoSuchElementException", (hpA K S T th fo)) := by
  refine Rn.of (by decide) rfl rfl (Nat.le_of_ble_eq_true rfl) rfl ?_
  show Ev l G m_B_cached 0 [.ref 0, .int (nI c), .int (nI k), .double 0, .double 0] [] (hpA K S T th fo) 0 0 _
  refine e_aload_n (pc := 0) d_B_cached_0 rfl ?_
  refine e_iload_n (pc := 1) d_B_cached_1 rfl ?_
  refine e_cV1 (pc := 2) s_B_cached_2 (sA_coreAt hc) rfl rfl rfl (Nat.le_of_ble_eq_true rfl) (Nat.le_of_ble_eq_true rfl) (Nat.le_of_ble_eq_true rfl) (zGo.v ?_)
  refine e_astore_n (pc := 5) d_B_cached_5 (Nat.le_of_ble_eq_true rfl) ?_
  dsimp only [List.set]
  refine e_iload_n (pc := 6) d_B_cached_6 rfl ?_
  refine e_cS1 (pc := 7) s_B_cached_7 (sA_requireAddress hk) (Nat.le_of_ble_eq_true rfl) (Nat.le_of_ble_eq_true rfl) (Nat.le_of_ble_eq_true rfl) (zGo.n ?_)
  refine e_aload_n (pc := 10) d_B_cached_10 rfl ?_
  refine e_iload_n (pc := 11) d_B_cached_11 rfl ?_
  refine e_cV1 (pc := 12) s_B_cached_12 (sA_lineFor hc hk) (rC hc) rfl rfl (Nat.le_of_ble_eq_true rfl) (Nat.le_of_ble_eq_true rfl) (Nat.le_of_ble_eq_true rfl) (zGo.v ?_)
  refine e_astore (pc := 15) d_B_cached_15 (Nat.le_of_ble_eq_true rfl) ?_
  dsimp only [List.set]
  refine e_aload (pc := 17) d_B_cached_17 rfl ?_
  refine e_iload_n (pc := 19) d_B_cached_19 rfl ?_
  refine e_cV1 (pc := 20) s_B_cached_20 (sA_has hc (Nat.mod_lt _ (by decide))) (rL hc (Nat.mod_lt _ (by decide))) rfl rfl (Nat.le_of_ble_eq_true rfl) (Nat.le_of_ble_eq_true rfl) (Nat.le_of_ble_eq_true rfl) (zGo.v ?_)
  refine e_topi (y := 0) (if_neg hh) ?_
  refine e_if_ne (pc := 23) (tgt := 36) d_B_cached_23 (by decide) (fun h9 => absurd (rfl) h9) (fun _ => ?_)
  exact e_thrX (pc := 26) s_B_cached_26 (Nat.le_of_ble_eq_true rfl) (Nat.le_of_ble_eq_true rfl) (Nat.le_of_ble_eq_true rfl) rfl
set_option maxHeartbeats 4000000 in
set_option maxRecDepth 100000 in
theorem sA_cached {l : Launch} {G : zGP} {K : Nat} {S T : St} {th : Int32} {fo : Nat → Int64} {c k : Nat} (hc : c < 3) (hk : k < 8) (hh : hasS S c k) : Rn l G m_B_cached [.ref 0, .int (nI c), .int (nI k)] (hpA K S T th fo) (.inl (some (.int (S 11 c (k % 2)))), (hpA K S T th fo)) := by
  refine Rn.of (by decide) rfl rfl (Nat.le_of_ble_eq_true rfl) rfl ?_
  show Ev l G m_B_cached 0 [.ref 0, .int (nI c), .int (nI k), .double 0, .double 0] [] (hpA K S T th fo) 0 0 _
  refine e_aload_n (pc := 0) d_B_cached_0 rfl ?_
  refine e_iload_n (pc := 1) d_B_cached_1 rfl ?_
  refine e_cV1 (pc := 2) s_B_cached_2 (sA_coreAt hc) rfl rfl rfl (Nat.le_of_ble_eq_true rfl) (Nat.le_of_ble_eq_true rfl) (Nat.le_of_ble_eq_true rfl) (zGo.v ?_)
  refine e_astore_n (pc := 5) d_B_cached_5 (Nat.le_of_ble_eq_true rfl) ?_
  dsimp only [List.set]
  refine e_iload_n (pc := 6) d_B_cached_6 rfl ?_
  refine e_cS1 (pc := 7) s_B_cached_7 (sA_requireAddress hk) (Nat.le_of_ble_eq_true rfl) (Nat.le_of_ble_eq_true rfl) (Nat.le_of_ble_eq_true rfl) (zGo.n ?_)
  refine e_aload_n (pc := 10) d_B_cached_10 rfl ?_
  refine e_iload_n (pc := 11) d_B_cached_11 rfl ?_
  refine e_cV1 (pc := 12) s_B_cached_12 (sA_lineFor hc hk) (rC hc) rfl rfl (Nat.le_of_ble_eq_true rfl) (Nat.le_of_ble_eq_true rfl) (Nat.le_of_ble_eq_true rfl) (zGo.v ?_)
  refine e_astore (pc := 15) d_B_cached_15 (Nat.le_of_ble_eq_true rfl) ?_
  dsimp only [List.set]
  refine e_aload (pc := 17) d_B_cached_17 rfl ?_
  refine e_iload_n (pc := 19) d_B_cached_19 rfl ?_
  refine e_cV1 (pc := 20) s_B_cached_20 (sA_has hc (Nat.mod_lt _ (by decide))) (rL hc (Nat.mod_lt _ (by decide))) rfl rfl (Nat.le_of_ble_eq_true rfl) (Nat.le_of_ble_eq_true rfl) (Nat.le_of_ble_eq_true rfl) (zGo.v ?_)
  refine e_topi (y := 1) (if_pos hh) ?_
  refine e_if_ne (pc := 23) (tgt := 36) d_B_cached_23 (by decide) (fun _ => ?_) (fun h9 => absurd h9 (by decide))
  refine e_aload (pc := 36) d_B_cached_36 rfl ?_
  refine e_get (pc := 38) s_B_cached_38 (rL hc (Nat.mod_lt _ (by decide))) rfl ?_
  exact e_iret (pc := 41) d_B_cached_41 rfl rfl (Nat.le_of_ble_eq_true rfl) (Nat.le_of_ble_eq_true rfl) rfl
set_option maxHeartbeats 4000000 in
set_option maxRecDepth 100000 in
theorem sA_request {l : Launch} {G : zGP} {K : Nat} {S T : St} {th : Int32} {fo : Nat → Int64} {c : Nat} (hc : c < 3) : Rn l G m_B_request [.ref 0, .int (nI c)] (hpA K S T th fo) (.inl (some (.int (rqV S c))), (hpA K S T th fo)) := by
  refine Rn.of (by decide) rfl rfl (Nat.le_of_ble_eq_true rfl) rfl ?_
  show Ev l G m_B_request 0 [.ref 0, .int (nI c), .double 0] [] (hpA K S T th fo) 0 0 _
  refine e_aload_n (pc := 0) d_B_request_0 rfl ?_
  refine e_iload_n (pc := 1) d_B_request_1 rfl ?_
  refine e_cV1 (pc := 2) s_B_request_2 (sA_coreAt hc) rfl rfl rfl (Nat.le_of_ble_eq_true rfl) (Nat.le_of_ble_eq_true rfl) (Nat.le_of_ble_eq_true rfl) (zGo.v ?_)
  refine e_get (pc := 5) s_B_request_5 (rC hc) rfl ?_
  refine e_astore_n (pc := 8) d_B_request_8 (Nat.le_of_ble_eq_true rfl) ?_
  dsimp only [List.set]
  refine e_aload_n (pc := 9) d_B_request_9 rfl ?_
  refine e_get (pc := 10) s_B_request_10 (rQ hc) rfl ?_
  refine e_if_ne (pc := 13) (tgt := 18) d_B_request_13 (by decide) (fun h10 => ?_) (fun h10 => ?_)
  · refine e_aload_n (pc := 18) d_B_request_18 rfl ?_
    refine e_get (pc := 19) s_B_request_19 (rQ hc) rfl ?_
    refine e_aload_n (pc := 22) d_B_request_22 rfl ?_
    refine e_get (pc := 23) s_B_request_23 (rQ hc) rfl ?_
    refine e_if_eq (pc := 26) (tgt := 33) d_B_request_26 (by decide) (fun h11 => ?_) (fun h11 => ?_)
    · refine e_iconst (pc := 33) (v := 0) d_B_request_33 (by decide) ?_
      refine e_iadd (pc := 34) d_B_request_34 ?_
      refine e_bipush (pc := 35) (v := 8) d_B_request_35 (by decide) ?_
      refine e_aload_n (pc := 37) d_B_request_37 rfl ?_
      refine e_get (pc := 38) s_B_request_38 (rQ hc) rfl ?_
      refine e_imul (pc := 41) d_B_request_41 ?_
      refine e_iadd (pc := 42) d_B_request_42 ?_
      exact e_iret (pc := 43) d_B_request_43 rfl rfl (Nat.le_of_ble_eq_true rfl) (Nat.le_of_ble_eq_true rfl) (zR (by simp [rqV, h10, h11]))
    · refine e_iconst (pc := 29) (v := 4) d_B_request_29 (by decide) ?_
      refine e_goto (pc := 30) (tgt := 34) d_B_request_30 (by decide) ?_
      refine e_iadd (pc := 34) d_B_request_34 ?_
      refine e_bipush (pc := 35) (v := 8) d_B_request_35 (by decide) ?_
      refine e_aload_n (pc := 37) d_B_request_37 rfl ?_
      refine e_get (pc := 38) s_B_request_38 (rQ hc) rfl ?_
      refine e_imul (pc := 41) d_B_request_41 ?_
      refine e_iadd (pc := 42) d_B_request_42 ?_
      exact e_iret (pc := 43) d_B_request_43 rfl rfl (Nat.le_of_ble_eq_true rfl) (Nat.le_of_ble_eq_true rfl) (zR (by simp [rqV, h10, h11]))
  · refine e_iconst (pc := 16) (v := 0) d_B_request_16 (by decide) ?_
    exact e_iret (pc := 17) d_B_request_17 rfl rfl (Nat.le_of_ble_eq_true rfl) (Nat.le_of_ble_eq_true rfl) (zR (by simp [rqV, h10]))
set_option maxHeartbeats 4000000 in
set_option maxRecDepth 100000 in
theorem sX_memory {l : Launch} {G : zGP} {K : Nat} {S T : St} {th : Int32} {fo : Nat → Int64} {x : Int32} (hx : ¬ (0 ≤ x ∧ x < 8)) : Rn l G m_B_memory [.ref 0, .int x] (hpA K S T th fo) (.inr "java/lang/IllegalArgumentException", (hpA K S T th fo)) := by
  refine Rn.of (by decide) rfl rfl (Nat.le_of_ble_eq_true rfl) rfl ?_
  show Ev l G m_B_memory 0 [.ref 0, .int x] [] (hpA K S T th fo) 0 0 _
  refine e_iload_n (pc := 0) d_B_memory_0 rfl ?_
  exact e_cS1 (pc := 1) s_B_memory_1 (sX_requireAddress hx) (Nat.le_of_ble_eq_true rfl) (Nat.le_of_ble_eq_true rfl) (Nat.le_of_ble_eq_true rfl) (zGo.t rfl (Nat.le_of_ble_eq_true rfl) (Nat.le_of_ble_eq_true rfl) rfl)
set_option maxHeartbeats 4000000 in
set_option maxRecDepth 100000 in
theorem sA_memory {l : Launch} {G : zGP} {K : Nat} {S T : St} {th : Int32} {fo : Nat → Int64} {k : Nat} (hk : k < 8) : Rn l G m_B_memory [.ref 0, .int (nI k)] (hpA K S T th fo) (.inl (some (.int (S 16 0 k))), (hpA K S T th fo)) := by
  refine Rn.of (by decide) rfl rfl (Nat.le_of_ble_eq_true rfl) rfl ?_
  show Ev l G m_B_memory 0 [.ref 0, .int (nI k)] [] (hpA K S T th fo) 0 0 _
  refine e_iload_n (pc := 0) d_B_memory_0 rfl ?_
  refine e_cS1 (pc := 1) s_B_memory_1 (sA_requireAddress hk) (Nat.le_of_ble_eq_true rfl) (Nat.le_of_ble_eq_true rfl) (Nat.le_of_ble_eq_true rfl) (zGo.n ?_)
  refine e_aload_n (pc := 4) d_B_memory_4 rfl ?_
  refine e_get (pc := 5) s_B_memory_5 rfl rfl ?_
  refine e_iload_n (pc := 8) d_B_memory_8 rfl ?_
  refine e_iald (pc := 9) d_B_memory_9 rfl (vp_in_nI hk (by decide)) (ixf (nI_clamp (by omega))) ?_
  exact e_iret (pc := 10) d_B_memory_10 rfl rfl (Nat.le_of_ble_eq_true rfl) (Nat.le_of_ble_eq_true rfl) rfl
set_option maxHeartbeats 4000000 in
set_option maxRecDepth 100000 in
theorem sX_word {l : Launch} {G : zGP} {K : Nat} {S T : St} {th : Int32} {fo : Nat → Int64} {x : Int32} (hx : ¬ (0 ≤ x ∧ x < 8)) : Rn l G m_B_word [.ref 0, .int x] (hpA K S T th fo) (.inr "java/lang/IllegalArgumentException", (hpA K S T th fo)) := by
  refine Rn.of (by decide) rfl rfl (Nat.le_of_ble_eq_true rfl) rfl ?_
  show Ev l G m_B_word 0 [.ref 0, .int x] [] (hpA K S T th fo) 0 0 _
  refine e_iload_n (pc := 0) d_B_word_0 rfl ?_
  exact e_cS1 (pc := 1) s_B_word_1 (sX_requireAddress hx) (Nat.le_of_ble_eq_true rfl) (Nat.le_of_ble_eq_true rfl) (Nat.le_of_ble_eq_true rfl) (zGo.t rfl (Nat.le_of_ble_eq_true rfl) (Nat.le_of_ble_eq_true rfl) rfl)
set_option maxHeartbeats 4000000 in
set_option maxRecDepth 100000 in
theorem sA_word {l : Launch} {G : zGP} {K : Nat} {S T : St} {th : Int32} {fo : Nat → Int64} {k : Nat} (hk : k < 8) : Rn l G m_B_word [.ref 0, .int (nI k)] (hpA K S T th fo) (.inl (some (.int (wdS S k))), (hpA K S T th fo)) := by
  refine Rn.of (by decide) rfl rfl (Nat.le_of_ble_eq_true rfl) rfl ?_
  show Ev l G m_B_word 0 [.ref 0, .int (nI k)] [] (hpA K S T th fo) 0 0 _
  refine e_iload_n (pc := 0) d_B_word_0 rfl ?_
  refine e_cS1 (pc := 1) s_B_word_1 (sA_requireAddress hk) (Nat.le_of_ble_eq_true rfl) (Nat.le_of_ble_eq_true rfl) (Nat.le_of_ble_eq_true rfl) (zGo.n ?_)
  refine e_aload_n (pc := 4) d_B_word_4 rfl ?_
  refine e_iload_n (pc := 5) d_B_word_5 rfl ?_
  refine e_cV1 (pc := 6) s_B_word_6 (sA_wordAt hk) rfl rfl rfl (Nat.le_of_ble_eq_true rfl) (Nat.le_of_ble_eq_true rfl) (Nat.le_of_ble_eq_true rfl) (zGo.v ?_)
  exact e_iret (pc := 9) d_B_word_9 rfl rfl (Nat.le_of_ble_eq_true rfl) (Nat.le_of_ble_eq_true rfl) rfl
set_option maxHeartbeats 4000000 in
set_option maxRecDepth 100000 in
theorem sA_events {l : Launch} {G : zGP} {K : Nat} {S T : St} {th : Int32} {fo : Nat → Int64}  : Rn l G m_B_events [.ref 0] (hpA K S T th fo) (.inl (some (.int (S 17 0 0))), (hpA K S T th fo)) := by
  refine Rn.of (by decide) rfl rfl (Nat.le_of_ble_eq_true rfl) rfl ?_
  show Ev l G m_B_events 0 [.ref 0] [] (hpA K S T th fo) 0 0 _
  refine e_aload_n (pc := 0) d_B_events_0 rfl ?_
  refine e_get (pc := 1) s_B_events_1 rfl rfl ?_
  refine e_get (pc := 4) s_B_events_4 rfl rfl ?_
  exact e_iret (pc := 7) d_B_events_7 rfl rfl (Nat.le_of_ble_eq_true rfl) (Nat.le_of_ble_eq_true rfl) rfl
set_option maxHeartbeats 4000000 in
set_option maxRecDepth 100000 in
theorem sX_requireEvent {l : Launch} {G : zGP} {K : Nat} {S T : St} {th : Int32} {fo : Nat → Int64} {i : Int32} (hi : ¬ (0 ≤ i ∧ i < S 17 0 0 ∧ S 17 0 0 - 40 ≤ i)) : Rn l G m_B_requireEvent [.ref 0, .int i] (hpA K S T th fo) (.inr "java/util/NoSuchElementException", (hpA K S T th fo)) := by
  refine Rn.of (by decide) rfl rfl (Nat.le_of_ble_eq_true rfl) rfl ?_
  show Ev l G m_B_requireEvent 0 [.ref 0, .int i] [] (hpA K S T th fo) 0 0 _
  refine e_aload_n (pc := 0) d_B_requireEvent_0 rfl ?_
  refine e_get (pc := 1) s_B_requireEvent_1 rfl rfl ?_
  refine e_iload_n (pc := 4) d_B_requireEvent_4 rfl ?_
  refine e_cV1 (pc := 5) s_B_requireEvent_5 (sA_keeps) rfl rfl rfl (Nat.le_of_ble_eq_true rfl) (Nat.le_of_ble_eq_true rfl) (Nat.le_of_ble_eq_true rfl) (zGo.v ?_)
  refine e_topi (y := 0) (if_neg hi) ?_
  refine e_if_ne (pc := 8) (tgt := 21) d_B_requireEvent_8 (by decide) (fun h9 => absurd (rfl) h9) (fun _ => ?_)
  exact e_thrX (pc := 11) s_B_requireEvent_11 (Nat.le_of_ble_eq_true rfl) (Nat.le_of_ble_eq_true rfl) (Nat.le_of_ble_eq_true rfl) rfl
set_option maxHeartbeats 4000000 in
set_option maxRecDepth 100000 in
theorem sA_requireEvent {l : Launch} {G : zGP} {K : Nat} {S T : St} {th : Int32} {fo : Nat → Int64} {i : Int32} (hi : 0 ≤ i ∧ i < S 17 0 0 ∧ S 17 0 0 - 40 ≤ i) : Rn l G m_B_requireEvent [.ref 0, .int i] (hpA K S T th fo) (.inl none, (hpA K S T th fo)) := by
  refine Rn.of (by decide) rfl rfl (Nat.le_of_ble_eq_true rfl) rfl ?_
  show Ev l G m_B_requireEvent 0 [.ref 0, .int i] [] (hpA K S T th fo) 0 0 _
  refine e_aload_n (pc := 0) d_B_requireEvent_0 rfl ?_
  refine e_get (pc := 1) s_B_requireEvent_1 rfl rfl ?_
  refine e_iload_n (pc := 4) d_B_requireEvent_4 rfl ?_
  refine e_cV1 (pc := 5) s_B_requireEvent_5 (sA_keeps) rfl rfl rfl (Nat.le_of_ble_eq_true rfl) (Nat.le_of_ble_eq_true rfl) (Nat.le_of_ble_eq_true rfl) (zGo.v ?_)
  refine e_topi (y := 1) (if_pos hi) ?_
  refine e_if_ne (pc := 8) (tgt := 21) d_B_requireEvent_8 (by decide) (fun _ => ?_) (fun h9 => absurd h9 (by decide))
  exact e_vret (pc := 21) d_B_requireEvent_21 rfl (Nat.le_of_ble_eq_true rfl) (Nat.le_of_ble_eq_true rfl) rfl
set_option maxHeartbeats 4000000 in
set_option maxRecDepth 100000 in
theorem sX_event {l : Launch} {G : zGP} {K : Nat} {S T : St} {th : Int32} {fo : Nat → Int64} {i : Int32} (hi : ¬ (0 ≤ i ∧ i < S 17 0 0 ∧ S 17 0 0 - 40 ≤ i)) : Rn l G m_B_event [.ref 0, .int i] (hpA K S T th fo) (.inr "java/util/NoSuchElementException", (hpA K S T th fo)) := by
  refine Rn.of (by decide) rfl rfl (Nat.le_of_ble_eq_true rfl) rfl ?_
  show Ev l G m_B_event 0 [.ref 0, .int i] [] (hpA K S T th fo) 0 0 _
  refine e_aload_n (pc := 0) d_B_event_0 rfl ?_
  refine e_iload_n (pc := 1) d_B_event_1 rfl ?_
  exact e_cV1 (pc := 2) s_B_event_2 (sX_requireEvent hi) rfl rfl rfl (Nat.le_of_ble_eq_true rfl) (Nat.le_of_ble_eq_true rfl) (Nat.le_of_ble_eq_true rfl) (zGo.t rfl (Nat.le_of_ble_eq_true rfl) (Nat.le_of_ble_eq_true rfl) rfl)
set_option maxHeartbeats 4000000 in
set_option maxRecDepth 100000 in
theorem sA_event {l : Launch} {G : zGP} {K : Nat} {S T : St} {th : Int32} {fo : Nat → Int64} {q : Nat} (hq : q < 2 ^ 31) (hi : 0 ≤ (nI q) ∧ (nI q) < S 17 0 0 ∧ S 17 0 0 - 40 ≤ (nI q)) : Rn l G m_B_event [.ref 0, .int (nI q)] (hpA K S T th fo) (.inl (some (.int (S 18 0 (q % 40)))), (hpA K S T th fo)) := by
  refine Rn.of (by decide) rfl rfl (Nat.le_of_ble_eq_true rfl) rfl ?_
  show Ev l G m_B_event 0 [.ref 0, .int (nI q)] [] (hpA K S T th fo) 0 0 _
  refine e_aload_n (pc := 0) d_B_event_0 rfl ?_
  refine e_iload_n (pc := 1) d_B_event_1 rfl ?_
  refine e_cV1 (pc := 2) s_B_event_2 (sA_requireEvent hi) rfl rfl rfl (Nat.le_of_ble_eq_true rfl) (Nat.le_of_ble_eq_true rfl) (Nat.le_of_ble_eq_true rfl) (zGo.n ?_)
  refine e_aload_n (pc := 5) d_B_event_5 rfl ?_
  refine e_get (pc := 6) s_B_event_6 rfl rfl ?_
  refine e_get (pc := 9) s_B_event_9 rfl rfl ?_
  refine e_iload_n (pc := 12) d_B_event_12 rfl ?_
  refine e_bipush (pc := 13) (v := 40) d_B_event_13 (by decide) ?_
  refine e_irem (pc := 15) d_B_event_15 (by decide) ?_
  refine e_topi (y := nI (q % 40)) (pk_rem hq (by decide) (by decide)) ?_
  refine e_iald (pc := 16) d_B_event_16 rfl (vp_in_nI (Nat.mod_lt _ (by decide)) (by decide)) (ixf (nI_clamp (by omega))) ?_
  exact e_iret (pc := 17) d_B_event_17 rfl rfl (Nat.le_of_ble_eq_true rfl) (Nat.le_of_ble_eq_true rfl) rfl
set_option maxHeartbeats 4000000 in
set_option maxRecDepth 100000 in
theorem sX_eventValue {l : Launch} {G : zGP} {K : Nat} {S T : St} {th : Int32} {fo : Nat → Int64} {i : Int32} (hi : ¬ (0 ≤ i ∧ i < S 17 0 0 ∧ S 17 0 0 - 40 ≤ i)) : Rn l G m_B_eventValue [.ref 0, .int i] (hpA K S T th fo) (.inr "java/util/NoSuchElementException", (hpA K S T th fo)) := by
  refine Rn.of (by decide) rfl rfl (Nat.le_of_ble_eq_true rfl) rfl ?_
  show Ev l G m_B_eventValue 0 [.ref 0, .int i] [] (hpA K S T th fo) 0 0 _
  refine e_aload_n (pc := 0) d_B_eventValue_0 rfl ?_
  refine e_iload_n (pc := 1) d_B_eventValue_1 rfl ?_
  exact e_cV1 (pc := 2) s_B_eventValue_2 (sX_requireEvent hi) rfl rfl rfl (Nat.le_of_ble_eq_true rfl) (Nat.le_of_ble_eq_true rfl) (Nat.le_of_ble_eq_true rfl) (zGo.t rfl (Nat.le_of_ble_eq_true rfl) (Nat.le_of_ble_eq_true rfl) rfl)
set_option maxHeartbeats 4000000 in
set_option maxRecDepth 100000 in
theorem sA_eventValue {l : Launch} {G : zGP} {K : Nat} {S T : St} {th : Int32} {fo : Nat → Int64} {q : Nat} (hq : q < 2 ^ 31) (hi : 0 ≤ (nI q) ∧ (nI q) < S 17 0 0 ∧ S 17 0 0 - 40 ≤ (nI q)) : Rn l G m_B_eventValue [.ref 0, .int (nI q)] (hpA K S T th fo) (.inl (some (.int (S 19 0 (q % 40)))), (hpA K S T th fo)) := by
  refine Rn.of (by decide) rfl rfl (Nat.le_of_ble_eq_true rfl) rfl ?_
  show Ev l G m_B_eventValue 0 [.ref 0, .int (nI q)] [] (hpA K S T th fo) 0 0 _
  refine e_aload_n (pc := 0) d_B_eventValue_0 rfl ?_
  refine e_iload_n (pc := 1) d_B_eventValue_1 rfl ?_
  refine e_cV1 (pc := 2) s_B_eventValue_2 (sA_requireEvent hi) rfl rfl rfl (Nat.le_of_ble_eq_true rfl) (Nat.le_of_ble_eq_true rfl) (Nat.le_of_ble_eq_true rfl) (zGo.n ?_)
  refine e_aload_n (pc := 5) d_B_eventValue_5 rfl ?_
  refine e_get (pc := 6) s_B_eventValue_6 rfl rfl ?_
  refine e_get (pc := 9) s_B_eventValue_9 rfl rfl ?_
  refine e_iload_n (pc := 12) d_B_eventValue_12 rfl ?_
  refine e_bipush (pc := 13) (v := 40) d_B_eventValue_13 (by decide) ?_
  refine e_irem (pc := 15) d_B_eventValue_15 (by decide) ?_
  refine e_topi (y := nI (q % 40)) (pk_rem hq (by decide) (by decide)) ?_
  refine e_iald (pc := 16) d_B_eventValue_16 rfl (vp_in_nI (Nat.mod_lt _ (by decide)) (by decide)) (ixf (nI_clamp (by omega))) ?_
  exact e_iret (pc := 17) d_B_eventValue_17 rfl rfl (Nat.le_of_ble_eq_true rfl) (Nat.le_of_ble_eq_true rfl) rfl
