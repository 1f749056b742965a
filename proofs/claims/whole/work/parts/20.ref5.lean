/-! ===== the reference: drain, grant, fill, poke ===== -/
def drM (T : St) (c k n m : Nat) : St := noteS (rmS (su (su T 11 c (k % 2) (T 8 c 0)) 9 c (k % 2) 3) c n) m 1 (nI c) (nI k) (T 8 c 0)
def gmS (T : St) (c k : Nat) : St := if ¬ T 9 c (k % 2) = 0 ∧ ¬ T 10 c (k % 2) = nI k then su (wbS T c (k % 2)) 9 c (k % 2) 0 else T
def gnM (T : St) (c k : Nat) : St := su (gr2 (su (gmS T c k) 15 c 0 (wdM (gmS T c k) k)) c k (T 12 c 0)) 14 c 0 1
def flM (T : St) (c k : Nat) : St := su (su (su (su (su T 10 c (k % 2) (nI k)) 11 c (k % 2) (T 15 c 0)) 9 c (k % 2) (flT T c k)) 12 c 0 0) 14 c 0 0
theorem gmS_o (T : St) (c k : Nat) {f : Nat} (h9 : f ≠ 9) (h : f ≠ 16) : gmS T c k f = T f := by
  unfold gmS
  split
  · rw [su_o _ _ h9, wbS_o _ _ _ h]
  · rfl
set_option maxHeartbeats 4000000 in
set_option maxRecDepth 100000 in
theorem sM_drain0 {l : Launch} {G : zGP} {K : Nat} {S T : St} {th : Int32} {fo : Nat → Int64} {c : Nat} (hc : c < 3) (h6 : T 6 c 0 = 0) : Rn l G m_M_drain [.ref 45, .int (nI c)] (hpA K S T th fo) (.inl (some (.int 3)), (hpA K S T 0 fo)) := by
  refine Rn.of (by decide) rfl rfl (Nat.le_of_ble_eq_true rfl) rfl ?_
  show Ev l G m_M_drain 0 [.ref 45, .int (nI c), .double 0, .double 0, .double 0, .double 0] [] (hpA K S T th fo) 0 0 _
  refine e_aload_n (pc := 0) d_M_drain_0 rfl ?_
  refine e_iload_n (pc := 1) d_M_drain_1 rfl ?_
  refine e_cV1 (pc := 2) s_M_drain_2 (sM_core hc) rfl rfl rfl (Nat.le_of_ble_eq_true rfl) (Nat.le_of_ble_eq_true rfl) (Nat.le_of_ble_eq_true rfl) (zGo.v ?_)
  refine e_if_ne (pc := 5) (tgt := 10) d_M_drain_5 (by decide) (fun _ => ?_) (fun zz => absurd zz (by decide))
  refine e_aload_n (pc := 10) d_M_drain_10 rfl ?_
  refine e_get (pc := 11) s_M_drain_11 rfl rfl ?_
  refine e_iload_n (pc := 14) d_M_drain_14 rfl ?_
  refine e_iald (pc := 15) d_M_drain_15 rfl (vp_in_nI (by omega) (by decide)) ((fx1 (nI_clamp (by omega))).trans h6) ?_
  refine e_if_ne (pc := 16) (tgt := 21) d_M_drain_16 (by decide) (fun zz => absurd (rfl) zz) (fun _ => ?_)
  refine e_iconst (pc := 19) (v := 3) d_M_drain_19 (by decide) ?_
  exact e_iret (pc := 20) d_M_drain_20 rfl rfl (Nat.le_of_ble_eq_true rfl) (Nat.le_of_ble_eq_true rfl) rfl
set_option maxHeartbeats 4000000 in
set_option maxRecDepth 100000 in
theorem sM_drainA {l : Launch} {G : zGP} {K : Nat} {S T : St} {th : Int32} {fo : Nat → Int64} {c k n s : Nat} (hc : c < 3) (hk : k < 8) (h0 : 0 < n) (hn : n ≤ 4) (hs : s < 4) (h6 : T 6 c 0 = nI n) (h7 : T 7 c 0 = nI k) (h9 : T 9 c (k % 2) = nI s) (ho : ¬ ownS T c k) : Rn l G m_M_drain [.ref 45, .int (nI c)] (hpA K S T th fo) (.inl (some (.int 0)), (hpA K S (askM T c 2 (nI k)) 0 fo)) := by
  refine Rn.of (by decide) rfl rfl (Nat.le_of_ble_eq_true rfl) rfl ?_
  show Ev l G m_M_drain 0 [.ref 45, .int (nI c), .double 0, .double 0, .double 0, .double 0] [] (hpA K S T th fo) 0 0 _
  refine e_aload_n (pc := 0) d_M_drain_0 rfl ?_
  refine e_iload_n (pc := 1) d_M_drain_1 rfl ?_
  refine e_cV1 (pc := 2) s_M_drain_2 (sM_core hc) rfl rfl rfl (Nat.le_of_ble_eq_true rfl) (Nat.le_of_ble_eq_true rfl) (Nat.le_of_ble_eq_true rfl) (zGo.v ?_)
  refine e_if_ne (pc := 5) (tgt := 10) d_M_drain_5 (by decide) (fun _ => ?_) (fun zz => absurd zz (by decide))
  refine e_aload_n (pc := 10) d_M_drain_10 rfl ?_
  refine e_get (pc := 11) s_M_drain_11 rfl rfl ?_
  refine e_iload_n (pc := 14) d_M_drain_14 rfl ?_
  refine e_iald (pc := 15) d_M_drain_15 rfl (vp_in_nI (by omega) (by decide)) ((fx1 (nI_clamp (by omega))).trans h6) ?_
  refine e_if_ne (pc := 16) (tgt := 21) d_M_drain_16 (by decide) (fun _ => ?_) (fun zz => absurd zz (nI_ne0 h0 (by omega)))
  refine e_aload_n (pc := 21) d_M_drain_21 rfl ?_
  refine e_get (pc := 22) s_M_drain_22 rfl rfl ?_
  refine e_iconst (pc := 25) (v := 4) d_M_drain_25 (by decide) ?_
  refine e_iload_n (pc := 26) d_M_drain_26 rfl ?_
  refine e_imul (pc := 27) d_M_drain_27 ?_
  refine e_topi (y := nI (4 * c + 0)) (pk_mul 4 c) ?_
  refine e_iald (pc := 28) d_M_drain_28 rfl (vp_in_nI (by omega) (by decide)) ((fx4 (j := 0) (nI_clamp (by omega)) (by decide)).trans h7) ?_
  refine e_istore_n (pc := 29) d_M_drain_29 (Nat.le_of_ble_eq_true rfl) ?_
  dsimp only [List.set]
  refine e_aload_n (pc := 30) d_M_drain_30 rfl ?_
  refine e_iload_n (pc := 31) d_M_drain_31 rfl ?_
  refine e_iload_n (pc := 32) d_M_drain_32 rfl ?_
  refine e_cV2 (pc := 33) s_M_drain_33 (sM_owns hc hk hs h9) rfl rfl rfl (Nat.le_of_ble_eq_true rfl) (Nat.le_of_ble_eq_true rfl) (Nat.le_of_ble_eq_true rfl) (zGo.v ?_)
  refine e_topi (y := 0) (if_neg ho) ?_
  refine e_if_ne (pc := 36) (tgt := 48) d_M_drain_36 (by decide) (fun zz => absurd (rfl) zz) (fun _ => ?_)
  refine e_aload_n (pc := 39) d_M_drain_39 rfl ?_
  refine e_iload_n (pc := 40) d_M_drain_40 rfl ?_
  refine e_iload_n (pc := 41) d_M_drain_41 rfl ?_
  refine e_iconst (pc := 42) (v := 1) d_M_drain_42 (by decide) ?_
  refine e_cV3 (pc := 43) s_M_drain_43 (sM_askO hc) rfl rfl rfl (Nat.le_of_ble_eq_true rfl) (Nat.le_of_ble_eq_true rfl) (Nat.le_of_ble_eq_true rfl) (zGo.n ?_)
  refine e_iconst (pc := 46) (v := 0) d_M_drain_46 (by decide) ?_
  exact e_iret (pc := 47) d_M_drain_47 rfl rfl (Nat.le_of_ble_eq_true rfl) (Nat.le_of_ble_eq_true rfl) rfl
set_option maxHeartbeats 4000000 in
set_option maxRecDepth 100000 in
theorem sM_drain1 {l : Launch} {G : zGP} {K : Nat} {S T : St} {th : Int32} {fo : Nat → Int64} {c k s m : Nat} (hc : c < 3) (hk : k < 8) (hs : s < 4) (h6 : T 6 c 0 = nI 1) (h7 : T 7 c 0 = nI k) (h9 : T 9 c (k % 2) = nI s) (hm : m < 1024) (h17 : T 17 0 0 = nI m) (ho : ownS T c k) : Rn l G m_M_drain [.ref 45, .int (nI c)] (hpA K S T th fo) (.inl (some (.int 1)), (hpA K S (drM T c k 1 m) 0 fo)) := by
  refine Rn.of (by decide) rfl rfl (Nat.le_of_ble_eq_true rfl) rfl ?_
  show Ev l G m_M_drain 0 [.ref 45, .int (nI c), .double 0, .double 0, .double 0, .double 0] [] (hpA K S T th fo) 0 0 _
  refine e_aload_n (pc := 0) d_M_drain_0 rfl ?_
  refine e_iload_n (pc := 1) d_M_drain_1 rfl ?_
  refine e_cV1 (pc := 2) s_M_drain_2 (sM_core hc) rfl rfl rfl (Nat.le_of_ble_eq_true rfl) (Nat.le_of_ble_eq_true rfl) (Nat.le_of_ble_eq_true rfl) (zGo.v ?_)
  refine e_if_ne (pc := 5) (tgt := 10) d_M_drain_5 (by decide) (fun _ => ?_) (fun zz => absurd zz (by decide))
  refine e_aload_n (pc := 10) d_M_drain_10 rfl ?_
  refine e_get (pc := 11) s_M_drain_11 rfl rfl ?_
  refine e_iload_n (pc := 14) d_M_drain_14 rfl ?_
  refine e_iald (pc := 15) d_M_drain_15 rfl (vp_in_nI (by omega) (by decide)) ((fx1 (nI_clamp (by omega))).trans h6) ?_
  refine e_if_ne (pc := 16) (tgt := 21) d_M_drain_16 (by decide) (fun _ => ?_) (fun zz => absurd zz (nI_ne0 (by decide) (by decide)))
  refine e_aload_n (pc := 21) d_M_drain_21 rfl ?_
  refine e_get (pc := 22) s_M_drain_22 rfl rfl ?_
  refine e_iconst (pc := 25) (v := 4) d_M_drain_25 (by decide) ?_
  refine e_iload_n (pc := 26) d_M_drain_26 rfl ?_
  refine e_imul (pc := 27) d_M_drain_27 ?_
  refine e_topi (y := nI (4 * c + 0)) (pk_mul 4 c) ?_
  refine e_iald (pc := 28) d_M_drain_28 rfl (vp_in_nI (by omega) (by decide)) ((fx4 (j := 0) (nI_clamp (by omega)) (by decide)).trans h7) ?_
  refine e_istore_n (pc := 29) d_M_drain_29 (Nat.le_of_ble_eq_true rfl) ?_
  dsimp only [List.set]
  refine e_aload_n (pc := 30) d_M_drain_30 rfl ?_
  refine e_iload_n (pc := 31) d_M_drain_31 rfl ?_
  refine e_iload_n (pc := 32) d_M_drain_32 rfl ?_
  refine e_cV2 (pc := 33) s_M_drain_33 (sM_owns hc hk hs h9) rfl rfl rfl (Nat.le_of_ble_eq_true rfl) (Nat.le_of_ble_eq_true rfl) (Nat.le_of_ble_eq_true rfl) (zGo.v ?_)
  refine e_topi (y := 1) (if_pos ho) ?_
  refine e_if_ne (pc := 36) (tgt := 48) d_M_drain_36 (by decide) (fun _ => ?_) (fun zz => absurd zz (by decide))
  refine e_aload_n (pc := 48) d_M_drain_48 rfl ?_
  refine e_iload_n (pc := 49) d_M_drain_49 rfl ?_
  refine e_iload_n (pc := 50) d_M_drain_50 rfl ?_
  refine e_cV2 (pc := 51) s_M_drain_51 (sM_lineOf hc hk) rfl rfl rfl (Nat.le_of_ble_eq_true rfl) (Nat.le_of_ble_eq_true rfl) (Nat.le_of_ble_eq_true rfl) (zGo.v ?_)
  refine e_istore_n (pc := 54) d_M_drain_54 (Nat.le_of_ble_eq_true rfl) ?_
  dsimp only [List.set]
  refine e_aload_n (pc := 55) d_M_drain_55 rfl ?_
  refine e_get (pc := 56) s_M_drain_56 rfl rfl ?_
  refine e_iconst (pc := 59) (v := 4) d_M_drain_59 (by decide) ?_
  refine e_iload_n (pc := 60) d_M_drain_60 rfl ?_
  refine e_imul (pc := 61) d_M_drain_61 ?_
  refine e_topi (y := nI (4 * c + 0)) (pk_mul 4 c) ?_
  refine e_iald (pc := 62) d_M_drain_62 rfl (vp_in_nI (by omega) (by decide)) (fx4 (j := 0) (nI_clamp (by omega)) (by decide)) ?_
  refine e_istore (pc := 63) d_M_drain_63 (Nat.le_of_ble_eq_true rfl) ?_
  dsimp only [List.set]
  refine e_aload_n (pc := 65) d_M_drain_65 rfl ?_
  refine e_get (pc := 66) s_M_drain_66 rfl rfl ?_
  refine e_iload_n (pc := 69) d_M_drain_69 rfl ?_
  refine e_iload (pc := 70) d_M_drain_70 rfl ?_
  refine e_iast (pc := 72) d_M_drain_72 rfl (vp_in_nI (by omega) (by decide)) (vVl (nI_clamp (by omega)) (Nat.mod_lt _ (by decide))) ?_
  refine e_aload_n (pc := 73) d_M_drain_73 rfl ?_
  refine e_get (pc := 74) s_M_drain_74 rfl rfl ?_
  refine e_iload_n (pc := 77) d_M_drain_77 rfl ?_
  refine e_iconst (pc := 78) (v := 3) d_M_drain_78 (by decide) ?_
  refine e_iast (pc := 79) d_M_drain_79 rfl (vp_in_nI (by omega) (by decide)) (vSt (nI_clamp (by omega)) (Nat.mod_lt _ (by decide))) ?_
  refine e_aload_n (pc := 80) d_M_drain_80 rfl ?_
  refine e_get (pc := 81) s_M_drain_81 rfl rfl ?_
  refine e_iload_n (pc := 84) d_M_drain_84 rfl ?_
  refine e_dup2 (pc := 85) d_M_drain_85 rfl rfl ?_
  refine e_iald (pc := 86) d_M_drain_86 rfl (vp_in_nI (by omega) (by decide)) ((fx1 (nI_clamp (by omega))).trans h6) ?_
  refine e_iconst (pc := 87) (v := 1) d_M_drain_87 (by decide) ?_
  refine e_isub (pc := 88) d_M_drain_88 ?_
  refine e_topi (y := nI 0) (by decide) ?_
  refine e_iast (pc := 89) d_M_drain_89 rfl (vp_in_nI (by omega) (by decide)) (vSz (nI_clamp (by omega))) ?_
  refine e_iconst (pc := 90) (v := 0) d_M_drain_90 (by decide) ?_
  refine e_istore (pc := 91) d_M_drain_91 (Nat.le_of_ble_eq_true rfl) ?_
  dsimp only [List.set]
  refine e_iload (pc := 93) d_M_drain_93 rfl ?_
  refine e_aload_n (pc := 95) d_M_drain_95 rfl ?_
  refine e_get (pc := 96) s_M_drain_96 rfl rfl ?_
  refine e_iload_n (pc := 99) d_M_drain_99 rfl ?_
  refine e_iald (pc := 100) d_M_drain_100 rfl (vp_in_nI (by omega) (by decide)) ((fx1 (nI_clamp (by omega))).trans (by simp [su, upd] : _ = nI 0)) ?_
  refine e_icmp_ge (pc := 101) (tgt := 158) d_M_drain_101 (by decide) (fun _ => ?_) (fun zz => absurd (by decide) zz)
  refine e_aload_n (pc := 158) d_M_drain_158 rfl ?_
  refine e_iconst (pc := 159) (v := 1) d_M_drain_159 (by decide) ?_
  refine e_iload_n (pc := 160) d_M_drain_160 rfl ?_
  refine e_iload_n (pc := 161) d_M_drain_161 rfl ?_
  refine e_iload (pc := 162) d_M_drain_162 rfl ?_
  refine e_cV4 (pc := 164) s_M_drain_164 (sM_note hm h17) rfl rfl rfl (Nat.le_of_ble_eq_true rfl) (Nat.le_of_ble_eq_true rfl) (Nat.le_of_ble_eq_true rfl) (zGo.n ?_)
  refine e_iconst (pc := 167) (v := 1) d_M_drain_167 (by decide) ?_
  exact e_iret (pc := 168) d_M_drain_168 rfl rfl (Nat.le_of_ble_eq_true rfl) (Nat.le_of_ble_eq_true rfl) rfl
set_option maxHeartbeats 4000000 in
set_option maxRecDepth 100000 in
theorem sM_drain2 {l : Launch} {G : zGP} {K : Nat} {S T : St} {th : Int32} {fo : Nat → Int64} {c k s m : Nat} (hc : c < 3) (hk : k < 8) (hs : s < 4) (h6 : T 6 c 0 = nI 2) (h7 : T 7 c 0 = nI k) (h9 : T 9 c (k % 2) = nI s) (hm : m < 1024) (h17 : T 17 0 0 = nI m) (ho : ownS T c k) : Rn l G m_M_drain [.ref 45, .int (nI c)] (hpA K S T th fo) (.inl (some (.int 1)), (hpA K S (drM T c k 2 m) 0 fo)) := by
  refine Rn.of (by decide) rfl rfl (Nat.le_of_ble_eq_true rfl) rfl ?_
  show Ev l G m_M_drain 0 [.ref 45, .int (nI c), .double 0, .double 0, .double 0, .double 0] [] (hpA K S T th fo) 0 0 _
  refine e_aload_n (pc := 0) d_M_drain_0 rfl ?_
  refine e_iload_n (pc := 1) d_M_drain_1 rfl ?_
  refine e_cV1 (pc := 2) s_M_drain_2 (sM_core hc) rfl rfl rfl (Nat.le_of_ble_eq_true rfl) (Nat.le_of_ble_eq_true rfl) (Nat.le_of_ble_eq_true rfl) (zGo.v ?_)
  refine e_if_ne (pc := 5) (tgt := 10) d_M_drain_5 (by decide) (fun _ => ?_) (fun zz => absurd zz (by decide))
  refine e_aload_n (pc := 10) d_M_drain_10 rfl ?_
  refine e_get (pc := 11) s_M_drain_11 rfl rfl ?_
  refine e_iload_n (pc := 14) d_M_drain_14 rfl ?_
  refine e_iald (pc := 15) d_M_drain_15 rfl (vp_in_nI (by omega) (by decide)) ((fx1 (nI_clamp (by omega))).trans h6) ?_
  refine e_if_ne (pc := 16) (tgt := 21) d_M_drain_16 (by decide) (fun _ => ?_) (fun zz => absurd zz (nI_ne0 (by decide) (by decide)))
  refine e_aload_n (pc := 21) d_M_drain_21 rfl ?_
  refine e_get (pc := 22) s_M_drain_22 rfl rfl ?_
  refine e_iconst (pc := 25) (v := 4) d_M_drain_25 (by decide) ?_
  refine e_iload_n (pc := 26) d_M_drain_26 rfl ?_
  refine e_imul (pc := 27) d_M_drain_27 ?_
  refine e_topi (y := nI (4 * c + 0)) (pk_mul 4 c) ?_
  refine e_iald (pc := 28) d_M_drain_28 rfl (vp_in_nI (by omega) (by decide)) ((fx4 (j := 0) (nI_clamp (by omega)) (by decide)).trans h7) ?_
  refine e_istore_n (pc := 29) d_M_drain_29 (Nat.le_of_ble_eq_true rfl) ?_
  dsimp only [List.set]
  refine e_aload_n (pc := 30) d_M_drain_30 rfl ?_
  refine e_iload_n (pc := 31) d_M_drain_31 rfl ?_
  refine e_iload_n (pc := 32) d_M_drain_32 rfl ?_
  refine e_cV2 (pc := 33) s_M_drain_33 (sM_owns hc hk hs h9) rfl rfl rfl (Nat.le_of_ble_eq_true rfl) (Nat.le_of_ble_eq_true rfl) (Nat.le_of_ble_eq_true rfl) (zGo.v ?_)
  refine e_topi (y := 1) (if_pos ho) ?_
  refine e_if_ne (pc := 36) (tgt := 48) d_M_drain_36 (by decide) (fun _ => ?_) (fun zz => absurd zz (by decide))
  refine e_aload_n (pc := 48) d_M_drain_48 rfl ?_
  refine e_iload_n (pc := 49) d_M_drain_49 rfl ?_
  refine e_iload_n (pc := 50) d_M_drain_50 rfl ?_
  refine e_cV2 (pc := 51) s_M_drain_51 (sM_lineOf hc hk) rfl rfl rfl (Nat.le_of_ble_eq_true rfl) (Nat.le_of_ble_eq_true rfl) (Nat.le_of_ble_eq_true rfl) (zGo.v ?_)
  refine e_istore_n (pc := 54) d_M_drain_54 (Nat.le_of_ble_eq_true rfl) ?_
  dsimp only [List.set]
  refine e_aload_n (pc := 55) d_M_drain_55 rfl ?_
  refine e_get (pc := 56) s_M_drain_56 rfl rfl ?_
  refine e_iconst (pc := 59) (v := 4) d_M_drain_59 (by decide) ?_
  refine e_iload_n (pc := 60) d_M_drain_60 rfl ?_
  refine e_imul (pc := 61) d_M_drain_61 ?_
  refine e_topi (y := nI (4 * c + 0)) (pk_mul 4 c) ?_
  refine e_iald (pc := 62) d_M_drain_62 rfl (vp_in_nI (by omega) (by decide)) (fx4 (j := 0) (nI_clamp (by omega)) (by decide)) ?_
  refine e_istore (pc := 63) d_M_drain_63 (Nat.le_of_ble_eq_true rfl) ?_
  dsimp only [List.set]
  refine e_aload_n (pc := 65) d_M_drain_65 rfl ?_
  refine e_get (pc := 66) s_M_drain_66 rfl rfl ?_
  refine e_iload_n (pc := 69) d_M_drain_69 rfl ?_
  refine e_iload (pc := 70) d_M_drain_70 rfl ?_
  refine e_iast (pc := 72) d_M_drain_72 rfl (vp_in_nI (by omega) (by decide)) (vVl (nI_clamp (by omega)) (Nat.mod_lt _ (by decide))) ?_
  refine e_aload_n (pc := 73) d_M_drain_73 rfl ?_
  refine e_get (pc := 74) s_M_drain_74 rfl rfl ?_
  refine e_iload_n (pc := 77) d_M_drain_77 rfl ?_
  refine e_iconst (pc := 78) (v := 3) d_M_drain_78 (by decide) ?_
  refine e_iast (pc := 79) d_M_drain_79 rfl (vp_in_nI (by omega) (by decide)) (vSt (nI_clamp (by omega)) (Nat.mod_lt _ (by decide))) ?_
  refine e_aload_n (pc := 80) d_M_drain_80 rfl ?_
  refine e_get (pc := 81) s_M_drain_81 rfl rfl ?_
  refine e_iload_n (pc := 84) d_M_drain_84 rfl ?_
  refine e_dup2 (pc := 85) d_M_drain_85 rfl rfl ?_
  refine e_iald (pc := 86) d_M_drain_86 rfl (vp_in_nI (by omega) (by decide)) ((fx1 (nI_clamp (by omega))).trans h6) ?_
  refine e_iconst (pc := 87) (v := 1) d_M_drain_87 (by decide) ?_
  refine e_isub (pc := 88) d_M_drain_88 ?_
  refine e_topi (y := nI 1) (by decide) ?_
  refine e_iast (pc := 89) d_M_drain_89 rfl (vp_in_nI (by omega) (by decide)) (vSz (nI_clamp (by omega))) ?_
  refine e_iconst (pc := 90) (v := 0) d_M_drain_90 (by decide) ?_
  refine e_istore (pc := 91) d_M_drain_91 (Nat.le_of_ble_eq_true rfl) ?_
  dsimp only [List.set]
  refine e_iload (pc := 93) d_M_drain_93 rfl ?_
  refine e_aload_n (pc := 95) d_M_drain_95 rfl ?_
  refine e_get (pc := 96) s_M_drain_96 rfl rfl ?_
  refine e_iload_n (pc := 99) d_M_drain_99 rfl ?_
  refine e_iald (pc := 100) d_M_drain_100 rfl (vp_in_nI (by omega) (by decide)) ((fx1 (nI_clamp (by omega))).trans (by simp [su, upd] : _ = nI 1)) ?_
  refine e_icmp_ge (pc := 101) (tgt := 158) d_M_drain_101 (by decide) (fun zz => absurd zz (by decide)) (fun _ => ?_)
  refine e_aload_n (pc := 104) d_M_drain_104 rfl ?_
  refine e_get (pc := 105) s_M_drain_105 rfl rfl ?_
  refine e_iconst (pc := 108) (v := 4) d_M_drain_108 (by decide) ?_
  refine e_iload_n (pc := 109) d_M_drain_109 rfl ?_
  refine e_imul (pc := 110) d_M_drain_110 ?_
  refine e_iload (pc := 111) d_M_drain_111 rfl ?_
  refine e_topi (y := nI 0) (by decide) ?_
  refine e_iadd (pc := 113) d_M_drain_113 ?_
  refine e_topi (y := nI (4 * c + 0)) (ixM 4 c 0) ?_
  refine e_aload_n (pc := 114) d_M_drain_114 rfl ?_
  refine e_get (pc := 115) s_M_drain_115 rfl rfl ?_
  refine e_iconst (pc := 118) (v := 4) d_M_drain_118 (by decide) ?_
  refine e_iload_n (pc := 119) d_M_drain_119 rfl ?_
  refine e_imul (pc := 120) d_M_drain_120 ?_
  refine e_iload (pc := 121) d_M_drain_121 rfl ?_
  refine e_topi (y := nI 0) (by decide) ?_
  refine e_iadd (pc := 123) d_M_drain_123 ?_
  refine e_topi (y := nI (4 * c + 0)) (ixM 4 c 0) ?_
  refine e_iconst (pc := 124) (v := 1) d_M_drain_124 (by decide) ?_
  refine e_iadd (pc := 125) d_M_drain_125 ?_
  refine e_topi (y := nI (4 * c + 1)) (nI_1 _) ?_
  refine e_iald (pc := 126) d_M_drain_126 rfl (vp_in_nI (by omega) (by decide)) (fx4 (j := 1) (nI_clamp (by omega)) (by decide)) ?_
  refine e_iast (pc := 127) d_M_drain_127 rfl (vp_in_nI (by omega) (by decide)) (vBa (a := 0) (nI_clamp (by omega)) (by decide)) ?_
  refine e_aload_n (pc := 128) d_M_drain_128 rfl ?_
  refine e_get (pc := 129) s_M_drain_129 rfl rfl ?_
  refine e_iconst (pc := 132) (v := 4) d_M_drain_132 (by decide) ?_
  refine e_iload_n (pc := 133) d_M_drain_133 rfl ?_
  refine e_imul (pc := 134) d_M_drain_134 ?_
  refine e_iload (pc := 135) d_M_drain_135 rfl ?_
  refine e_topi (y := nI 0) (by decide) ?_
  refine e_iadd (pc := 137) d_M_drain_137 ?_
  refine e_topi (y := nI (4 * c + 0)) (ixM 4 c 0) ?_
  refine e_aload_n (pc := 138) d_M_drain_138 rfl ?_
  refine e_get (pc := 139) s_M_drain_139 rfl rfl ?_
  refine e_iconst (pc := 142) (v := 4) d_M_drain_142 (by decide) ?_
  refine e_iload_n (pc := 143) d_M_drain_143 rfl ?_
  refine e_imul (pc := 144) d_M_drain_144 ?_
  refine e_iload (pc := 145) d_M_drain_145 rfl ?_
  refine e_topi (y := nI 0) (by decide) ?_
  refine e_iadd (pc := 147) d_M_drain_147 ?_
  refine e_topi (y := nI (4 * c + 0)) (ixM 4 c 0) ?_
  refine e_iconst (pc := 148) (v := 1) d_M_drain_148 (by decide) ?_
  refine e_iadd (pc := 149) d_M_drain_149 ?_
  refine e_topi (y := nI (4 * c + 1)) (nI_1 _) ?_
  refine e_iald (pc := 150) d_M_drain_150 rfl (vp_in_nI (by omega) (by decide)) (fx4 (j := 1) (nI_clamp (by omega)) (by decide)) ?_
  refine e_iast (pc := 151) d_M_drain_151 rfl (vp_in_nI (by omega) (by decide)) (vBv (a := 0) (nI_clamp (by omega)) (by decide)) ?_
  refine e_iinc (pc := 152) d_M_drain_152 rfl (Nat.le_of_ble_eq_true rfl) ?_
  dsimp only [List.set]
  refine e_goto (pc := 155) (tgt := 93) d_M_drain_155 (by decide) ?_
  refine e_iload (pc := 93) d_M_drain_93 rfl ?_
  refine e_aload_n (pc := 95) d_M_drain_95 rfl ?_
  refine e_get (pc := 96) s_M_drain_96 rfl rfl ?_
  refine e_iload_n (pc := 99) d_M_drain_99 rfl ?_
  refine e_iald (pc := 100) d_M_drain_100 rfl (vp_in_nI (by omega) (by decide)) ((fx1 (nI_clamp (by omega))).trans (by simp [su, upd] : _ = nI 1)) ?_
  refine e_icmp_ge (pc := 101) (tgt := 158) d_M_drain_101 (by decide) (fun _ => ?_) (fun zz => absurd (by decide) zz)
  refine e_aload_n (pc := 158) d_M_drain_158 rfl ?_
  refine e_iconst (pc := 159) (v := 1) d_M_drain_159 (by decide) ?_
  refine e_iload_n (pc := 160) d_M_drain_160 rfl ?_
  refine e_iload_n (pc := 161) d_M_drain_161 rfl ?_
  refine e_iload (pc := 162) d_M_drain_162 rfl ?_
  refine e_cV4 (pc := 164) s_M_drain_164 (sM_note hm h17) rfl rfl rfl (Nat.le_of_ble_eq_true rfl) (Nat.le_of_ble_eq_true rfl) (Nat.le_of_ble_eq_true rfl) (zGo.n ?_)
  refine e_iconst (pc := 167) (v := 1) d_M_drain_167 (by decide) ?_
  exact e_iret (pc := 168) d_M_drain_168 rfl rfl (Nat.le_of_ble_eq_true rfl) (Nat.le_of_ble_eq_true rfl) rfl
set_option maxHeartbeats 4000000 in
set_option maxRecDepth 100000 in
theorem sM_drain3 {l : Launch} {G : zGP} {K : Nat} {S T : St} {th : Int32} {fo : Nat → Int64} {c k s m : Nat} (hc : c < 3) (hk : k < 8) (hs : s < 4) (h6 : T 6 c 0 = nI 3) (h7 : T 7 c 0 = nI k) (h9 : T 9 c (k % 2) = nI s) (hm : m < 1024) (h17 : T 17 0 0 = nI m) (ho : ownS T c k) : Rn l G m_M_drain [.ref 45, .int (nI c)] (hpA K S T th fo) (.inl (some (.int 1)), (hpA K S (drM T c k 3 m) 0 fo)) := by
  refine Rn.of (by decide) rfl rfl (Nat.le_of_ble_eq_true rfl) rfl ?_
  show Ev l G m_M_drain 0 [.ref 45, .int (nI c), .double 0, .double 0, .double 0, .double 0] [] (hpA K S T th fo) 0 0 _
  refine e_aload_n (pc := 0) d_M_drain_0 rfl ?_
  refine e_iload_n (pc := 1) d_M_drain_1 rfl ?_
  refine e_cV1 (pc := 2) s_M_drain_2 (sM_core hc) rfl rfl rfl (Nat.le_of_ble_eq_true rfl) (Nat.le_of_ble_eq_true rfl) (Nat.le_of_ble_eq_true rfl) (zGo.v ?_)
  refine e_if_ne (pc := 5) (tgt := 10) d_M_drain_5 (by decide) (fun _ => ?_) (fun zz => absurd zz (by decide))
  refine e_aload_n (pc := 10) d_M_drain_10 rfl ?_
  refine e_get (pc := 11) s_M_drain_11 rfl rfl ?_
  refine e_iload_n (pc := 14) d_M_drain_14 rfl ?_
  refine e_iald (pc := 15) d_M_drain_15 rfl (vp_in_nI (by omega) (by decide)) ((fx1 (nI_clamp (by omega))).trans h6) ?_
  refine e_if_ne (pc := 16) (tgt := 21) d_M_drain_16 (by decide) (fun _ => ?_) (fun zz => absurd zz (nI_ne0 (by decide) (by decide)))
  refine e_aload_n (pc := 21) d_M_drain_21 rfl ?_
  refine e_get (pc := 22) s_M_drain_22 rfl rfl ?_
  refine e_iconst (pc := 25) (v := 4) d_M_drain_25 (by decide) ?_
  refine e_iload_n (pc := 26) d_M_drain_26 rfl ?_
  refine e_imul (pc := 27) d_M_drain_27 ?_
  refine e_topi (y := nI (4 * c + 0)) (pk_mul 4 c) ?_
  refine e_iald (pc := 28) d_M_drain_28 rfl (vp_in_nI (by omega) (by decide)) ((fx4 (j := 0) (nI_clamp (by omega)) (by decide)).trans h7) ?_
  refine e_istore_n (pc := 29) d_M_drain_29 (Nat.le_of_ble_eq_true rfl) ?_
  dsimp only [List.set]
  refine e_aload_n (pc := 30) d_M_drain_30 rfl ?_
  refine e_iload_n (pc := 31) d_M_drain_31 rfl ?_
  refine e_iload_n (pc := 32) d_M_drain_32 rfl ?_
  refine e_cV2 (pc := 33) s_M_drain_33 (sM_owns hc hk hs h9) rfl rfl rfl (Nat.le_of_ble_eq_true rfl) (Nat.le_of_ble_eq_true rfl) (Nat.le_of_ble_eq_true rfl) (zGo.v ?_)
  refine e_topi (y := 1) (if_pos ho) ?_
  refine e_if_ne (pc := 36) (tgt := 48) d_M_drain_36 (by decide) (fun _ => ?_) (fun zz => absurd zz (by decide))
  refine e_aload_n (pc := 48) d_M_drain_48 rfl ?_
  refine e_iload_n (pc := 49) d_M_drain_49 rfl ?_
  refine e_iload_n (pc := 50) d_M_drain_50 rfl ?_
  refine e_cV2 (pc := 51) s_M_drain_51 (sM_lineOf hc hk) rfl rfl rfl (Nat.le_of_ble_eq_true rfl) (Nat.le_of_ble_eq_true rfl) (Nat.le_of_ble_eq_true rfl) (zGo.v ?_)
  refine e_istore_n (pc := 54) d_M_drain_54 (Nat.le_of_ble_eq_true rfl) ?_
  dsimp only [List.set]
  refine e_aload_n (pc := 55) d_M_drain_55 rfl ?_
  refine e_get (pc := 56) s_M_drain_56 rfl rfl ?_
  refine e_iconst (pc := 59) (v := 4) d_M_drain_59 (by decide) ?_
  refine e_iload_n (pc := 60) d_M_drain_60 rfl ?_
  refine e_imul (pc := 61) d_M_drain_61 ?_
  refine e_topi (y := nI (4 * c + 0)) (pk_mul 4 c) ?_
  refine e_iald (pc := 62) d_M_drain_62 rfl (vp_in_nI (by omega) (by decide)) (fx4 (j := 0) (nI_clamp (by omega)) (by decide)) ?_
  refine e_istore (pc := 63) d_M_drain_63 (Nat.le_of_ble_eq_true rfl) ?_
  dsimp only [List.set]
  refine e_aload_n (pc := 65) d_M_drain_65 rfl ?_
  refine e_get (pc := 66) s_M_drain_66 rfl rfl ?_
  refine e_iload_n (pc := 69) d_M_drain_69 rfl ?_
  refine e_iload (pc := 70) d_M_drain_70 rfl ?_
  refine e_iast (pc := 72) d_M_drain_72 rfl (vp_in_nI (by omega) (by decide)) (vVl (nI_clamp (by omega)) (Nat.mod_lt _ (by decide))) ?_
  refine e_aload_n (pc := 73) d_M_drain_73 rfl ?_
  refine e_get (pc := 74) s_M_drain_74 rfl rfl ?_
  refine e_iload_n (pc := 77) d_M_drain_77 rfl ?_
  refine e_iconst (pc := 78) (v := 3) d_M_drain_78 (by decide) ?_
  refine e_iast (pc := 79) d_M_drain_79 rfl (vp_in_nI (by omega) (by decide)) (vSt (nI_clamp (by omega)) (Nat.mod_lt _ (by decide))) ?_
  refine e_aload_n (pc := 80) d_M_drain_80 rfl ?_
  refine e_get (pc := 81) s_M_drain_81 rfl rfl ?_
  refine e_iload_n (pc := 84) d_M_drain_84 rfl ?_
  refine e_dup2 (pc := 85) d_M_drain_85 rfl rfl ?_
  refine e_iald (pc := 86) d_M_drain_86 rfl (vp_in_nI (by omega) (by decide)) ((fx1 (nI_clamp (by omega))).trans h6) ?_
  refine e_iconst (pc := 87) (v := 1) d_M_drain_87 (by decide) ?_
  refine e_isub (pc := 88) d_M_drain_88 ?_
  refine e_topi (y := nI 2) (by decide) ?_
  refine e_iast (pc := 89) d_M_drain_89 rfl (vp_in_nI (by omega) (by decide)) (vSz (nI_clamp (by omega))) ?_
  refine e_iconst (pc := 90) (v := 0) d_M_drain_90 (by decide) ?_
  refine e_istore (pc := 91) d_M_drain_91 (Nat.le_of_ble_eq_true rfl) ?_
  dsimp only [List.set]
  refine e_iload (pc := 93) d_M_drain_93 rfl ?_
  refine e_aload_n (pc := 95) d_M_drain_95 rfl ?_
  refine e_get (pc := 96) s_M_drain_96 rfl rfl ?_
  refine e_iload_n (pc := 99) d_M_drain_99 rfl ?_
  refine e_iald (pc := 100) d_M_drain_100 rfl (vp_in_nI (by omega) (by decide)) ((fx1 (nI_clamp (by omega))).trans (by simp [su, upd] : _ = nI 2)) ?_
  refine e_icmp_ge (pc := 101) (tgt := 158) d_M_drain_101 (by decide) (fun zz => absurd zz (by decide)) (fun _ => ?_)
  refine e_aload_n (pc := 104) d_M_drain_104 rfl ?_
  refine e_get (pc := 105) s_M_drain_105 rfl rfl ?_
  refine e_iconst (pc := 108) (v := 4) d_M_drain_108 (by decide) ?_
  refine e_iload_n (pc := 109) d_M_drain_109 rfl ?_
  refine e_imul (pc := 110) d_M_drain_110 ?_
  refine e_iload (pc := 111) d_M_drain_111 rfl ?_
  refine e_topi (y := nI 0) (by decide) ?_
  refine e_iadd (pc := 113) d_M_drain_113 ?_
  refine e_topi (y := nI (4 * c + 0)) (ixM 4 c 0) ?_
  refine e_aload_n (pc := 114) d_M_drain_114 rfl ?_
  refine e_get (pc := 115) s_M_drain_115 rfl rfl ?_
  refine e_iconst (pc := 118) (v := 4) d_M_drain_118 (by decide) ?_
  refine e_iload_n (pc := 119) d_M_drain_119 rfl ?_
  refine e_imul (pc := 120) d_M_drain_120 ?_
  refine e_iload (pc := 121) d_M_drain_121 rfl ?_
  refine e_topi (y := nI 0) (by decide) ?_
  refine e_iadd (pc := 123) d_M_drain_123 ?_
  refine e_topi (y := nI (4 * c + 0)) (ixM 4 c 0) ?_
  refine e_iconst (pc := 124) (v := 1) d_M_drain_124 (by decide) ?_
  refine e_iadd (pc := 125) d_M_drain_125 ?_
  refine e_topi (y := nI (4 * c + 1)) (nI_1 _) ?_
  refine e_iald (pc := 126) d_M_drain_126 rfl (vp_in_nI (by omega) (by decide)) (fx4 (j := 1) (nI_clamp (by omega)) (by decide)) ?_
  refine e_iast (pc := 127) d_M_drain_127 rfl (vp_in_nI (by omega) (by decide)) (vBa (a := 0) (nI_clamp (by omega)) (by decide)) ?_
  refine e_aload_n (pc := 128) d_M_drain_128 rfl ?_
  refine e_get (pc := 129) s_M_drain_129 rfl rfl ?_
  refine e_iconst (pc := 132) (v := 4) d_M_drain_132 (by decide) ?_
  refine e_iload_n (pc := 133) d_M_drain_133 rfl ?_
  refine e_imul (pc := 134) d_M_drain_134 ?_
  refine e_iload (pc := 135) d_M_drain_135 rfl ?_
  refine e_topi (y := nI 0) (by decide) ?_
  refine e_iadd (pc := 137) d_M_drain_137 ?_
  refine e_topi (y := nI (4 * c + 0)) (ixM 4 c 0) ?_
  refine e_aload_n (pc := 138) d_M_drain_138 rfl ?_
  refine e_get (pc := 139) s_M_drain_139 rfl rfl ?_
  refine e_iconst (pc := 142) (v := 4) d_M_drain_142 (by decide) ?_
  refine e_iload_n (pc := 143) d_M_drain_143 rfl ?_
  refine e_imul (pc := 144) d_M_drain_144 ?_
  refine e_iload (pc := 145) d_M_drain_145 rfl ?_
  refine e_topi (y := nI 0) (by decide) ?_
  refine e_iadd (pc := 147) d_M_drain_147 ?_
  refine e_topi (y := nI (4 * c + 0)) (ixM 4 c 0) ?_
  refine e_iconst (pc := 148) (v := 1) d_M_drain_148 (by decide) ?_
  refine e_iadd (pc := 149) d_M_drain_149 ?_
  refine e_topi (y := nI (4 * c + 1)) (nI_1 _) ?_
  refine e_iald (pc := 150) d_M_drain_150 rfl (vp_in_nI (by omega) (by decide)) (fx4 (j := 1) (nI_clamp (by omega)) (by decide)) ?_
  refine e_iast (pc := 151) d_M_drain_151 rfl (vp_in_nI (by omega) (by decide)) (vBv (a := 0) (nI_clamp (by omega)) (by decide)) ?_
  refine e_iinc (pc := 152) d_M_drain_152 rfl (Nat.le_of_ble_eq_true rfl) ?_
  dsimp only [List.set]
  refine e_goto (pc := 155) (tgt := 93) d_M_drain_155 (by decide) ?_
  refine e_iload (pc := 93) d_M_drain_93 rfl ?_
  refine e_aload_n (pc := 95) d_M_drain_95 rfl ?_
  refine e_get (pc := 96) s_M_drain_96 rfl rfl ?_
  refine e_iload_n (pc := 99) d_M_drain_99 rfl ?_
  refine e_iald (pc := 100) d_M_drain_100 rfl (vp_in_nI (by omega) (by decide)) ((fx1 (nI_clamp (by omega))).trans (by simp [su, upd] : _ = nI 2)) ?_
  refine e_icmp_ge (pc := 101) (tgt := 158) d_M_drain_101 (by decide) (fun zz => absurd zz (by decide)) (fun _ => ?_)
  refine e_aload_n (pc := 104) d_M_drain_104 rfl ?_
  refine e_get (pc := 105) s_M_drain_105 rfl rfl ?_
  refine e_iconst (pc := 108) (v := 4) d_M_drain_108 (by decide) ?_
  refine e_iload_n (pc := 109) d_M_drain_109 rfl ?_
  refine e_imul (pc := 110) d_M_drain_110 ?_
  refine e_iload (pc := 111) d_M_drain_111 rfl ?_
  refine e_topi (y := nI 1) (by decide) ?_
  refine e_iadd (pc := 113) d_M_drain_113 ?_
  refine e_topi (y := nI (4 * c + 1)) (ixM 4 c 1) ?_
  refine e_aload_n (pc := 114) d_M_drain_114 rfl ?_
  refine e_get (pc := 115) s_M_drain_115 rfl rfl ?_
  refine e_iconst (pc := 118) (v := 4) d_M_drain_118 (by decide) ?_
  refine e_iload_n (pc := 119) d_M_drain_119 rfl ?_
  refine e_imul (pc := 120) d_M_drain_120 ?_
  refine e_iload (pc := 121) d_M_drain_121 rfl ?_
  refine e_topi (y := nI 1) (by decide) ?_
  refine e_iadd (pc := 123) d_M_drain_123 ?_
  refine e_topi (y := nI (4 * c + 1)) (ixM 4 c 1) ?_
  refine e_iconst (pc := 124) (v := 1) d_M_drain_124 (by decide) ?_
  refine e_iadd (pc := 125) d_M_drain_125 ?_
  refine e_topi (y := nI (4 * c + 2)) (nI_1 _) ?_
  refine e_iald (pc := 126) d_M_drain_126 rfl (vp_in_nI (by omega) (by decide)) (fx4 (j := 2) (nI_clamp (by omega)) (by decide)) ?_
  refine e_iast (pc := 127) d_M_drain_127 rfl (vp_in_nI (by omega) (by decide)) (vBa (a := 1) (nI_clamp (by omega)) (by decide)) ?_
  refine e_aload_n (pc := 128) d_M_drain_128 rfl ?_
  refine e_get (pc := 129) s_M_drain_129 rfl rfl ?_
  refine e_iconst (pc := 132) (v := 4) d_M_drain_132 (by decide) ?_
  refine e_iload_n (pc := 133) d_M_drain_133 rfl ?_
  refine e_imul (pc := 134) d_M_drain_134 ?_
  refine e_iload (pc := 135) d_M_drain_135 rfl ?_
  refine e_topi (y := nI 1) (by decide) ?_
  refine e_iadd (pc := 137) d_M_drain_137 ?_
  refine e_topi (y := nI (4 * c + 1)) (ixM 4 c 1) ?_
  refine e_aload_n (pc := 138) d_M_drain_138 rfl ?_
  refine e_get (pc := 139) s_M_drain_139 rfl rfl ?_
  refine e_iconst (pc := 142) (v := 4) d_M_drain_142 (by decide) ?_
  refine e_iload_n (pc := 143) d_M_drain_143 rfl ?_
  refine e_imul (pc := 144) d_M_drain_144 ?_
  refine e_iload (pc := 145) d_M_drain_145 rfl ?_
  refine e_topi (y := nI 1) (by decide) ?_
  refine e_iadd (pc := 147) d_M_drain_147 ?_
  refine e_topi (y := nI (4 * c + 1)) (ixM 4 c 1) ?_
  refine e_iconst (pc := 148) (v := 1) d_M_drain_148 (by decide) ?_
  refine e_iadd (pc := 149) d_M_drain_149 ?_
  refine e_topi (y := nI (4 * c + 2)) (nI_1 _) ?_
  refine e_iald (pc := 150) d_M_drain_150 rfl (vp_in_nI (by omega) (by decide)) (fx4 (j := 2) (nI_clamp (by omega)) (by decide)) ?_
  refine e_iast (pc := 151) d_M_drain_151 rfl (vp_in_nI (by omega) (by decide)) (vBv (a := 1) (nI_clamp (by omega)) (by decide)) ?_
  refine e_iinc (pc := 152) d_M_drain_152 rfl (Nat.le_of_ble_eq_true rfl) ?_
  dsimp only [List.set]
  refine e_goto (pc := 155) (tgt := 93) d_M_drain_155 (by decide) ?_
  refine e_iload (pc := 93) d_M_drain_93 rfl ?_
  refine e_aload_n (pc := 95) d_M_drain_95 rfl ?_
  refine e_get (pc := 96) s_M_drain_96 rfl rfl ?_
  refine e_iload_n (pc := 99) d_M_drain_99 rfl ?_
  refine e_iald (pc := 100) d_M_drain_100 rfl (vp_in_nI (by omega) (by decide)) ((fx1 (nI_clamp (by omega))).trans (by simp [su, upd] : _ = nI 2)) ?_
  refine e_icmp_ge (pc := 101) (tgt := 158) d_M_drain_101 (by decide) (fun _ => ?_) (fun zz => absurd (by decide) zz)
  refine e_aload_n (pc := 158) d_M_drain_158 rfl ?_
  refine e_iconst (pc := 159) (v := 1) d_M_drain_159 (by decide) ?_
  refine e_iload_n (pc := 160) d_M_drain_160 rfl ?_
  refine e_iload_n (pc := 161) d_M_drain_161 rfl ?_
  refine e_iload (pc := 162) d_M_drain_162 rfl ?_
  refine e_cV4 (pc := 164) s_M_drain_164 (sM_note hm h17) rfl rfl rfl (Nat.le_of_ble_eq_true rfl) (Nat.le_of_ble_eq_true rfl) (Nat.le_of_ble_eq_true rfl) (zGo.n ?_)
  refine e_iconst (pc := 167) (v := 1) d_M_drain_167 (by decide) ?_
  exact e_iret (pc := 168) d_M_drain_168 rfl rfl (Nat.le_of_ble_eq_true rfl) (Nat.le_of_ble_eq_true rfl) rfl
set_option maxHeartbeats 4000000 in
set_option maxRecDepth 100000 in
theorem sM_drain4 {l : Launch} {G : zGP} {K : Nat} {S T : St} {th : Int32} {fo : Nat → Int64} {c k s m : Nat} (hc : c < 3) (hk : k < 8) (hs : s < 4) (h6 : T 6 c 0 = nI 4) (h7 : T 7 c 0 = nI k) (h9 : T 9 c (k % 2) = nI s) (hm : m < 1024) (h17 : T 17 0 0 = nI m) (ho : ownS T c k) : Rn l G m_M_drain [.ref 45, .int (nI c)] (hpA K S T th fo) (.inl (some (.int 1)), (hpA K S (drM T c k 4 m) 0 fo)) := by
  refine Rn.of (by decide) rfl rfl (Nat.le_of_ble_eq_true rfl) rfl ?_
  show Ev l G m_M_drain 0 [.ref 45, .int (nI c), .double 0, .double 0, .double 0, .double 0] [] (hpA K S T th fo) 0 0 _
  refine e_aload_n (pc := 0) d_M_drain_0 rfl ?_
  refine e_iload_n (pc := 1) d_M_drain_1 rfl ?_
  refine e_cV1 (pc := 2) s_M_drain_2 (sM_core hc) rfl rfl rfl (Nat.le_of_ble_eq_true rfl) (Nat.le_of_ble_eq_true rfl) (Nat.le_of_ble_eq_true rfl) (zGo.v ?_)
  refine e_if_ne (pc := 5) (tgt := 10) d_M_drain_5 (by decide) (fun _ => ?_) (fun zz => absurd zz (by decide))
  refine e_aload_n (pc := 10) d_M_drain_10 rfl ?_
  refine e_get (pc := 11) s_M_drain_11 rfl rfl ?_
  refine e_iload_n (pc := 14) d_M_drain_14 rfl ?_
  refine e_iald (pc := 15) d_M_drain_15 rfl (vp_in_nI (by omega) (by decide)) ((fx1 (nI_clamp (by omega))).trans h6) ?_
  refine e_if_ne (pc := 16) (tgt := 21) d_M_drain_16 (by decide) (fun _ => ?_) (fun zz => absurd zz (nI_ne0 (by decide) (by decide)))
  refine e_aload_n (pc := 21) d_M_drain_21 rfl ?_
  refine e_get (pc := 22) s_M_drain_22 rfl rfl ?_
  refine e_iconst (pc := 25) (v := 4) d_M_drain_25 (by decide) ?_
  refine e_iload_n (pc := 26) d_M_drain_26 rfl ?_
  refine e_imul (pc := 27) d_M_drain_27 ?_
  refine e_topi (y := nI (4 * c + 0)) (pk_mul 4 c) ?_
  refine e_iald (pc := 28) d_M_drain_28 rfl (vp_in_nI (by omega) (by decide)) ((fx4 (j := 0) (nI_clamp (by omega)) (by decide)).trans h7) ?_
  refine e_istore_n (pc := 29) d_M_drain_29 (Nat.le_of_ble_eq_true rfl) ?_
  dsimp only [List.set]
  refine e_aload_n (pc := 30) d_M_drain_30 rfl ?_
  refine e_iload_n (pc := 31) d_M_drain_31 rfl ?_
  refine e_iload_n (pc := 32) d_M_drain_32 rfl ?_
  refine e_cV2 (pc := 33) s_M_drain_33 (sM_owns hc hk hs h9) rfl rfl rfl (Nat.le_of_ble_eq_true rfl) (Nat.le_of_ble_eq_true rfl) (Nat.le_of_ble_eq_true rfl) (zGo.v ?_)
  refine e_topi (y := 1) (if_pos ho) ?_
  refine e_if_ne (pc := 36) (tgt := 48) d_M_drain_36 (by decide) (fun _ => ?_) (fun zz => absurd zz (by decide))
  refine e_aload_n (pc := 48) d_M_drain_48 rfl ?_
  refine e_iload_n (pc := 49) d_M_drain_49 rfl ?_
  refine e_iload_n (pc := 50) d_M_drain_50 rfl ?_
  refine e_cV2 (pc := 51) s_M_drain_51 (sM_lineOf hc hk) rfl rfl rfl (Nat.le_of_ble_eq_true rfl) (Nat.le_of_ble_eq_true rfl) (Nat.le_of_ble_eq_true rfl) (zGo.v ?_)
  refine e_istore_n (pc := 54) d_M_drain_54 (Nat.le_of_ble_eq_true rfl) ?_
  dsimp only [List.set]
  refine e_aload_n (pc := 55) d_M_drain_55 rfl ?_
  refine e_get (pc := 56) s_M_drain_56 rfl rfl ?_
  refine e_iconst (pc := 59) (v := 4) d_M_drain_59 (by decide) ?_
  refine e_iload_n (pc := 60) d_M_drain_60 rfl ?_
  refine e_imul (pc := 61) d_M_drain_61 ?_
  refine e_topi (y := nI (4 * c + 0)) (pk_mul 4 c) ?_
  refine e_iald (pc := 62) d_M_drain_62 rfl (vp_in_nI (by omega) (by decide)) (fx4 (j := 0) (nI_clamp (by omega)) (by decide)) ?_
  refine e_istore (pc := 63) d_M_drain_63 (Nat.le_of_ble_eq_true rfl) ?_
  dsimp only [List.set]
  refine e_aload_n (pc := 65) d_M_drain_65 rfl ?_
  refine e_get (pc := 66) s_M_drain_66 rfl rfl ?_
  refine e_iload_n (pc := 69) d_M_drain_69 rfl ?_
  refine e_iload (pc := 70) d_M_drain_70 rfl ?_
  refine e_iast (pc := 72) d_M_drain_72 rfl (vp_in_nI (by omega) (by decide)) (vVl (nI_clamp (by omega)) (Nat.mod_lt _ (by decide))) ?_
  refine e_aload_n (pc := 73) d_M_drain_73 rfl ?_
  refine e_get (pc := 74) s_M_drain_74 rfl rfl ?_
  refine e_iload_n (pc := 77) d_M_drain_77 rfl ?_
  refine e_iconst (pc := 78) (v := 3) d_M_drain_78 (by decide) ?_
  refine e_iast (pc := 79) d_M_drain_79 rfl (vp_in_nI (by omega) (by decide)) (vSt (nI_clamp (by omega)) (Nat.mod_lt _ (by decide))) ?_
  refine e_aload_n (pc := 80) d_M_drain_80 rfl ?_
  refine e_get (pc := 81) s_M_drain_81 rfl rfl ?_
  refine e_iload_n (pc := 84) d_M_drain_84 rfl ?_
  refine e_dup2 (pc := 85) d_M_drain_85 rfl rfl ?_
  refine e_iald (pc := 86) d_M_drain_86 rfl (vp_in_nI (by omega) (by decide)) ((fx1 (nI_clamp (by omega))).trans h6) ?_
  refine e_iconst (pc := 87) (v := 1) d_M_drain_87 (by decide) ?_
  refine e_isub (pc := 88) d_M_drain_88 ?_
  refine e_topi (y := nI 3) (by decide) ?_
  refine e_iast (pc := 89) d_M_drain_89 rfl (vp_in_nI (by omega) (by decide)) (vSz (nI_clamp (by omega))) ?_
  refine e_iconst (pc := 90) (v := 0) d_M_drain_90 (by decide) ?_
  refine e_istore (pc := 91) d_M_drain_91 (Nat.le_of_ble_eq_true rfl) ?_
  dsimp only [List.set]
  refine e_iload (pc := 93) d_M_drain_93 rfl ?_
  refine e_aload_n (pc := 95) d_M_drain_95 rfl ?_
  refine e_get (pc := 96) s_M_drain_96 rfl rfl ?_
  refine e_iload_n (pc := 99) d_M_drain_99 rfl ?_
  refine e_iald (pc := 100) d_M_drain_100 rfl (vp_in_nI (by omega) (by decide)) ((fx1 (nI_clamp (by omega))).trans (by simp [su, upd] : _ = nI 3)) ?_
  refine e_icmp_ge (pc := 101) (tgt := 158) d_M_drain_101 (by decide) (fun zz => absurd zz (by decide)) (fun _ => ?_)
  refine e_aload_n (pc := 104) d_M_drain_104 rfl ?_
  refine e_get (pc := 105) s_M_drain_105 rfl rfl ?_
  refine e_iconst (pc := 108) (v := 4) d_M_drain_108 (by decide) ?_
  refine e_iload_n (pc := 109) d_M_drain_109 rfl ?_
  refine e_imul (pc := 110) d_M_drain_110 ?_
  refine e_iload (pc := 111) d_M_drain_111 rfl ?_
  refine e_topi (y := nI 0) (by decide) ?_
  refine e_iadd (pc := 113) d_M_drain_113 ?_
  refine e_topi (y := nI (4 * c + 0)) (ixM 4 c 0) ?_
  refine e_aload_n (pc := 114) d_M_drain_114 rfl ?_
  refine e_get (pc := 115) s_M_drain_115 rfl rfl ?_
  refine e_iconst (pc := 118) (v := 4) d_M_drain_118 (by decide) ?_
  refine e_iload_n (pc := 119) d_M_drain_119 rfl ?_
  refine e_imul (pc := 120) d_M_drain_120 ?_
  refine e_iload (pc := 121) d_M_drain_121 rfl ?_
  refine e_topi (y := nI 0) (by decide) ?_
  refine e_iadd (pc := 123) d_M_drain_123 ?_
  refine e_topi (y := nI (4 * c + 0)) (ixM 4 c 0) ?_
  refine e_iconst (pc := 124) (v := 1) d_M_drain_124 (by decide) ?_
  refine e_iadd (pc := 125) d_M_drain_125 ?_
  refine e_topi (y := nI (4 * c + 1)) (nI_1 _) ?_
  refine e_iald (pc := 126) d_M_drain_126 rfl (vp_in_nI (by omega) (by decide)) (fx4 (j := 1) (nI_clamp (by omega)) (by decide)) ?_
  refine e_iast (pc := 127) d_M_drain_127 rfl (vp_in_nI (by omega) (by decide)) (vBa (a := 0) (nI_clamp (by omega)) (by decide)) ?_
  refine e_aload_n (pc := 128) d_M_drain_128 rfl ?_
  refine e_get (pc := 129) s_M_drain_129 rfl rfl ?_
  refine e_iconst (pc := 132) (v := 4) d_M_drain_132 (by decide) ?_
  refine e_iload_n (pc := 133) d_M_drain_133 rfl ?_
  refine e_imul (pc := 134) d_M_drain_134 ?_
  refine e_iload (pc := 135) d_M_drain_135 rfl ?_
  refine e_topi (y := nI 0) (by decide) ?_
  refine e_iadd (pc := 137) d_M_drain_137 ?_
  refine e_topi (y := nI (4 * c + 0)) (ixM 4 c 0) ?_
  refine e_aload_n (pc := 138) d_M_drain_138 rfl ?_
  refine e_get (pc := 139) s_M_drain_139 rfl rfl ?_
  refine e_iconst (pc := 142) (v := 4) d_M_drain_142 (by decide) ?_
  refine e_iload_n (pc := 143) d_M_drain_143 rfl ?_
  refine e_imul (pc := 144) d_M_drain_144 ?_
  refine e_iload (pc := 145) d_M_drain_145 rfl ?_
  refine e_topi (y := nI 0) (by decide) ?_
  refine e_iadd (pc := 147) d_M_drain_147 ?_
  refine e_topi (y := nI (4 * c + 0)) (ixM 4 c 0) ?_
  refine e_iconst (pc := 148) (v := 1) d_M_drain_148 (by decide) ?_
  refine e_iadd (pc := 149) d_M_drain_149 ?_
  refine e_topi (y := nI (4 * c + 1)) (nI_1 _) ?_
  refine e_iald (pc := 150) d_M_drain_150 rfl (vp_in_nI (by omega) (by decide)) (fx4 (j := 1) (nI_clamp (by omega)) (by decide)) ?_
  refine e_iast (pc := 151) d_M_drain_151 rfl (vp_in_nI (by omega) (by decide)) (vBv (a := 0) (nI_clamp (by omega)) (by decide)) ?_
  refine e_iinc (pc := 152) d_M_drain_152 rfl (Nat.le_of_ble_eq_true rfl) ?_
  dsimp only [List.set]
  refine e_goto (pc := 155) (tgt := 93) d_M_drain_155 (by decide) ?_
  refine e_iload (pc := 93) d_M_drain_93 rfl ?_
  refine e_aload_n (pc := 95) d_M_drain_95 rfl ?_
  refine e_get (pc := 96) s_M_drain_96 rfl rfl ?_
  refine e_iload_n (pc := 99) d_M_drain_99 rfl ?_
  refine e_iald (pc := 100) d_M_drain_100 rfl (vp_in_nI (by omega) (by decide)) ((fx1 (nI_clamp (by omega))).trans (by simp [su, upd] : _ = nI 3)) ?_
  refine e_icmp_ge (pc := 101) (tgt := 158) d_M_drain_101 (by decide) (fun zz => absurd zz (by decide)) (fun _ => ?_)
  refine e_aload_n (pc := 104) d_M_drain_104 rfl ?_
  refine e_get (pc := 105) s_M_drain_105 rfl rfl ?_
  refine e_iconst (pc := 108) (v := 4) d_M_drain_108 (by decide) ?_
  refine e_iload_n (pc := 109) d_M_drain_109 rfl ?_
  refine e_imul (pc := 110) d_M_drain_110 ?_
  refine e_iload (pc := 111) d_M_drain_111 rfl ?_
  refine e_topi (y := nI 1) (by decide) ?_
  refine e_iadd (pc := 113) d_M_drain_113 ?_
  refine e_topi (y := nI (4 * c + 1)) (ixM 4 c 1) ?_
  refine e_aload_n (pc := 114) d_M_drain_114 rfl ?_
  refine e_get (pc := 115) s_M_drain_115 rfl rfl ?_
  refine e_iconst (pc := 118) (v := 4) d_M_drain_118 (by decide) ?_
  refine e_iload_n (pc := 119) d_M_drain_119 rfl ?_
  refine e_imul (pc := 120) d_M_drain_120 ?_
  refine e_iload (pc := 121) d_M_drain_121 rfl ?_
  refine e_topi (y := nI 1) (by decide) ?_
  refine e_iadd (pc := 123) d_M_drain_123 ?_
  refine e_topi (y := nI (4 * c + 1)) (ixM 4 c 1) ?_
  refine e_iconst (pc := 124) (v := 1) d_M_drain_124 (by decide) ?_
  refine e_iadd (pc := 125) d_M_drain_125 ?_
  refine e_topi (y := nI (4 * c + 2)) (nI_1 _) ?_
  refine e_iald (pc := 126) d_M_drain_126 rfl (vp_in_nI (by omega) (by decide)) (fx4 (j := 2) (nI_clamp (by omega)) (by decide)) ?_
  refine e_iast (pc := 127) d_M_drain_127 rfl (vp_in_nI (by omega) (by decide)) (vBa (a := 1) (nI_clamp (by omega)) (by decide)) ?_
  refine e_aload_n (pc := 128) d_M_drain_128 rfl ?_
  refine e_get (pc := 129) s_M_drain_129 rfl rfl ?_
  refine e_iconst (pc := 132) (v := 4) d_M_drain_132 (by decide) ?_
  refine e_iload_n (pc := 133) d_M_drain_133 rfl ?_
  refine e_imul (pc := 134) d_M_drain_134 ?_
  refine e_iload (pc := 135) d_M_drain_135 rfl ?_
  refine e_topi (y := nI 1) (by decide) ?_
  refine e_iadd (pc := 137) d_M_drain_137 ?_
  refine e_topi (y := nI (4 * c + 1)) (ixM 4 c 1) ?_
  refine e_aload_n (pc := 138) d_M_drain_138 rfl ?_
  refine e_get (pc := 139) s_M_drain_139 rfl rfl ?_
  refine e_iconst (pc := 142) (v := 4) d_M_drain_142 (by decide) ?_
  refine e_iload_n (pc := 143) d_M_drain_143 rfl ?_
  refine e_imul (pc := 144) d_M_drain_144 ?_
  refine e_iload (pc := 145) d_M_drain_145 rfl ?_
  refine e_topi (y := nI 1) (by decide) ?_
  refine e_iadd (pc := 147) d_M_drain_147 ?_
  refine e_topi (y := nI (4 * c + 1)) (ixM 4 c 1) ?_
  refine e_iconst (pc := 148) (v := 1) d_M_drain_148 (by decide) ?_
  refine e_iadd (pc := 149) d_M_drain_149 ?_
  refine e_topi (y := nI (4 * c + 2)) (nI_1 _) ?_
  refine e_iald (pc := 150) d_M_drain_150 rfl (vp_in_nI (by omega) (by decide)) (fx4 (j := 2) (nI_clamp (by omega)) (by decide)) ?_
  refine e_iast (pc := 151) d_M_drain_151 rfl (vp_in_nI (by omega) (by decide)) (vBv (a := 1) (nI_clamp (by omega)) (by decide)) ?_
  refine e_iinc (pc := 152) d_M_drain_152 rfl (Nat.le_of_ble_eq_true rfl) ?_
  dsimp only [List.set]
  refine e_goto (pc := 155) (tgt := 93) d_M_drain_155 (by decide) ?_
  refine e_iload (pc := 93) d_M_drain_93 rfl ?_
  refine e_aload_n (pc := 95) d_M_drain_95 rfl ?_
  refine e_get (pc := 96) s_M_drain_96 rfl rfl ?_
  refine e_iload_n (pc := 99) d_M_drain_99 rfl ?_
  refine e_iald (pc := 100) d_M_drain_100 rfl (vp_in_nI (by omega) (by decide)) ((fx1 (nI_clamp (by omega))).trans (by simp [su, upd] : _ = nI 3)) ?_
  refine e_icmp_ge (pc := 101) (tgt := 158) d_M_drain_101 (by decide) (fun zz => absurd zz (by decide)) (fun _ => ?_)
  refine e_aload_n (pc := 104) d_M_drain_104 rfl ?_
  refine e_get (pc := 105) s_M_drain_105 rfl rfl ?_
  refine e_iconst (pc := 108) (v := 4) d_M_drain_108 (by decide) ?_
  refine e_iload_n (pc := 109) d_M_drain_109 rfl ?_
  refine e_imul (pc := 110) d_M_drain_110 ?_
  refine e_iload (pc := 111) d_M_drain_111 rfl ?_
  refine e_topi (y := nI 2) (by decide) ?_
  refine e_iadd (pc := 113) d_M_drain_113 ?_
  refine e_topi (y := nI (4 * c + 2)) (ixM 4 c 2) ?_
  refine e_aload_n (pc := 114) d_M_drain_114 rfl ?_
  refine e_get (pc := 115) s_M_drain_115 rfl rfl ?_
  refine e_iconst (pc := 118) (v := 4) d_M_drain_118 (by decide) ?_
  refine e_iload_n (pc := 119) d_M_drain_119 rfl ?_
  refine e_imul (pc := 120) d_M_drain_120 ?_
  refine e_iload (pc := 121) d_M_drain_121 rfl ?_
  refine e_topi (y := nI 2) (by decide) ?_
  refine e_iadd (pc := 123) d_M_drain_123 ?_
  refine e_topi (y := nI (4 * c + 2)) (ixM 4 c 2) ?_
  refine e_iconst (pc := 124) (v := 1) d_M_drain_124 (by decide) ?_
  refine e_iadd (pc := 125) d_M_drain_125 ?_
  refine e_topi (y := nI (4 * c + 3)) (nI_1 _) ?_
  refine e_iald (pc := 126) d_M_drain_126 rfl (vp_in_nI (by omega) (by decide)) (fx4 (j := 3) (nI_clamp (by omega)) (by decide)) ?_
  refine e_iast (pc := 127) d_M_drain_127 rfl (vp_in_nI (by omega) (by decide)) (vBa (a := 2) (nI_clamp (by omega)) (by decide)) ?_
  refine e_aload_n (pc := 128) d_M_drain_128 rfl ?_
  refine e_get (pc := 129) s_M_drain_129 rfl rfl ?_
  refine e_iconst (pc := 132) (v := 4) d_M_drain_132 (by decide) ?_
  refine e_iload_n (pc := 133) d_M_drain_133 rfl ?_
  refine e_imul (pc := 134) d_M_drain_134 ?_
  refine e_iload (pc := 135) d_M_drain_135 rfl ?_
  refine e_topi (y := nI 2) (by decide) ?_
  refine e_iadd (pc := 137) d_M_drain_137 ?_
  refine e_topi (y := nI (4 * c + 2)) (ixM 4 c 2) ?_
  refine e_aload_n (pc := 138) d_M_drain_138 rfl ?_
  refine e_get (pc := 139) s_M_drain_139 rfl rfl ?_
  refine e_iconst (pc := 142) (v := 4) d_M_drain_142 (by decide) ?_
  refine e_iload_n (pc := 143) d_M_drain_143 rfl ?_
  refine e_imul (pc := 144) d_M_drain_144 ?_
  refine e_iload (pc := 145) d_M_drain_145 rfl ?_
  refine e_topi (y := nI 2) (by decide) ?_
  refine e_iadd (pc := 147) d_M_drain_147 ?_
  refine e_topi (y := nI (4 * c + 2)) (ixM 4 c 2) ?_
  refine e_iconst (pc := 148) (v := 1) d_M_drain_148 (by decide) ?_
  refine e_iadd (pc := 149) d_M_drain_149 ?_
  refine e_topi (y := nI (4 * c + 3)) (nI_1 _) ?_
  refine e_iald (pc := 150) d_M_drain_150 rfl (vp_in_nI (by omega) (by decide)) (fx4 (j := 3) (nI_clamp (by omega)) (by decide)) ?_
  refine e_iast (pc := 151) d_M_drain_151 rfl (vp_in_nI (by omega) (by decide)) (vBv (a := 2) (nI_clamp (by omega)) (by decide)) ?_
  refine e_iinc (pc := 152) d_M_drain_152 rfl (Nat.le_of_ble_eq_true rfl) ?_
  dsimp only [List.set]
  refine e_goto (pc := 155) (tgt := 93) d_M_drain_155 (by decide) ?_
  refine e_iload (pc := 93) d_M_drain_93 rfl ?_
  refine e_aload_n (pc := 95) d_M_drain_95 rfl ?_
  refine e_get (pc := 96) s_M_drain_96 rfl rfl ?_
  refine e_iload_n (pc := 99) d_M_drain_99 rfl ?_
  refine e_iald (pc := 100) d_M_drain_100 rfl (vp_in_nI (by omega) (by decide)) ((fx1 (nI_clamp (by omega))).trans (by simp [su, upd] : _ = nI 3)) ?_
  refine e_icmp_ge (pc := 101) (tgt := 158) d_M_drain_101 (by decide) (fun _ => ?_) (fun zz => absurd (by decide) zz)
  refine e_aload_n (pc := 158) d_M_drain_158 rfl ?_
  refine e_iconst (pc := 159) (v := 1) d_M_drain_159 (by decide) ?_
  refine e_iload_n (pc := 160) d_M_drain_160 rfl ?_
  refine e_iload_n (pc := 161) d_M_drain_161 rfl ?_
  refine e_iload (pc := 162) d_M_drain_162 rfl ?_
  refine e_cV4 (pc := 164) s_M_drain_164 (sM_note hm h17) rfl rfl rfl (Nat.le_of_ble_eq_true rfl) (Nat.le_of_ble_eq_true rfl) (Nat.le_of_ble_eq_true rfl) (zGo.n ?_)
  refine e_iconst (pc := 167) (v := 1) d_M_drain_167 (by decide) ?_
  exact e_iret (pc := 168) d_M_drain_168 rfl rfl (Nat.le_of_ble_eq_true rfl) (Nat.le_of_ble_eq_true rfl) rfl
set_option maxHeartbeats 4000000 in
set_option maxRecDepth 100000 in
theorem sM_drain {l : Launch} {G : zGP} {K : Nat} {S T : St} {th : Int32} {fo : Nat → Int64} {c k n s m : Nat} (hc : c < 3) (hk : k < 8) (h0 : 0 < n) (hn : n ≤ 4) (hs : s < 4) (h6 : T 6 c 0 = nI n) (h7 : T 7 c 0 = nI k) (h9 : T 9 c (k % 2) = nI s) (hm : m < 1024) (h17 : T 17 0 0 = nI m) (ho : ownS T c k) : Rn l G m_M_drain [.ref 45, .int (nI c)] (hpA K S T th fo) (.inl (some (.int 1)), (hpA K S (drM T c k n m) 0 fo)) := by
  rcases (show n = 1 ∨ n = 2 ∨ n = 3 ∨ n = 4 by omega) with rfl | rfl | rfl | rfl
  · exact sM_drain1 hc hk hs h6 h7 h9 hm h17 ho
  · exact sM_drain2 hc hk hs h6 h7 h9 hm h17 ho
  · exact sM_drain3 hc hk hs h6 h7 h9 hm h17 ho
  · exact sM_drain4 hc hk hs h6 h7 h9 hm h17 ho
set_option maxHeartbeats 4000000 in
set_option maxRecDepth 100000 in
theorem sM_grantN {l : Launch} {G : zGP} {K : Nat} {S T : St} {th : Int32} {fo : Nat → Int64} {c : Nat} (hc : c < 3) (h : T 12 c 0 = 0 ∨ ¬ T 14 c 0 = 0) : Rn l G m_M_grant [.ref 45, .int (nI c)] (hpA K S T th fo) (.inl (some (.int 3)), (hpA K S T 0 fo)) := by
  refine Rn.of (by decide) rfl rfl (Nat.le_of_ble_eq_true rfl) rfl ?_
  show Ev l G m_M_grant 0 [.ref 45, .int (nI c), .double 0, .double 0, .double 0] [] (hpA K S T th fo) 0 0 _
  refine e_aload_n (pc := 0) d_M_grant_0 rfl ?_
  refine e_iload_n (pc := 1) d_M_grant_1 rfl ?_
  refine e_cV1 (pc := 2) s_M_grant_2 (sM_core hc) rfl rfl rfl (Nat.le_of_ble_eq_true rfl) (Nat.le_of_ble_eq_true rfl) (Nat.le_of_ble_eq_true rfl) (zGo.v ?_)
  refine e_if_ne (pc := 5) (tgt := 10) d_M_grant_5 (by decide) (fun _ => ?_) (fun zz => absurd zz (by decide))
  refine e_aload_n (pc := 10) d_M_grant_10 rfl ?_
  refine e_get (pc := 11) s_M_grant_11 rfl rfl ?_
  refine e_iload_n (pc := 14) d_M_grant_14 rfl ?_
  refine e_iald (pc := 15) d_M_grant_15 rfl (vp_in_nI (by omega) (by decide)) (fx1 (nI_clamp (by omega))) ?_
  refine e_if_eq (pc := 16) (tgt := 28) d_M_grant_16 (by decide) (fun hz1 => ?_) (fun hz1 => ?_)
  · refine e_iconst (pc := 28) (v := 3) d_M_grant_28 (by decide) ?_
    exact e_iret (pc := 29) d_M_grant_29 rfl rfl (Nat.le_of_ble_eq_true rfl) (Nat.le_of_ble_eq_true rfl) (by simp [hz1])
  · refine e_aload_n (pc := 19) d_M_grant_19 rfl ?_
    refine e_get (pc := 20) s_M_grant_20 rfl rfl ?_
    refine e_iload_n (pc := 23) d_M_grant_23 rfl ?_
    refine e_zald (pc := 24) d_M_grant_24 rfl (vp_in_nI (by omega) (by decide)) (fx1 (nI_clamp (by omega))) ?_
    refine e_if_eq (pc := 25) (tgt := 30) d_M_grant_25 (by decide) (fun hz2 => ?_) (fun hz2 => ?_)
    · exact absurd h (by simp [hz1, hz2])
    · refine e_iconst (pc := 28) (v := 3) d_M_grant_28 (by decide) ?_
      exact e_iret (pc := 29) d_M_grant_29 rfl rfl (Nat.le_of_ble_eq_true rfl) (Nat.le_of_ble_eq_true rfl) (by simp [hz1, hz2])
set_option maxHeartbeats 4000000 in
set_option maxRecDepth 100000 in
theorem sM_gw {l : Launch} {G : zGP} {K : Nat} {S T : St} {th : Int32} {fo : Nat → Int64} {c d k t : Nat} {lv w kd : Int32} {R : zRes} (hc : c < 3) (hd : d < 3) (hk : k < 8) (ht : t < 8) (hw : w = nI d) (h10 : T 10 d (k % 2) = nI t) (h12 : T 12 c 0 = kd) (kk : Ev l G m_M_grant 188 [.ref 45, .int (nI c), .int (nI k), .int lv, .int w] [] (hpA K S (gwS T d k kd) th fo) 0 0 R) : Ev l G m_M_grant 140 [.ref 45, .int (nI c), .int (nI k), .int lv, .int w] [] (hpA K S T th fo) 0 0 R := by
  refine e_aload_n (pc := 140) d_M_grant_140 rfl ?_
  refine e_iload (pc := 141) d_M_grant_141 rfl ?_
  refine e_topi (y := nI d) hw ?_
  refine e_iload_n (pc := 143) d_M_grant_143 rfl ?_
  refine e_cV2 (pc := 144) s_M_grant_144 (sM_has hd hk) rfl rfl rfl (Nat.le_of_ble_eq_true rfl) (Nat.le_of_ble_eq_true rfl) (Nat.le_of_ble_eq_true rfl) (zGo.v ?_)
  refine e_if_eq (pc := 147) (tgt := 188) d_M_grant_147 (by decide) (fun hz3 => ?_) (fun hz3 => ?_)
  · replace hz3 := b0.mp hz3
    exact (show gwS T d k kd = T from if_neg hz3) ▸ kk
  · replace hz3 := b1.mp hz3
    refine e_aload_n (pc := 150) d_M_grant_150 rfl ?_
    refine e_aload_n (pc := 151) d_M_grant_151 rfl ?_
    refine e_iload (pc := 152) d_M_grant_152 rfl ?_
    refine e_topi (y := nI d) hw ?_
    refine e_iload_n (pc := 154) d_M_grant_154 rfl ?_
    refine e_cV2 (pc := 155) s_M_grant_155 (sM_lineOf hd hk) rfl rfl rfl (Nat.le_of_ble_eq_true rfl) (Nat.le_of_ble_eq_true rfl) (Nat.le_of_ble_eq_true rfl) (zGo.v ?_)
    refine e_cV1 (pc := 158) s_M_grant_158 (sM_writeBack hd (Nat.mod_lt _ (by decide)) ht h10) rfl rfl rfl (Nat.le_of_ble_eq_true rfl) (Nat.le_of_ble_eq_true rfl) (Nat.le_of_ble_eq_true rfl) (zGo.n ?_)
    refine e_aload_n (pc := 161) d_M_grant_161 rfl ?_
    refine e_get (pc := 162) s_M_grant_162 rfl rfl ?_
    refine e_aload_n (pc := 165) d_M_grant_165 rfl ?_
    refine e_iload (pc := 166) d_M_grant_166 rfl ?_
    refine e_topi (y := nI d) hw ?_
    refine e_iload_n (pc := 168) d_M_grant_168 rfl ?_
    refine e_cV2 (pc := 169) s_M_grant_169 (sM_lineOf hd hk) rfl rfl rfl (Nat.le_of_ble_eq_true rfl) (Nat.le_of_ble_eq_true rfl) (Nat.le_of_ble_eq_true rfl) (zGo.v ?_)
    refine e_aload_n (pc := 172) d_M_grant_172 rfl ?_
    refine e_get (pc := 173) s_M_grant_173 rfl rfl ?_
    refine e_iload_n (pc := 176) d_M_grant_176 rfl ?_
    refine e_iald (pc := 177) d_M_grant_177 rfl (vp_in_nI (by omega) (by decide)) ((fx1 (nI_clamp (by omega))).trans ((congrFun (congrFun (wbS_o _ _ _ (by decide)) c) 0).trans h12)) ?_
    refine e_iconst (pc := 178) (v := 1) d_M_grant_178 (by decide) ?_
    refine e_icmp_ne (pc := 179) (tgt := 186) d_M_grant_179 (by decide) (fun hz4 => ?_) (fun hz4 => ?_)
    · refine e_iconst (pc := 186) (v := 0) d_M_grant_186 (by decide) ?_
      refine e_iast (pc := 187) d_M_grant_187 rfl (vp_in_nI (by omega) (by decide)) (vSt (nI_clamp (by omega)) (Nat.mod_lt _ (by decide))) ?_
      exact (show gwS T d k kd = _ from (if_pos hz3).trans (by rw [if_neg hz4])) ▸ kk
    · refine e_iconst (pc := 182) (v := 1) d_M_grant_182 (by decide) ?_
      refine e_goto (pc := 183) (tgt := 187) d_M_grant_183 (by decide) ?_
      refine e_iast (pc := 187) d_M_grant_187 rfl (vp_in_nI (by omega) (by decide)) (vSt (nI_clamp (by omega)) (Nat.mod_lt _ (by decide))) ?_
      exact (show gwS T d k kd = _ from (if_pos hz3).trans (by rw [if_pos hz4])) ▸ kk
set_option maxHeartbeats 4000000 in
set_option maxRecDepth 100000 in
theorem sM_grantB0 {l : Launch} {G : zGP} {K : Nat} {S T : St} {th : Int32} {fo : Nat → Int64} {k : Nat} (hk : k < 8) (h12 : ¬ T 12 0 0 = 0) (h14 : T 14 0 0 = 0) (h13 : T 13 0 0 = nI k) (he : elF T 0 k) : Rn l G m_M_grant [.ref 45, .int (nI 0)] (hpA K S T th fo) (.inl (some (.int 4)), (hpA K S T 0 fo)) := by
  refine Rn.of (by decide) rfl rfl (Nat.le_of_ble_eq_true rfl) rfl ?_
  show Ev l G m_M_grant 0 [.ref 45, .int (nI 0), .double 0, .double 0, .double 0] [] (hpA K S T th fo) 0 0 _
  refine e_aload_n (pc := 0) d_M_grant_0 rfl ?_
  refine e_iload_n (pc := 1) d_M_grant_1 rfl ?_
  refine e_cV1 (pc := 2) s_M_grant_2 (sM_core (c := 0) (by decide)) rfl rfl rfl (Nat.le_of_ble_eq_true rfl) (Nat.le_of_ble_eq_true rfl) (Nat.le_of_ble_eq_true rfl) (zGo.v ?_)
  refine e_if_ne (pc := 5) (tgt := 10) d_M_grant_5 (by decide) (fun _ => ?_) (fun zz => absurd zz (by decide))
  refine e_aload_n (pc := 10) d_M_grant_10 rfl ?_
  refine e_get (pc := 11) s_M_grant_11 rfl rfl ?_
  refine e_iload_n (pc := 14) d_M_grant_14 rfl ?_
  refine e_iald (pc := 15) d_M_grant_15 rfl (vp_dec (by decide)) (fx1 (c := 0) (by decide)) ?_
  refine e_if_eq (pc := 16) (tgt := 28) d_M_grant_16 (by decide) (fun zz => absurd zz (h12)) (fun _ => ?_)
  refine e_aload_n (pc := 19) d_M_grant_19 rfl ?_
  refine e_get (pc := 20) s_M_grant_20 rfl rfl ?_
  refine e_iload_n (pc := 23) d_M_grant_23 rfl ?_
  refine e_zald (pc := 24) d_M_grant_24 rfl (vp_dec (by decide)) (fx1 (c := 0) (by decide)) ?_
  refine e_if_eq (pc := 25) (tgt := 30) d_M_grant_25 (by decide) (fun _ => ?_) (fun zz => absurd (h14) zz)
  refine e_aload_n (pc := 30) d_M_grant_30 rfl ?_
  refine e_get (pc := 31) s_M_grant_31 rfl rfl ?_
  refine e_iload_n (pc := 34) d_M_grant_34 rfl ?_
  refine e_iald (pc := 35) d_M_grant_35 rfl (vp_dec (by decide)) (((fx1 (c := 0) (by decide))).trans h13) ?_
  refine e_istore_n (pc := 36) d_M_grant_36 (Nat.le_of_ble_eq_true rfl) ?_
  dsimp only [List.set]
  refine e_iconst (pc := 37) (v := 0) d_M_grant_37 (by decide) ?_
  refine e_istore_n (pc := 38) d_M_grant_38 (Nat.le_of_ble_eq_true rfl) ?_
  dsimp only [List.set]
  refine e_iload_n (pc := 39) d_M_grant_39 rfl ?_
  refine e_iconst (pc := 40) (v := 3) d_M_grant_40 (by decide) ?_
  refine e_icmp_ge (pc := 41) (tgt := 76) d_M_grant_41 (by decide) (fun zz => absurd zz (by decide)) (fun _ => ?_)
  refine e_iload_n (pc := 44) d_M_grant_44 rfl ?_
  refine e_iload_n (pc := 45) d_M_grant_45 rfl ?_
  refine e_icmp_eq (pc := 46) (tgt := 70) d_M_grant_46 (by decide) (fun _ => ?_) (fun zz => absurd (by decide) zz)
  refine e_iinc (pc := 70) d_M_grant_70 rfl (Nat.le_of_ble_eq_true rfl) ?_
  dsimp only [List.set]
  refine e_goto (pc := 73) (tgt := 39) d_M_grant_73 (by decide) ?_
  refine e_iload_n (pc := 39) d_M_grant_39 rfl ?_
  refine e_iconst (pc := 40) (v := 3) d_M_grant_40 (by decide) ?_
  refine e_icmp_ge (pc := 41) (tgt := 76) d_M_grant_41 (by decide) (fun zz => absurd zz (by decide)) (fun _ => ?_)
  refine e_iload_n (pc := 44) d_M_grant_44 rfl ?_
  refine e_iload_n (pc := 45) d_M_grant_45 rfl ?_
  refine e_icmp_eq (pc := 46) (tgt := 70) d_M_grant_46 (by decide) (fun zz => absurd zz (by decide)) (fun _ => ?_)
  refine e_aload_n (pc := 49) d_M_grant_49 rfl ?_
  refine e_get (pc := 50) s_M_grant_50 rfl rfl ?_
  refine e_iload_n (pc := 53) d_M_grant_53 rfl ?_
  refine e_zald (pc := 54) d_M_grant_54 rfl (vp_dec (by decide)) (fx1 (c := 1) (by decide)) ?_
  refine e_if_eq (pc := 55) (tgt := 70) d_M_grant_55 (by decide) (fun hz5 => ?_) (fun hz5 => ?_)
  · refine e_iinc (pc := 70) d_M_grant_70 rfl (Nat.le_of_ble_eq_true rfl) ?_
    dsimp only [List.set]
    refine e_goto (pc := 73) (tgt := 39) d_M_grant_73 (by decide) ?_
    refine e_iload_n (pc := 39) d_M_grant_39 rfl ?_
    refine e_iconst (pc := 40) (v := 3) d_M_grant_40 (by decide) ?_
    refine e_icmp_ge (pc := 41) (tgt := 76) d_M_grant_41 (by decide) (fun zz => absurd zz (by decide)) (fun _ => ?_)
    refine e_iload_n (pc := 44) d_M_grant_44 rfl ?_
    refine e_iload_n (pc := 45) d_M_grant_45 rfl ?_
    refine e_icmp_eq (pc := 46) (tgt := 70) d_M_grant_46 (by decide) (fun zz => absurd zz (by decide)) (fun _ => ?_)
    refine e_aload_n (pc := 49) d_M_grant_49 rfl ?_
    refine e_get (pc := 50) s_M_grant_50 rfl rfl ?_
    refine e_iload_n (pc := 53) d_M_grant_53 rfl ?_
    refine e_zald (pc := 54) d_M_grant_54 rfl (vp_dec (by decide)) (fx1 (c := 2) (by decide)) ?_
    refine e_if_eq (pc := 55) (tgt := 70) d_M_grant_55 (by decide) (fun hz6 => ?_) (fun hz6 => ?_)
    · refine e_iinc (pc := 70) d_M_grant_70 rfl (Nat.le_of_ble_eq_true rfl) ?_
      dsimp only [List.set]
      refine e_goto (pc := 73) (tgt := 39) d_M_grant_73 (by decide) ?_
      refine e_iload_n (pc := 39) d_M_grant_39 rfl ?_
      refine e_iconst (pc := 40) (v := 3) d_M_grant_40 (by decide) ?_
      refine e_icmp_ge (pc := 41) (tgt := 76) d_M_grant_41 (by decide) (fun _ => ?_) (fun zz => absurd (by decide) zz)
      exact absurd he (by simp [elF, flyS, hz5, hz6])
    · refine e_aload_n (pc := 58) d_M_grant_58 rfl ?_
      refine e_get (pc := 59) s_M_grant_59 rfl rfl ?_
      refine e_iload_n (pc := 62) d_M_grant_62 rfl ?_
      refine e_iald (pc := 63) d_M_grant_63 rfl (vp_dec (by decide)) (fx1 (c := 2) (by decide)) ?_
      refine e_iload_n (pc := 64) d_M_grant_64 rfl ?_
      refine e_icmp_ne (pc := 65) (tgt := 70) d_M_grant_65 (by decide) (fun hz7 => ?_) (fun hz7 => ?_)
      · refine e_iinc (pc := 70) d_M_grant_70 rfl (Nat.le_of_ble_eq_true rfl) ?_
        dsimp only [List.set]
        refine e_goto (pc := 73) (tgt := 39) d_M_grant_73 (by decide) ?_
        refine e_iload_n (pc := 39) d_M_grant_39 rfl ?_
        refine e_iconst (pc := 40) (v := 3) d_M_grant_40 (by decide) ?_
        refine e_icmp_ge (pc := 41) (tgt := 76) d_M_grant_41 (by decide) (fun _ => ?_) (fun zz => absurd (by decide) zz)
        exact absurd he (by simp [elF, flyS, hz5, hz6, hz7])
      · refine e_iconst (pc := 68) (v := 4) d_M_grant_68 (by decide) ?_
        exact e_iret (pc := 69) d_M_grant_69 rfl rfl (Nat.le_of_ble_eq_true rfl) (Nat.le_of_ble_eq_true rfl) (by simp [hz5, hz6, hz7])
  · refine e_aload_n (pc := 58) d_M_grant_58 rfl ?_
    refine e_get (pc := 59) s_M_grant_59 rfl rfl ?_
    refine e_iload_n (pc := 62) d_M_grant_62 rfl ?_
    refine e_iald (pc := 63) d_M_grant_63 rfl (vp_dec (by decide)) (fx1 (c := 1) (by decide)) ?_
    refine e_iload_n (pc := 64) d_M_grant_64 rfl ?_
    refine e_icmp_ne (pc := 65) (tgt := 70) d_M_grant_65 (by decide) (fun hz8 => ?_) (fun hz8 => ?_)
    · refine e_iinc (pc := 70) d_M_grant_70 rfl (Nat.le_of_ble_eq_true rfl) ?_
      dsimp only [List.set]
      refine e_goto (pc := 73) (tgt := 39) d_M_grant_73 (by decide) ?_
      refine e_iload_n (pc := 39) d_M_grant_39 rfl ?_
      refine e_iconst (pc := 40) (v := 3) d_M_grant_40 (by decide) ?_
      refine e_icmp_ge (pc := 41) (tgt := 76) d_M_grant_41 (by decide) (fun zz => absurd zz (by decide)) (fun _ => ?_)
      refine e_iload_n (pc := 44) d_M_grant_44 rfl ?_
      refine e_iload_n (pc := 45) d_M_grant_45 rfl ?_
      refine e_icmp_eq (pc := 46) (tgt := 70) d_M_grant_46 (by decide) (fun zz => absurd zz (by decide)) (fun _ => ?_)
      refine e_aload_n (pc := 49) d_M_grant_49 rfl ?_
      refine e_get (pc := 50) s_M_grant_50 rfl rfl ?_
      refine e_iload_n (pc := 53) d_M_grant_53 rfl ?_
      refine e_zald (pc := 54) d_M_grant_54 rfl (vp_dec (by decide)) (fx1 (c := 2) (by decide)) ?_
      refine e_if_eq (pc := 55) (tgt := 70) d_M_grant_55 (by decide) (fun hz9 => ?_) (fun hz9 => ?_)
      · refine e_iinc (pc := 70) d_M_grant_70 rfl (Nat.le_of_ble_eq_true rfl) ?_
        dsimp only [List.set]
        refine e_goto (pc := 73) (tgt := 39) d_M_grant_73 (by decide) ?_
        refine e_iload_n (pc := 39) d_M_grant_39 rfl ?_
        refine e_iconst (pc := 40) (v := 3) d_M_grant_40 (by decide) ?_
        refine e_icmp_ge (pc := 41) (tgt := 76) d_M_grant_41 (by decide) (fun _ => ?_) (fun zz => absurd (by decide) zz)
        exact absurd he (by simp [elF, flyS, hz5, hz8, hz9])
      · refine e_aload_n (pc := 58) d_M_grant_58 rfl ?_
        refine e_get (pc := 59) s_M_grant_59 rfl rfl ?_
        refine e_iload_n (pc := 62) d_M_grant_62 rfl ?_
        refine e_iald (pc := 63) d_M_grant_63 rfl (vp_dec (by decide)) (fx1 (c := 2) (by decide)) ?_
        refine e_iload_n (pc := 64) d_M_grant_64 rfl ?_
        refine e_icmp_ne (pc := 65) (tgt := 70) d_M_grant_65 (by decide) (fun hz10 => ?_) (fun hz10 => ?_)
        · refine e_iinc (pc := 70) d_M_grant_70 rfl (Nat.le_of_ble_eq_true rfl) ?_
          dsimp only [List.set]
          refine e_goto (pc := 73) (tgt := 39) d_M_grant_73 (by decide) ?_
          refine e_iload_n (pc := 39) d_M_grant_39 rfl ?_
          refine e_iconst (pc := 40) (v := 3) d_M_grant_40 (by decide) ?_
          refine e_icmp_ge (pc := 41) (tgt := 76) d_M_grant_41 (by decide) (fun _ => ?_) (fun zz => absurd (by decide) zz)
          exact absurd he (by simp [elF, flyS, hz5, hz8, hz9, hz10])
        · refine e_iconst (pc := 68) (v := 4) d_M_grant_68 (by decide) ?_
          exact e_iret (pc := 69) d_M_grant_69 rfl rfl (Nat.le_of_ble_eq_true rfl) (Nat.le_of_ble_eq_true rfl) (by simp [hz5, hz8, hz9, hz10])
    · refine e_iconst (pc := 68) (v := 4) d_M_grant_68 (by decide) ?_
      exact e_iret (pc := 69) d_M_grant_69 rfl rfl (Nat.le_of_ble_eq_true rfl) (Nat.le_of_ble_eq_true rfl) (by simp [hz5, hz8])
set_option maxHeartbeats 4000000 in
set_option maxRecDepth 100000 in
theorem sM_gT0 {l : Launch} {G : zGP} {K : Nat} {S T : St} {th : Int32} {fo : Nat → Int64} {k t0 t1 t2 : Nat} {kd : Int32} (hk : k < 8) (h12 : T 12 0 0 = kd) (ht0 : t0 < 8) (ht1 : t1 < 8) (ht2 : t2 < 8) (h100 : T 10 0 (k % 2) = nI t0) (h101 : T 10 1 (k % 2) = nI t1) (h102 : T 10 2 (k % 2) = nI t2) : Ev l G m_M_grant 114 [.ref 45, .int (nI 0), .int (nI k), .int (nI (2 * 0 + k % 2)), .double 0] [] (hpA K S T th fo) 0 0 (.inl (some (.int 1)), (hpA K S (su (gr2 (su T 15 0 0 (wdM T k)) 0 k kd) 14 0 0 1) th fo)) := by
  refine e_aload_n (pc := 114) d_M_grant_114 rfl ?_
  refine e_get (pc := 115) s_M_grant_115 rfl rfl ?_
  refine e_iload_n (pc := 118) d_M_grant_118 rfl ?_
  refine e_aload_n (pc := 119) d_M_grant_119 rfl ?_
  refine e_iload_n (pc := 120) d_M_grant_120 rfl ?_
  refine e_cV1 (pc := 121) s_M_grant_121 (sM_wordAt hk) rfl rfl rfl (Nat.le_of_ble_eq_true rfl) (Nat.le_of_ble_eq_true rfl) (Nat.le_of_ble_eq_true rfl) (zGo.v ?_)
  refine e_iast (pc := 124) d_M_grant_124 rfl (vp_dec (by decide)) (vWv (c := 0) (by decide)) ?_
  refine e_iconst (pc := 125) (v := 0) d_M_grant_125 (by decide) ?_
  refine e_istore (pc := 126) d_M_grant_126 (Nat.le_of_ble_eq_true rfl) ?_
  dsimp only [List.set]
  refine e_iload (pc := 128) d_M_grant_128 rfl ?_
  refine e_iconst (pc := 130) (v := 3) d_M_grant_130 (by decide) ?_
  refine e_icmp_ge (pc := 131) (tgt := 194) d_M_grant_131 (by decide) (fun zz => absurd zz (by decide)) (fun _ => ?_)
  refine e_iload (pc := 134) d_M_grant_134 rfl ?_
  refine e_iload_n (pc := 136) d_M_grant_136 rfl ?_
  refine e_icmp_eq (pc := 137) (tgt := 188) d_M_grant_137 (by decide) (fun _ => ?_) (fun zz => absurd (by decide) zz)
  refine e_iinc (pc := 188) d_M_grant_188 rfl (Nat.le_of_ble_eq_true rfl) ?_
  dsimp only [List.set]
  refine e_goto (pc := 191) (tgt := 128) d_M_grant_191 (by decide) ?_
  refine e_iload (pc := 128) d_M_grant_128 rfl ?_
  refine e_iconst (pc := 130) (v := 3) d_M_grant_130 (by decide) ?_
  refine e_icmp_ge (pc := 131) (tgt := 194) d_M_grant_131 (by decide) (fun zz => absurd zz (by decide)) (fun _ => ?_)
  refine e_iload (pc := 134) d_M_grant_134 rfl ?_
  refine e_iload_n (pc := 136) d_M_grant_136 rfl ?_
  refine e_icmp_eq (pc := 137) (tgt := 188) d_M_grant_137 (by decide) (fun zz => absurd zz (by decide)) (fun _ => ?_)
  refine sM_gw (c := 0) (d := 1) (kd := kd) (by decide) (by decide) hk ht1 (by decide) h101 h12 ?_
  refine e_iinc (pc := 188) d_M_grant_188 rfl (Nat.le_of_ble_eq_true rfl) ?_
  dsimp only [List.set]
  refine e_goto (pc := 191) (tgt := 128) d_M_grant_191 (by decide) ?_
  refine e_iload (pc := 128) d_M_grant_128 rfl ?_
  refine e_iconst (pc := 130) (v := 3) d_M_grant_130 (by decide) ?_
  refine e_icmp_ge (pc := 131) (tgt := 194) d_M_grant_131 (by decide) (fun zz => absurd zz (by decide)) (fun _ => ?_)
  refine e_iload (pc := 134) d_M_grant_134 rfl ?_
  refine e_iload_n (pc := 136) d_M_grant_136 rfl ?_
  refine e_icmp_eq (pc := 137) (tgt := 188) d_M_grant_137 (by decide) (fun zz => absurd zz (by decide)) (fun _ => ?_)
  refine sM_gw (c := 0) (d := 2) (kd := kd) (by decide) (by decide) hk ht2 (by decide) (by rw [gwS_o _ _ _ _ (by decide) (by decide)]; exact h102) (by rw [gwS_o _ _ _ _ (by decide) (by decide)]; exact h12) ?_
  refine e_iinc (pc := 188) d_M_grant_188 rfl (Nat.le_of_ble_eq_true rfl) ?_
  dsimp only [List.set]
  refine e_goto (pc := 191) (tgt := 128) d_M_grant_191 (by decide) ?_
  refine e_iload (pc := 128) d_M_grant_128 rfl ?_
  refine e_iconst (pc := 130) (v := 3) d_M_grant_130 (by decide) ?_
  refine e_icmp_ge (pc := 131) (tgt := 194) d_M_grant_131 (by decide) (fun _ => ?_) (fun zz => absurd (by decide) zz)
  refine e_aload_n (pc := 194) d_M_grant_194 rfl ?_
  refine e_get (pc := 195) s_M_grant_195 rfl rfl ?_
  refine e_iload_n (pc := 198) d_M_grant_198 rfl ?_
  refine e_iconst (pc := 199) (v := 1) d_M_grant_199 (by decide) ?_
  refine e_zast (pc := 200) d_M_grant_200 rfl (vp_dec (by decide)) (Or.inr rfl) (vWf (c := 0) (by decide)) ?_
  refine e_iconst (pc := 201) (v := 1) d_M_grant_201 (by decide) ?_
  exact e_iret (pc := 202) d_M_grant_202 rfl rfl (Nat.le_of_ble_eq_true rfl) (Nat.le_of_ble_eq_true rfl) rfl
set_option maxHeartbeats 4000000 in
set_option maxRecDepth 100000 in
theorem sM_grant0 {l : Launch} {G : zGP} {K : Nat} {S T : St} {th : Int32} {fo : Nat → Int64} {k t0 t1 t2 : Nat} (hk : k < 8) (h12 : ¬ T 12 0 0 = 0) (h14 : T 14 0 0 = 0) (h13 : T 13 0 0 = nI k) (he : ¬ elF T 0 k) (ht0 : t0 < 8) (ht1 : t1 < 8) (ht2 : t2 < 8) (h100 : T 10 0 (k % 2) = nI t0) (h101 : T 10 1 (k % 2) = nI t1) (h102 : T 10 2 (k % 2) = nI t2) : Rn l G m_M_grant [.ref 45, .int (nI 0)] (hpA K S T th fo) (.inl (some (.int 1)), (hpA K S (gnM T 0 k) 0 fo)) := by
  refine Rn.of (by decide) rfl rfl (Nat.le_of_ble_eq_true rfl) rfl ?_
  show Ev l G m_M_grant 0 [.ref 45, .int (nI 0), .double 0, .double 0, .double 0] [] (hpA K S T th fo) 0 0 _
  refine e_aload_n (pc := 0) d_M_grant_0 rfl ?_
  refine e_iload_n (pc := 1) d_M_grant_1 rfl ?_
  refine e_cV1 (pc := 2) s_M_grant_2 (sM_core (c := 0) (by decide)) rfl rfl rfl (Nat.le_of_ble_eq_true rfl) (Nat.le_of_ble_eq_true rfl) (Nat.le_of_ble_eq_true rfl) (zGo.v ?_)
  refine e_if_ne (pc := 5) (tgt := 10) d_M_grant_5 (by decide) (fun _ => ?_) (fun zz => absurd zz (by decide))
  refine e_aload_n (pc := 10) d_M_grant_10 rfl ?_
  refine e_get (pc := 11) s_M_grant_11 rfl rfl ?_
  refine e_iload_n (pc := 14) d_M_grant_14 rfl ?_
  refine e_iald (pc := 15) d_M_grant_15 rfl (vp_dec (by decide)) (fx1 (c := 0) (by decide)) ?_
  refine e_if_eq (pc := 16) (tgt := 28) d_M_grant_16 (by decide) (fun zz => absurd zz (h12)) (fun _ => ?_)
  refine e_aload_n (pc := 19) d_M_grant_19 rfl ?_
  refine e_get (pc := 20) s_M_grant_20 rfl rfl ?_
  refine e_iload_n (pc := 23) d_M_grant_23 rfl ?_
  refine e_zald (pc := 24) d_M_grant_24 rfl (vp_dec (by decide)) (fx1 (c := 0) (by decide)) ?_
  refine e_if_eq (pc := 25) (tgt := 30) d_M_grant_25 (by decide) (fun _ => ?_) (fun zz => absurd (h14) zz)
  refine e_aload_n (pc := 30) d_M_grant_30 rfl ?_
  refine e_get (pc := 31) s_M_grant_31 rfl rfl ?_
  refine e_iload_n (pc := 34) d_M_grant_34 rfl ?_
  refine e_iald (pc := 35) d_M_grant_35 rfl (vp_dec (by decide)) (((fx1 (c := 0) (by decide))).trans h13) ?_
  refine e_istore_n (pc := 36) d_M_grant_36 (Nat.le_of_ble_eq_true rfl) ?_
  dsimp only [List.set]
  refine e_iconst (pc := 37) (v := 0) d_M_grant_37 (by decide) ?_
  refine e_istore_n (pc := 38) d_M_grant_38 (Nat.le_of_ble_eq_true rfl) ?_
  dsimp only [List.set]
  refine e_iload_n (pc := 39) d_M_grant_39 rfl ?_
  refine e_iconst (pc := 40) (v := 3) d_M_grant_40 (by decide) ?_
  refine e_icmp_ge (pc := 41) (tgt := 76) d_M_grant_41 (by decide) (fun zz => absurd zz (by decide)) (fun _ => ?_)
  refine e_iload_n (pc := 44) d_M_grant_44 rfl ?_
  refine e_iload_n (pc := 45) d_M_grant_45 rfl ?_
  refine e_icmp_eq (pc := 46) (tgt := 70) d_M_grant_46 (by decide) (fun _ => ?_) (fun zz => absurd (by decide) zz)
  refine e_iinc (pc := 70) d_M_grant_70 rfl (Nat.le_of_ble_eq_true rfl) ?_
  dsimp only [List.set]
  refine e_goto (pc := 73) (tgt := 39) d_M_grant_73 (by decide) ?_
  refine e_iload_n (pc := 39) d_M_grant_39 rfl ?_
  refine e_iconst (pc := 40) (v := 3) d_M_grant_40 (by decide) ?_
  refine e_icmp_ge (pc := 41) (tgt := 76) d_M_grant_41 (by decide) (fun zz => absurd zz (by decide)) (fun _ => ?_)
  refine e_iload_n (pc := 44) d_M_grant_44 rfl ?_
  refine e_iload_n (pc := 45) d_M_grant_45 rfl ?_
  refine e_icmp_eq (pc := 46) (tgt := 70) d_M_grant_46 (by decide) (fun zz => absurd zz (by decide)) (fun _ => ?_)
  refine e_aload_n (pc := 49) d_M_grant_49 rfl ?_
  refine e_get (pc := 50) s_M_grant_50 rfl rfl ?_
  refine e_iload_n (pc := 53) d_M_grant_53 rfl ?_
  refine e_zald (pc := 54) d_M_grant_54 rfl (vp_dec (by decide)) (fx1 (c := 1) (by decide)) ?_
  refine e_if_eq (pc := 55) (tgt := 70) d_M_grant_55 (by decide) (fun hz11 => ?_) (fun hz11 => ?_)
  · refine e_iinc (pc := 70) d_M_grant_70 rfl (Nat.le_of_ble_eq_true rfl) ?_
    dsimp only [List.set]
    refine e_goto (pc := 73) (tgt := 39) d_M_grant_73 (by decide) ?_
    refine e_iload_n (pc := 39) d_M_grant_39 rfl ?_
    refine e_iconst (pc := 40) (v := 3) d_M_grant_40 (by decide) ?_
    refine e_icmp_ge (pc := 41) (tgt := 76) d_M_grant_41 (by decide) (fun zz => absurd zz (by decide)) (fun _ => ?_)
    refine e_iload_n (pc := 44) d_M_grant_44 rfl ?_
    refine e_iload_n (pc := 45) d_M_grant_45 rfl ?_
    refine e_icmp_eq (pc := 46) (tgt := 70) d_M_grant_46 (by decide) (fun zz => absurd zz (by decide)) (fun _ => ?_)
    refine e_aload_n (pc := 49) d_M_grant_49 rfl ?_
    refine e_get (pc := 50) s_M_grant_50 rfl rfl ?_
    refine e_iload_n (pc := 53) d_M_grant_53 rfl ?_
    refine e_zald (pc := 54) d_M_grant_54 rfl (vp_dec (by decide)) (fx1 (c := 2) (by decide)) ?_
    refine e_if_eq (pc := 55) (tgt := 70) d_M_grant_55 (by decide) (fun hz12 => ?_) (fun hz12 => ?_)
    · refine e_iinc (pc := 70) d_M_grant_70 rfl (Nat.le_of_ble_eq_true rfl) ?_
      dsimp only [List.set]
      refine e_goto (pc := 73) (tgt := 39) d_M_grant_73 (by decide) ?_
      refine e_iload_n (pc := 39) d_M_grant_39 rfl ?_
      refine e_iconst (pc := 40) (v := 3) d_M_grant_40 (by decide) ?_
      refine e_icmp_ge (pc := 41) (tgt := 76) d_M_grant_41 (by decide) (fun _ => ?_) (fun zz => absurd (by decide) zz)
      refine e_aload_n (pc := 76) d_M_grant_76 rfl ?_
      refine e_iload_n (pc := 77) d_M_grant_77 rfl ?_
      refine e_iload_n (pc := 78) d_M_grant_78 rfl ?_
      refine e_cV2 (pc := 79) s_M_grant_79 (sM_lineOf (c := 0) (by decide) hk) rfl rfl rfl (Nat.le_of_ble_eq_true rfl) (Nat.le_of_ble_eq_true rfl) (Nat.le_of_ble_eq_true rfl) (zGo.v ?_)
      refine e_istore_n (pc := 82) d_M_grant_82 (Nat.le_of_ble_eq_true rfl) ?_
      dsimp only [List.set]
      refine e_aload_n (pc := 83) d_M_grant_83 rfl ?_
      refine e_get (pc := 84) s_M_grant_84 rfl rfl ?_
      refine e_iload_n (pc := 87) d_M_grant_87 rfl ?_
      refine e_iald (pc := 88) d_M_grant_88 rfl (vp_in_nI (by omega) (by decide)) (fx2 (c := 0) (nI_clamp (by omega)) (Nat.mod_lt _ (by decide))) ?_
      refine e_if_eq (pc := 89) (tgt := 114) d_M_grant_89 (by decide) (fun hz13 => ?_) (fun hz13 => ?_)
      · have hg := show gmS T 0 k = T from if_neg (fun q => q.1 hz13)
        have q := sM_gT0 (l := l) (G := G) (K := K) (S := S) (T := gmS T 0 k) (th := 0) (fo := fo) (kd := T 12 0 0) hk (by rw [gmS_o _ _ _ (by decide) (by decide)]) ht0 ht1 ht2 (by rw [gmS_o _ _ _ (by decide) (by decide)]; exact h100) (by rw [gmS_o _ _ _ (by decide) (by decide)]; exact h101) (by rw [gmS_o _ _ _ (by decide) (by decide)]; exact h102)
        unfold gnM
        rw [hg] at q ⊢
        exact q
      · refine e_aload_n (pc := 92) d_M_grant_92 rfl ?_
        refine e_get (pc := 93) s_M_grant_93 rfl rfl ?_
        refine e_iload_n (pc := 96) d_M_grant_96 rfl ?_
        refine e_iald (pc := 97) d_M_grant_97 rfl (vp_in_nI (by omega) (by decide)) (fx2 (c := 0) (nI_clamp (by omega)) (Nat.mod_lt _ (by decide))) ?_
        refine e_iload_n (pc := 98) d_M_grant_98 rfl ?_
        refine e_icmp_eq (pc := 99) (tgt := 114) d_M_grant_99 (by decide) (fun hz14 => ?_) (fun hz14 => ?_)
        · have hg := show gmS T 0 k = T from if_neg (fun q => q.2 hz14)
          have q := sM_gT0 (l := l) (G := G) (K := K) (S := S) (T := gmS T 0 k) (th := 0) (fo := fo) (kd := T 12 0 0) hk (by rw [gmS_o _ _ _ (by decide) (by decide)]) ht0 ht1 ht2 (by rw [gmS_o _ _ _ (by decide) (by decide)]; exact h100) (by rw [gmS_o _ _ _ (by decide) (by decide)]; exact h101) (by rw [gmS_o _ _ _ (by decide) (by decide)]; exact h102)
          unfold gnM
          rw [hg] at q ⊢
          exact q
        · refine e_aload_n (pc := 102) d_M_grant_102 rfl ?_
          refine e_iload_n (pc := 103) d_M_grant_103 rfl ?_
          refine e_cV1 (pc := 104) s_M_grant_104 (sM_writeBack (c := 0) (by decide) (Nat.mod_lt _ (by decide)) ht0 h100) rfl rfl rfl (Nat.le_of_ble_eq_true rfl) (Nat.le_of_ble_eq_true rfl) (Nat.le_of_ble_eq_true rfl) (zGo.n ?_)
          refine e_aload_n (pc := 107) d_M_grant_107 rfl ?_
          refine e_get (pc := 108) s_M_grant_108 rfl rfl ?_
          refine e_iload_n (pc := 111) d_M_grant_111 rfl ?_
          refine e_iconst (pc := 112) (v := 0) d_M_grant_112 (by decide) ?_
          refine e_iast (pc := 113) d_M_grant_113 rfl (vp_in_nI (by omega) (by decide)) (vSt (c := 0) (nI_clamp (by omega)) (Nat.mod_lt _ (by decide))) ?_
          have hg := show gmS T 0 k = _ from if_pos ⟨hz13, hz14⟩
          have q := sM_gT0 (l := l) (G := G) (K := K) (S := S) (T := gmS T 0 k) (th := 0) (fo := fo) (kd := T 12 0 0) hk (by rw [gmS_o _ _ _ (by decide) (by decide)]) ht0 ht1 ht2 (by rw [gmS_o _ _ _ (by decide) (by decide)]; exact h100) (by rw [gmS_o _ _ _ (by decide) (by decide)]; exact h101) (by rw [gmS_o _ _ _ (by decide) (by decide)]; exact h102)
          unfold gnM
          rw [hg] at q ⊢
          exact q
    · refine e_aload_n (pc := 58) d_M_grant_58 rfl ?_
      refine e_get (pc := 59) s_M_grant_59 rfl rfl ?_
      refine e_iload_n (pc := 62) d_M_grant_62 rfl ?_
      refine e_iald (pc := 63) d_M_grant_63 rfl (vp_dec (by decide)) (fx1 (c := 2) (by decide)) ?_
      refine e_iload_n (pc := 64) d_M_grant_64 rfl ?_
      refine e_icmp_ne (pc := 65) (tgt := 70) d_M_grant_65 (by decide) (fun hz15 => ?_) (fun hz15 => ?_)
      · refine e_iinc (pc := 70) d_M_grant_70 rfl (Nat.le_of_ble_eq_true rfl) ?_
        dsimp only [List.set]
        refine e_goto (pc := 73) (tgt := 39) d_M_grant_73 (by decide) ?_
        refine e_iload_n (pc := 39) d_M_grant_39 rfl ?_
        refine e_iconst (pc := 40) (v := 3) d_M_grant_40 (by decide) ?_
        refine e_icmp_ge (pc := 41) (tgt := 76) d_M_grant_41 (by decide) (fun _ => ?_) (fun zz => absurd (by decide) zz)
        refine e_aload_n (pc := 76) d_M_grant_76 rfl ?_
        refine e_iload_n (pc := 77) d_M_grant_77 rfl ?_
        refine e_iload_n (pc := 78) d_M_grant_78 rfl ?_
        refine e_cV2 (pc := 79) s_M_grant_79 (sM_lineOf (c := 0) (by decide) hk) rfl rfl rfl (Nat.le_of_ble_eq_true rfl) (Nat.le_of_ble_eq_true rfl) (Nat.le_of_ble_eq_true rfl) (zGo.v ?_)
        refine e_istore_n (pc := 82) d_M_grant_82 (Nat.le_of_ble_eq_true rfl) ?_
        dsimp only [List.set]
        refine e_aload_n (pc := 83) d_M_grant_83 rfl ?_
        refine e_get (pc := 84) s_M_grant_84 rfl rfl ?_
        refine e_iload_n (pc := 87) d_M_grant_87 rfl ?_
        refine e_iald (pc := 88) d_M_grant_88 rfl (vp_in_nI (by omega) (by decide)) (fx2 (c := 0) (nI_clamp (by omega)) (Nat.mod_lt _ (by decide))) ?_
        refine e_if_eq (pc := 89) (tgt := 114) d_M_grant_89 (by decide) (fun hz16 => ?_) (fun hz16 => ?_)
        · have hg := show gmS T 0 k = T from if_neg (fun q => q.1 hz16)
          have q := sM_gT0 (l := l) (G := G) (K := K) (S := S) (T := gmS T 0 k) (th := 0) (fo := fo) (kd := T 12 0 0) hk (by rw [gmS_o _ _ _ (by decide) (by decide)]) ht0 ht1 ht2 (by rw [gmS_o _ _ _ (by decide) (by decide)]; exact h100) (by rw [gmS_o _ _ _ (by decide) (by decide)]; exact h101) (by rw [gmS_o _ _ _ (by decide) (by decide)]; exact h102)
          unfold gnM
          rw [hg] at q ⊢
          exact q
        · refine e_aload_n (pc := 92) d_M_grant_92 rfl ?_
          refine e_get (pc := 93) s_M_grant_93 rfl rfl ?_
          refine e_iload_n (pc := 96) d_M_grant_96 rfl ?_
          refine e_iald (pc := 97) d_M_grant_97 rfl (vp_in_nI (by omega) (by decide)) (fx2 (c := 0) (nI_clamp (by omega)) (Nat.mod_lt _ (by decide))) ?_
          refine e_iload_n (pc := 98) d_M_grant_98 rfl ?_
          refine e_icmp_eq (pc := 99) (tgt := 114) d_M_grant_99 (by decide) (fun hz17 => ?_) (fun hz17 => ?_)
          · have hg := show gmS T 0 k = T from if_neg (fun q => q.2 hz17)
            have q := sM_gT0 (l := l) (G := G) (K := K) (S := S) (T := gmS T 0 k) (th := 0) (fo := fo) (kd := T 12 0 0) hk (by rw [gmS_o _ _ _ (by decide) (by decide)]) ht0 ht1 ht2 (by rw [gmS_o _ _ _ (by decide) (by decide)]; exact h100) (by rw [gmS_o _ _ _ (by decide) (by decide)]; exact h101) (by rw [gmS_o _ _ _ (by decide) (by decide)]; exact h102)
            unfold gnM
            rw [hg] at q ⊢
            exact q
          · refine e_aload_n (pc := 102) d_M_grant_102 rfl ?_
            refine e_iload_n (pc := 103) d_M_grant_103 rfl ?_
            refine e_cV1 (pc := 104) s_M_grant_104 (sM_writeBack (c := 0) (by decide) (Nat.mod_lt _ (by decide)) ht0 h100) rfl rfl rfl (Nat.le_of_ble_eq_true rfl) (Nat.le_of_ble_eq_true rfl) (Nat.le_of_ble_eq_true rfl) (zGo.n ?_)
            refine e_aload_n (pc := 107) d_M_grant_107 rfl ?_
            refine e_get (pc := 108) s_M_grant_108 rfl rfl ?_
            refine e_iload_n (pc := 111) d_M_grant_111 rfl ?_
            refine e_iconst (pc := 112) (v := 0) d_M_grant_112 (by decide) ?_
            refine e_iast (pc := 113) d_M_grant_113 rfl (vp_in_nI (by omega) (by decide)) (vSt (c := 0) (nI_clamp (by omega)) (Nat.mod_lt _ (by decide))) ?_
            have hg := show gmS T 0 k = _ from if_pos ⟨hz16, hz17⟩
            have q := sM_gT0 (l := l) (G := G) (K := K) (S := S) (T := gmS T 0 k) (th := 0) (fo := fo) (kd := T 12 0 0) hk (by rw [gmS_o _ _ _ (by decide) (by decide)]) ht0 ht1 ht2 (by rw [gmS_o _ _ _ (by decide) (by decide)]; exact h100) (by rw [gmS_o _ _ _ (by decide) (by decide)]; exact h101) (by rw [gmS_o _ _ _ (by decide) (by decide)]; exact h102)
            unfold gnM
            rw [hg] at q ⊢
            exact q
      · exact absurd (by simp [elF, flyS, hz11, hz12, hz15]) he
  · refine e_aload_n (pc := 58) d_M_grant_58 rfl ?_
    refine e_get (pc := 59) s_M_grant_59 rfl rfl ?_
    refine e_iload_n (pc := 62) d_M_grant_62 rfl ?_
    refine e_iald (pc := 63) d_M_grant_63 rfl (vp_dec (by decide)) (fx1 (c := 1) (by decide)) ?_
    refine e_iload_n (pc := 64) d_M_grant_64 rfl ?_
    refine e_icmp_ne (pc := 65) (tgt := 70) d_M_grant_65 (by decide) (fun hz18 => ?_) (fun hz18 => ?_)
    · refine e_iinc (pc := 70) d_M_grant_70 rfl (Nat.le_of_ble_eq_true rfl) ?_
      dsimp only [List.set]
      refine e_goto (pc := 73) (tgt := 39) d_M_grant_73 (by decide) ?_
      refine e_iload_n (pc := 39) d_M_grant_39 rfl ?_
      refine e_iconst (pc := 40) (v := 3) d_M_grant_40 (by decide) ?_
      refine e_icmp_ge (pc := 41) (tgt := 76) d_M_grant_41 (by decide) (fun zz => absurd zz (by decide)) (fun _ => ?_)
      refine e_iload_n (pc := 44) d_M_grant_44 rfl ?_
      refine e_iload_n (pc := 45) d_M_grant_45 rfl ?_
      refine e_icmp_eq (pc := 46) (tgt := 70) d_M_grant_46 (by decide) (fun zz => absurd zz (by decide)) (fun _ => ?_)
      refine e_aload_n (pc := 49) d_M_grant_49 rfl ?_
      refine e_get (pc := 50) s_M_grant_50 rfl rfl ?_
      refine e_iload_n (pc := 53) d_M_grant_53 rfl ?_
      refine e_zald (pc := 54) d_M_grant_54 rfl (vp_dec (by decide)) (fx1 (c := 2) (by decide)) ?_
      refine e_if_eq (pc := 55) (tgt := 70) d_M_grant_55 (by decide) (fun hz19 => ?_) (fun hz19 => ?_)
      · refine e_iinc (pc := 70) d_M_grant_70 rfl (Nat.le_of_ble_eq_true rfl) ?_
        dsimp only [List.set]
        refine e_goto (pc := 73) (tgt := 39) d_M_grant_73 (by decide) ?_
        refine e_iload_n (pc := 39) d_M_grant_39 rfl ?_
        refine e_iconst (pc := 40) (v := 3) d_M_grant_40 (by decide) ?_
        refine e_icmp_ge (pc := 41) (tgt := 76) d_M_grant_41 (by decide) (fun _ => ?_) (fun zz => absurd (by decide) zz)
        refine e_aload_n (pc := 76) d_M_grant_76 rfl ?_
        refine e_iload_n (pc := 77) d_M_grant_77 rfl ?_
        refine e_iload_n (pc := 78) d_M_grant_78 rfl ?_
        refine e_cV2 (pc := 79) s_M_grant_79 (sM_lineOf (c := 0) (by decide) hk) rfl rfl rfl (Nat.le_of_ble_eq_true rfl) (Nat.le_of_ble_eq_true rfl) (Nat.le_of_ble_eq_true rfl) (zGo.v ?_)
        refine e_istore_n (pc := 82) d_M_grant_82 (Nat.le_of_ble_eq_true rfl) ?_
        dsimp only [List.set]
        refine e_aload_n (pc := 83) d_M_grant_83 rfl ?_
        refine e_get (pc := 84) s_M_grant_84 rfl rfl ?_
        refine e_iload_n (pc := 87) d_M_grant_87 rfl ?_
        refine e_iald (pc := 88) d_M_grant_88 rfl (vp_in_nI (by omega) (by decide)) (fx2 (c := 0) (nI_clamp (by omega)) (Nat.mod_lt _ (by decide))) ?_
        refine e_if_eq (pc := 89) (tgt := 114) d_M_grant_89 (by decide) (fun hz20 => ?_) (fun hz20 => ?_)
        · have hg := show gmS T 0 k = T from if_neg (fun q => q.1 hz20)
          have q := sM_gT0 (l := l) (G := G) (K := K) (S := S) (T := gmS T 0 k) (th := 0) (fo := fo) (kd := T 12 0 0) hk (by rw [gmS_o _ _ _ (by decide) (by decide)]) ht0 ht1 ht2 (by rw [gmS_o _ _ _ (by decide) (by decide)]; exact h100) (by rw [gmS_o _ _ _ (by decide) (by decide)]; exact h101) (by rw [gmS_o _ _ _ (by decide) (by decide)]; exact h102)
          unfold gnM
          rw [hg] at q ⊢
          exact q
        · refine e_aload_n (pc := 92) d_M_grant_92 rfl ?_
          refine e_get (pc := 93) s_M_grant_93 rfl rfl ?_
          refine e_iload_n (pc := 96) d_M_grant_96 rfl ?_
          refine e_iald (pc := 97) d_M_grant_97 rfl (vp_in_nI (by omega) (by decide)) (fx2 (c := 0) (nI_clamp (by omega)) (Nat.mod_lt _ (by decide))) ?_
          refine e_iload_n (pc := 98) d_M_grant_98 rfl ?_
          refine e_icmp_eq (pc := 99) (tgt := 114) d_M_grant_99 (by decide) (fun hz21 => ?_) (fun hz21 => ?_)
          · have hg := show gmS T 0 k = T from if_neg (fun q => q.2 hz21)
            have q := sM_gT0 (l := l) (G := G) (K := K) (S := S) (T := gmS T 0 k) (th := 0) (fo := fo) (kd := T 12 0 0) hk (by rw [gmS_o _ _ _ (by decide) (by decide)]) ht0 ht1 ht2 (by rw [gmS_o _ _ _ (by decide) (by decide)]; exact h100) (by rw [gmS_o _ _ _ (by decide) (by decide)]; exact h101) (by rw [gmS_o _ _ _ (by decide) (by decide)]; exact h102)
            unfold gnM
            rw [hg] at q ⊢
            exact q
          · refine e_aload_n (pc := 102) d_M_grant_102 rfl ?_
            refine e_iload_n (pc := 103) d_M_grant_103 rfl ?_
            refine e_cV1 (pc := 104) s_M_grant_104 (sM_writeBack (c := 0) (by decide) (Nat.mod_lt _ (by decide)) ht0 h100) rfl rfl rfl (Nat.le_of_ble_eq_true rfl) (Nat.le_of_ble_eq_true rfl) (Nat.le_of_ble_eq_true rfl) (zGo.n ?_)
            refine e_aload_n (pc := 107) d_M_grant_107 rfl ?_
            refine e_get (pc := 108) s_M_grant_108 rfl rfl ?_
            refine e_iload_n (pc := 111) d_M_grant_111 rfl ?_
            refine e_iconst (pc := 112) (v := 0) d_M_grant_112 (by decide) ?_
            refine e_iast (pc := 113) d_M_grant_113 rfl (vp_in_nI (by omega) (by decide)) (vSt (c := 0) (nI_clamp (by omega)) (Nat.mod_lt _ (by decide))) ?_
            have hg := show gmS T 0 k = _ from if_pos ⟨hz20, hz21⟩
            have q := sM_gT0 (l := l) (G := G) (K := K) (S := S) (T := gmS T 0 k) (th := 0) (fo := fo) (kd := T 12 0 0) hk (by rw [gmS_o _ _ _ (by decide) (by decide)]) ht0 ht1 ht2 (by rw [gmS_o _ _ _ (by decide) (by decide)]; exact h100) (by rw [gmS_o _ _ _ (by decide) (by decide)]; exact h101) (by rw [gmS_o _ _ _ (by decide) (by decide)]; exact h102)
            unfold gnM
            rw [hg] at q ⊢
            exact q
      · refine e_aload_n (pc := 58) d_M_grant_58 rfl ?_
        refine e_get (pc := 59) s_M_grant_59 rfl rfl ?_
        refine e_iload_n (pc := 62) d_M_grant_62 rfl ?_
        refine e_iald (pc := 63) d_M_grant_63 rfl (vp_dec (by decide)) (fx1 (c := 2) (by decide)) ?_
        refine e_iload_n (pc := 64) d_M_grant_64 rfl ?_
        refine e_icmp_ne (pc := 65) (tgt := 70) d_M_grant_65 (by decide) (fun hz22 => ?_) (fun hz22 => ?_)
        · refine e_iinc (pc := 70) d_M_grant_70 rfl (Nat.le_of_ble_eq_true rfl) ?_
          dsimp only [List.set]
          refine e_goto (pc := 73) (tgt := 39) d_M_grant_73 (by decide) ?_
          refine e_iload_n (pc := 39) d_M_grant_39 rfl ?_
          refine e_iconst (pc := 40) (v := 3) d_M_grant_40 (by decide) ?_
          refine e_icmp_ge (pc := 41) (tgt := 76) d_M_grant_41 (by decide) (fun _ => ?_) (fun zz => absurd (by decide) zz)
          refine e_aload_n (pc := 76) d_M_grant_76 rfl ?_
          refine e_iload_n (pc := 77) d_M_grant_77 rfl ?_
          refine e_iload_n (pc := 78) d_M_grant_78 rfl ?_
          refine e_cV2 (pc := 79) s_M_grant_79 (sM_lineOf (c := 0) (by decide) hk) rfl rfl rfl (Nat.le_of_ble_eq_true rfl) (Nat.le_of_ble_eq_true rfl) (Nat.le_of_ble_eq_true rfl) (zGo.v ?_)
          refine e_istore_n (pc := 82) d_M_grant_82 (Nat.le_of_ble_eq_true rfl) ?_
          dsimp only [List.set]
          refine e_aload_n (pc := 83) d_M_grant_83 rfl ?_
          refine e_get (pc := 84) s_M_grant_84 rfl rfl ?_
          refine e_iload_n (pc := 87) d_M_grant_87 rfl ?_
          refine e_iald (pc := 88) d_M_grant_88 rfl (vp_in_nI (by omega) (by decide)) (fx2 (c := 0) (nI_clamp (by omega)) (Nat.mod_lt _ (by decide))) ?_
          refine e_if_eq (pc := 89) (tgt := 114) d_M_grant_89 (by decide) (fun hz23 => ?_) (fun hz23 => ?_)
          · have hg := show gmS T 0 k = T from if_neg (fun q => q.1 hz23)
            have q := sM_gT0 (l := l) (G := G) (K := K) (S := S) (T := gmS T 0 k) (th := 0) (fo := fo) (kd := T 12 0 0) hk (by rw [gmS_o _ _ _ (by decide) (by decide)]) ht0 ht1 ht2 (by rw [gmS_o _ _ _ (by decide) (by decide)]; exact h100) (by rw [gmS_o _ _ _ (by decide) (by decide)]; exact h101) (by rw [gmS_o _ _ _ (by decide) (by decide)]; exact h102)
            unfold gnM
            rw [hg] at q ⊢
            exact q
          · refine e_aload_n (pc := 92) d_M_grant_92 rfl ?_
            refine e_get (pc := 93) s_M_grant_93 rfl rfl ?_
            refine e_iload_n (pc := 96) d_M_grant_96 rfl ?_
            refine e_iald (pc := 97) d_M_grant_97 rfl (vp_in_nI (by omega) (by decide)) (fx2 (c := 0) (nI_clamp (by omega)) (Nat.mod_lt _ (by decide))) ?_
            refine e_iload_n (pc := 98) d_M_grant_98 rfl ?_
            refine e_icmp_eq (pc := 99) (tgt := 114) d_M_grant_99 (by decide) (fun hz24 => ?_) (fun hz24 => ?_)
            · have hg := show gmS T 0 k = T from if_neg (fun q => q.2 hz24)
              have q := sM_gT0 (l := l) (G := G) (K := K) (S := S) (T := gmS T 0 k) (th := 0) (fo := fo) (kd := T 12 0 0) hk (by rw [gmS_o _ _ _ (by decide) (by decide)]) ht0 ht1 ht2 (by rw [gmS_o _ _ _ (by decide) (by decide)]; exact h100) (by rw [gmS_o _ _ _ (by decide) (by decide)]; exact h101) (by rw [gmS_o _ _ _ (by decide) (by decide)]; exact h102)
              unfold gnM
              rw [hg] at q ⊢
              exact q
            · refine e_aload_n (pc := 102) d_M_grant_102 rfl ?_
              refine e_iload_n (pc := 103) d_M_grant_103 rfl ?_
              refine e_cV1 (pc := 104) s_M_grant_104 (sM_writeBack (c := 0) (by decide) (Nat.mod_lt _ (by decide)) ht0 h100) rfl rfl rfl (Nat.le_of_ble_eq_true rfl) (Nat.le_of_ble_eq_true rfl) (Nat.le_of_ble_eq_true rfl) (zGo.n ?_)
              refine e_aload_n (pc := 107) d_M_grant_107 rfl ?_
              refine e_get (pc := 108) s_M_grant_108 rfl rfl ?_
              refine e_iload_n (pc := 111) d_M_grant_111 rfl ?_
              refine e_iconst (pc := 112) (v := 0) d_M_grant_112 (by decide) ?_
              refine e_iast (pc := 113) d_M_grant_113 rfl (vp_in_nI (by omega) (by decide)) (vSt (c := 0) (nI_clamp (by omega)) (Nat.mod_lt _ (by decide))) ?_
              have hg := show gmS T 0 k = _ from if_pos ⟨hz23, hz24⟩
              have q := sM_gT0 (l := l) (G := G) (K := K) (S := S) (T := gmS T 0 k) (th := 0) (fo := fo) (kd := T 12 0 0) hk (by rw [gmS_o _ _ _ (by decide) (by decide)]) ht0 ht1 ht2 (by rw [gmS_o _ _ _ (by decide) (by decide)]; exact h100) (by rw [gmS_o _ _ _ (by decide) (by decide)]; exact h101) (by rw [gmS_o _ _ _ (by decide) (by decide)]; exact h102)
              unfold gnM
              rw [hg] at q ⊢
              exact q
        · exact absurd (by simp [elF, flyS, hz11, hz18, hz19, hz22]) he
    · exact absurd (by simp [elF, flyS, hz11, hz18]) he
set_option maxHeartbeats 4000000 in
set_option maxRecDepth 100000 in
theorem sM_grantB1 {l : Launch} {G : zGP} {K : Nat} {S T : St} {th : Int32} {fo : Nat → Int64} {k : Nat} (hk : k < 8) (h12 : ¬ T 12 1 0 = 0) (h14 : T 14 1 0 = 0) (h13 : T 13 1 0 = nI k) (he : elF T 1 k) : Rn l G m_M_grant [.ref 45, .int (nI 1)] (hpA K S T th fo) (.inl (some (.int 4)), (hpA K S T 0 fo)) := by
  refine Rn.of (by decide) rfl rfl (Nat.le_of_ble_eq_true rfl) rfl ?_
  show Ev l G m_M_grant 0 [.ref 45, .int (nI 1), .double 0, .double 0, .double 0] [] (hpA K S T th fo) 0 0 _
  refine e_aload_n (pc := 0) d_M_grant_0 rfl ?_
  refine e_iload_n (pc := 1) d_M_grant_1 rfl ?_
  refine e_cV1 (pc := 2) s_M_grant_2 (sM_core (c := 1) (by decide)) rfl rfl rfl (Nat.le_of_ble_eq_true rfl) (Nat.le_of_ble_eq_true rfl) (Nat.le_of_ble_eq_true rfl) (zGo.v ?_)
  refine e_if_ne (pc := 5) (tgt := 10) d_M_grant_5 (by decide) (fun _ => ?_) (fun zz => absurd zz (by decide))
  refine e_aload_n (pc := 10) d_M_grant_10 rfl ?_
  refine e_get (pc := 11) s_M_grant_11 rfl rfl ?_
  refine e_iload_n (pc := 14) d_M_grant_14 rfl ?_
  refine e_iald (pc := 15) d_M_grant_15 rfl (vp_dec (by decide)) (fx1 (c := 1) (by decide)) ?_
  refine e_if_eq (pc := 16) (tgt := 28) d_M_grant_16 (by decide) (fun zz => absurd zz (h12)) (fun _ => ?_)
  refine e_aload_n (pc := 19) d_M_grant_19 rfl ?_
  refine e_get (pc := 20) s_M_grant_20 rfl rfl ?_
  refine e_iload_n (pc := 23) d_M_grant_23 rfl ?_
  refine e_zald (pc := 24) d_M_grant_24 rfl (vp_dec (by decide)) (fx1 (c := 1) (by decide)) ?_
  refine e_if_eq (pc := 25) (tgt := 30) d_M_grant_25 (by decide) (fun _ => ?_) (fun zz => absurd (h14) zz)
  refine e_aload_n (pc := 30) d_M_grant_30 rfl ?_
  refine e_get (pc := 31) s_M_grant_31 rfl rfl ?_
  refine e_iload_n (pc := 34) d_M_grant_34 rfl ?_
  refine e_iald (pc := 35) d_M_grant_35 rfl (vp_dec (by decide)) (((fx1 (c := 1) (by decide))).trans h13) ?_
  refine e_istore_n (pc := 36) d_M_grant_36 (Nat.le_of_ble_eq_true rfl) ?_
  dsimp only [List.set]
  refine e_iconst (pc := 37) (v := 0) d_M_grant_37 (by decide) ?_
  refine e_istore_n (pc := 38) d_M_grant_38 (Nat.le_of_ble_eq_true rfl) ?_
  dsimp only [List.set]
  refine e_iload_n (pc := 39) d_M_grant_39 rfl ?_
  refine e_iconst (pc := 40) (v := 3) d_M_grant_40 (by decide) ?_
  refine e_icmp_ge (pc := 41) (tgt := 76) d_M_grant_41 (by decide) (fun zz => absurd zz (by decide)) (fun _ => ?_)
  refine e_iload_n (pc := 44) d_M_grant_44 rfl ?_
  refine e_iload_n (pc := 45) d_M_grant_45 rfl ?_
  refine e_icmp_eq (pc := 46) (tgt := 70) d_M_grant_46 (by decide) (fun zz => absurd zz (by decide)) (fun _ => ?_)
  refine e_aload_n (pc := 49) d_M_grant_49 rfl ?_
  refine e_get (pc := 50) s_M_grant_50 rfl rfl ?_
  refine e_iload_n (pc := 53) d_M_grant_53 rfl ?_
  refine e_zald (pc := 54) d_M_grant_54 rfl (vp_dec (by decide)) (fx1 (c := 0) (by decide)) ?_
  refine e_if_eq (pc := 55) (tgt := 70) d_M_grant_55 (by decide) (fun hz25 => ?_) (fun hz25 => ?_)
  · refine e_iinc (pc := 70) d_M_grant_70 rfl (Nat.le_of_ble_eq_true rfl) ?_
    dsimp only [List.set]
    refine e_goto (pc := 73) (tgt := 39) d_M_grant_73 (by decide) ?_
    refine e_iload_n (pc := 39) d_M_grant_39 rfl ?_
    refine e_iconst (pc := 40) (v := 3) d_M_grant_40 (by decide) ?_
    refine e_icmp_ge (pc := 41) (tgt := 76) d_M_grant_41 (by decide) (fun zz => absurd zz (by decide)) (fun _ => ?_)
    refine e_iload_n (pc := 44) d_M_grant_44 rfl ?_
    refine e_iload_n (pc := 45) d_M_grant_45 rfl ?_
    refine e_icmp_eq (pc := 46) (tgt := 70) d_M_grant_46 (by decide) (fun _ => ?_) (fun zz => absurd (by decide) zz)
    refine e_iinc (pc := 70) d_M_grant_70 rfl (Nat.le_of_ble_eq_true rfl) ?_
    dsimp only [List.set]
    refine e_goto (pc := 73) (tgt := 39) d_M_grant_73 (by decide) ?_
    refine e_iload_n (pc := 39) d_M_grant_39 rfl ?_
    refine e_iconst (pc := 40) (v := 3) d_M_grant_40 (by decide) ?_
    refine e_icmp_ge (pc := 41) (tgt := 76) d_M_grant_41 (by decide) (fun zz => absurd zz (by decide)) (fun _ => ?_)
    refine e_iload_n (pc := 44) d_M_grant_44 rfl ?_
    refine e_iload_n (pc := 45) d_M_grant_45 rfl ?_
    refine e_icmp_eq (pc := 46) (tgt := 70) d_M_grant_46 (by decide) (fun zz => absurd zz (by decide)) (fun _ => ?_)
    refine e_aload_n (pc := 49) d_M_grant_49 rfl ?_
    refine e_get (pc := 50) s_M_grant_50 rfl rfl ?_
    refine e_iload_n (pc := 53) d_M_grant_53 rfl ?_
    refine e_zald (pc := 54) d_M_grant_54 rfl (vp_dec (by decide)) (fx1 (c := 2) (by decide)) ?_
    refine e_if_eq (pc := 55) (tgt := 70) d_M_grant_55 (by decide) (fun hz26 => ?_) (fun hz26 => ?_)
    · refine e_iinc (pc := 70) d_M_grant_70 rfl (Nat.le_of_ble_eq_true rfl) ?_
      dsimp only [List.set]
      refine e_goto (pc := 73) (tgt := 39) d_M_grant_73 (by decide) ?_
      refine e_iload_n (pc := 39) d_M_grant_39 rfl ?_
      refine e_iconst (pc := 40) (v := 3) d_M_grant_40 (by decide) ?_
      refine e_icmp_ge (pc := 41) (tgt := 76) d_M_grant_41 (by decide) (fun _ => ?_) (fun zz => absurd (by decide) zz)
      exact absurd he (by simp [elF, flyS, hz25, hz26])
    · refine e_aload_n (pc := 58) d_M_grant_58 rfl ?_
      refine e_get (pc := 59) s_M_grant_59 rfl rfl ?_
      refine e_iload_n (pc := 62) d_M_grant_62 rfl ?_
      refine e_iald (pc := 63) d_M_grant_63 rfl (vp_dec (by decide)) (fx1 (c := 2) (by decide)) ?_
      refine e_iload_n (pc := 64) d_M_grant_64 rfl ?_
      refine e_icmp_ne (pc := 65) (tgt := 70) d_M_grant_65 (by decide) (fun hz27 => ?_) (fun hz27 => ?_)
      · refine e_iinc (pc := 70) d_M_grant_70 rfl (Nat.le_of_ble_eq_true rfl) ?_
        dsimp only [List.set]
        refine e_goto (pc := 73) (tgt := 39) d_M_grant_73 (by decide) ?_
        refine e_iload_n (pc := 39) d_M_grant_39 rfl ?_
        refine e_iconst (pc := 40) (v := 3) d_M_grant_40 (by decide) ?_
        refine e_icmp_ge (pc := 41) (tgt := 76) d_M_grant_41 (by decide) (fun _ => ?_) (fun zz => absurd (by decide) zz)
        exact absurd he (by simp [elF, flyS, hz25, hz26, hz27])
      · refine e_iconst (pc := 68) (v := 4) d_M_grant_68 (by decide) ?_
        exact e_iret (pc := 69) d_M_grant_69 rfl rfl (Nat.le_of_ble_eq_true rfl) (Nat.le_of_ble_eq_true rfl) (by simp [hz25, hz26, hz27])
  · refine e_aload_n (pc := 58) d_M_grant_58 rfl ?_
    refine e_get (pc := 59) s_M_grant_59 rfl rfl ?_
    refine e_iload_n (pc := 62) d_M_grant_62 rfl ?_
    refine e_iald (pc := 63) d_M_grant_63 rfl (vp_dec (by decide)) (fx1 (c := 0) (by decide)) ?_
    refine e_iload_n (pc := 64) d_M_grant_64 rfl ?_
    refine e_icmp_ne (pc := 65) (tgt := 70) d_M_grant_65 (by decide) (fun hz28 => ?_) (fun hz28 => ?_)
    · refine e_iinc (pc := 70) d_M_grant_70 rfl (Nat.le_of_ble_eq_true rfl) ?_
      dsimp only [List.set]
      refine e_goto (pc := 73) (tgt := 39) d_M_grant_73 (by decide) ?_
      refine e_iload_n (pc := 39) d_M_grant_39 rfl ?_
      refine e_iconst (pc := 40) (v := 3) d_M_grant_40 (by decide) ?_
      refine e_icmp_ge (pc := 41) (tgt := 76) d_M_grant_41 (by decide) (fun zz => absurd zz (by decide)) (fun _ => ?_)
      refine e_iload_n (pc := 44) d_M_grant_44 rfl ?_
      refine e_iload_n (pc := 45) d_M_grant_45 rfl ?_
      refine e_icmp_eq (pc := 46) (tgt := 70) d_M_grant_46 (by decide) (fun _ => ?_) (fun zz => absurd (by decide) zz)
      refine e_iinc (pc := 70) d_M_grant_70 rfl (Nat.le_of_ble_eq_true rfl) ?_
      dsimp only [List.set]
      refine e_goto (pc := 73) (tgt := 39) d_M_grant_73 (by decide) ?_
      refine e_iload_n (pc := 39) d_M_grant_39 rfl ?_
      refine e_iconst (pc := 40) (v := 3) d_M_grant_40 (by decide) ?_
      refine e_icmp_ge (pc := 41) (tgt := 76) d_M_grant_41 (by decide) (fun zz => absurd zz (by decide)) (fun _ => ?_)
      refine e_iload_n (pc := 44) d_M_grant_44 rfl ?_
      refine e_iload_n (pc := 45) d_M_grant_45 rfl ?_
      refine e_icmp_eq (pc := 46) (tgt := 70) d_M_grant_46 (by decide) (fun zz => absurd zz (by decide)) (fun _ => ?_)
      refine e_aload_n (pc := 49) d_M_grant_49 rfl ?_
      refine e_get (pc := 50) s_M_grant_50 rfl rfl ?_
      refine e_iload_n (pc := 53) d_M_grant_53 rfl ?_
      refine e_zald (pc := 54) d_M_grant_54 rfl (vp_dec (by decide)) (fx1 (c := 2) (by decide)) ?_
      refine e_if_eq (pc := 55) (tgt := 70) d_M_grant_55 (by decide) (fun hz29 => ?_) (fun hz29 => ?_)
      · refine e_iinc (pc := 70) d_M_grant_70 rfl (Nat.le_of_ble_eq_true rfl) ?_
        dsimp only [List.set]
        refine e_goto (pc := 73) (tgt := 39) d_M_grant_73 (by decide) ?_
        refine e_iload_n (pc := 39) d_M_grant_39 rfl ?_
        refine e_iconst (pc := 40) (v := 3) d_M_grant_40 (by decide) ?_
        refine e_icmp_ge (pc := 41) (tgt := 76) d_M_grant_41 (by decide) (fun _ => ?_) (fun zz => absurd (by decide) zz)
        exact absurd he (by simp [elF, flyS, hz25, hz28, hz29])
      · refine e_aload_n (pc := 58) d_M_grant_58 rfl ?_
        refine e_get (pc := 59) s_M_grant_59 rfl rfl ?_
        refine e_iload_n (pc := 62) d_M_grant_62 rfl ?_
        refine e_iald (pc := 63) d_M_grant_63 rfl (vp_dec (by decide)) (fx1 (c := 2) (by decide)) ?_
        refine e_iload_n (pc := 64) d_M_grant_64 rfl ?_
        refine e_icmp_ne (pc := 65) (tgt := 70) d_M_grant_65 (by decide) (fun hz30 => ?_) (fun hz30 => ?_)
        · refine e_iinc (pc := 70) d_M_grant_70 rfl (Nat.le_of_ble_eq_true rfl) ?_
          dsimp only [List.set]
          refine e_goto (pc := 73) (tgt := 39) d_M_grant_73 (by decide) ?_
          refine e_iload_n (pc := 39) d_M_grant_39 rfl ?_
          refine e_iconst (pc := 40) (v := 3) d_M_grant_40 (by decide) ?_
          refine e_icmp_ge (pc := 41) (tgt := 76) d_M_grant_41 (by decide) (fun _ => ?_) (fun zz => absurd (by decide) zz)
          exact absurd he (by simp [elF, flyS, hz25, hz28, hz29, hz30])
        · refine e_iconst (pc := 68) (v := 4) d_M_grant_68 (by decide) ?_
          exact e_iret (pc := 69) d_M_grant_69 rfl rfl (Nat.le_of_ble_eq_true rfl) (Nat.le_of_ble_eq_true rfl) (by simp [hz25, hz28, hz29, hz30])
    · refine e_iconst (pc := 68) (v := 4) d_M_grant_68 (by decide) ?_
      exact e_iret (pc := 69) d_M_grant_69 rfl rfl (Nat.le_of_ble_eq_true rfl) (Nat.le_of_ble_eq_true rfl) (by simp [hz25, hz28])
set_option maxHeartbeats 4000000 in
set_option maxRecDepth 100000 in
theorem sM_gT1 {l : Launch} {G : zGP} {K : Nat} {S T : St} {th : Int32} {fo : Nat → Int64} {k t0 t1 t2 : Nat} {kd : Int32} (hk : k < 8) (h12 : T 12 1 0 = kd) (ht0 : t0 < 8) (ht1 : t1 < 8) (ht2 : t2 < 8) (h100 : T 10 0 (k % 2) = nI t0) (h101 : T 10 1 (k % 2) = nI t1) (h102 : T 10 2 (k % 2) = nI t2) : Ev l G m_M_grant 114 [.ref 45, .int (nI 1), .int (nI k), .int (nI (2 * 1 + k % 2)), .double 0] [] (hpA K S T th fo) 0 0 (.inl (some (.int 1)), (hpA K S (su (gr2 (su T 15 1 0 (wdM T k)) 1 k kd) 14 1 0 1) th fo)) := by
  refine e_aload_n (pc := 114) d_M_grant_114 rfl ?_
  refine e_get (pc := 115) s_M_grant_115 rfl rfl ?_
  refine e_iload_n (pc := 118) d_M_grant_118 rfl ?_
  refine e_aload_n (pc := 119) d_M_grant_119 rfl ?_
  refine e_iload_n (pc := 120) d_M_grant_120 rfl ?_
  refine e_cV1 (pc := 121) s_M_grant_121 (sM_wordAt hk) rfl rfl rfl (Nat.le_of_ble_eq_true rfl) (Nat.le_of_ble_eq_true rfl) (Nat.le_of_ble_eq_true rfl) (zGo.v ?_)
  refine e_iast (pc := 124) d_M_grant_124 rfl (vp_dec (by decide)) (vWv (c := 1) (by decide)) ?_
  refine e_iconst (pc := 125) (v := 0) d_M_grant_125 (by decide) ?_
  refine e_istore (pc := 126) d_M_grant_126 (Nat.le_of_ble_eq_true rfl) ?_
  dsimp only [List.set]
  refine e_iload (pc := 128) d_M_grant_128 rfl ?_
  refine e_iconst (pc := 130) (v := 3) d_M_grant_130 (by decide) ?_
  refine e_icmp_ge (pc := 131) (tgt := 194) d_M_grant_131 (by decide) (fun zz => absurd zz (by decide)) (fun _ => ?_)
  refine e_iload (pc := 134) d_M_grant_134 rfl ?_
  refine e_iload_n (pc := 136) d_M_grant_136 rfl ?_
  refine e_icmp_eq (pc := 137) (tgt := 188) d_M_grant_137 (by decide) (fun zz => absurd zz (by decide)) (fun _ => ?_)
  refine sM_gw (c := 1) (d := 0) (kd := kd) (by decide) (by decide) hk ht0 (by decide) h100 h12 ?_
  refine e_iinc (pc := 188) d_M_grant_188 rfl (Nat.le_of_ble_eq_true rfl) ?_
  dsimp only [List.set]
  refine e_goto (pc := 191) (tgt := 128) d_M_grant_191 (by decide) ?_
  refine e_iload (pc := 128) d_M_grant_128 rfl ?_
  refine e_iconst (pc := 130) (v := 3) d_M_grant_130 (by decide) ?_
  refine e_icmp_ge (pc := 131) (tgt := 194) d_M_grant_131 (by decide) (fun zz => absurd zz (by decide)) (fun _ => ?_)
  refine e_iload (pc := 134) d_M_grant_134 rfl ?_
  refine e_iload_n (pc := 136) d_M_grant_136 rfl ?_
  refine e_icmp_eq (pc := 137) (tgt := 188) d_M_grant_137 (by decide) (fun _ => ?_) (fun zz => absurd (by decide) zz)
  refine e_iinc (pc := 188) d_M_grant_188 rfl (Nat.le_of_ble_eq_true rfl) ?_
  dsimp only [List.set]
  refine e_goto (pc := 191) (tgt := 128) d_M_grant_191 (by decide) ?_
  refine e_iload (pc := 128) d_M_grant_128 rfl ?_
  refine e_iconst (pc := 130) (v := 3) d_M_grant_130 (by decide) ?_
  refine e_icmp_ge (pc := 131) (tgt := 194) d_M_grant_131 (by decide) (fun zz => absurd zz (by decide)) (fun _ => ?_)
  refine e_iload (pc := 134) d_M_grant_134 rfl ?_
  refine e_iload_n (pc := 136) d_M_grant_136 rfl ?_
  refine e_icmp_eq (pc := 137) (tgt := 188) d_M_grant_137 (by decide) (fun zz => absurd zz (by decide)) (fun _ => ?_)
  refine sM_gw (c := 1) (d := 2) (kd := kd) (by decide) (by decide) hk ht2 (by decide) (by rw [gwS_o _ _ _ _ (by decide) (by decide)]; exact h102) (by rw [gwS_o _ _ _ _ (by decide) (by decide)]; exact h12) ?_
  refine e_iinc (pc := 188) d_M_grant_188 rfl (Nat.le_of_ble_eq_true rfl) ?_
  dsimp only [List.set]
  refine e_goto (pc := 191) (tgt := 128) d_M_grant_191 (by decide) ?_
  refine e_iload (pc := 128) d_M_grant_128 rfl ?_
  refine e_iconst (pc := 130) (v := 3) d_M_grant_130 (by decide) ?_
  refine e_icmp_ge (pc := 131) (tgt := 194) d_M_grant_131 (by decide) (fun _ => ?_) (fun zz => absurd (by decide) zz)
  refine e_aload_n (pc := 194) d_M_grant_194 rfl ?_
  refine e_get (pc := 195) s_M_grant_195 rfl rfl ?_
  refine e_iload_n (pc := 198) d_M_grant_198 rfl ?_
  refine e_iconst (pc := 199) (v := 1) d_M_grant_199 (by decide) ?_
  refine e_zast (pc := 200) d_M_grant_200 rfl (vp_dec (by decide)) (Or.inr rfl) (vWf (c := 1) (by decide)) ?_
  refine e_iconst (pc := 201) (v := 1) d_M_grant_201 (by decide) ?_
  exact e_iret (pc := 202) d_M_grant_202 rfl rfl (Nat.le_of_ble_eq_true rfl) (Nat.le_of_ble_eq_true rfl) rfl
set_option maxHeartbeats 4000000 in
set_option maxRecDepth 100000 in
theorem sM_grant1 {l : Launch} {G : zGP} {K : Nat} {S T : St} {th : Int32} {fo : Nat → Int64} {k t0 t1 t2 : Nat} (hk : k < 8) (h12 : ¬ T 12 1 0 = 0) (h14 : T 14 1 0 = 0) (h13 : T 13 1 0 = nI k) (he : ¬ elF T 1 k) (ht0 : t0 < 8) (ht1 : t1 < 8) (ht2 : t2 < 8) (h100 : T 10 0 (k % 2) = nI t0) (h101 : T 10 1 (k % 2) = nI t1) (h102 : T 10 2 (k % 2) = nI t2) : Rn l G m_M_grant [.ref 45, .int (nI 1)] (hpA K S T th fo) (.inl (some (.int 1)), (hpA K S (gnM T 1 k) 0 fo)) := by
  refine Rn.of (by decide) rfl rfl (Nat.le_of_ble_eq_true rfl) rfl ?_
  show Ev l G m_M_grant 0 [.ref 45, .int (nI 1), .double 0, .double 0, .double 0] [] (hpA K S T th fo) 0 0 _
  refine e_aload_n (pc := 0) d_M_grant_0 rfl ?_
  refine e_iload_n (pc := 1) d_M_grant_1 rfl ?_
  refine e_cV1 (pc := 2) s_M_grant_2 (sM_core (c := 1) (by decide)) rfl rfl rfl (Nat.le_of_ble_eq_true rfl) (Nat.le_of_ble_eq_true rfl) (Nat.le_of_ble_eq_true rfl) (zGo.v ?_)
  refine e_if_ne (pc := 5) (tgt := 10) d_M_grant_5 (by decide) (fun _ => ?_) (fun zz => absurd zz (by decide))
  refine e_aload_n (pc := 10) d_M_grant_10 rfl ?_
  refine e_get (pc := 11) s_M_grant_11 rfl rfl ?_
  refine e_iload_n (pc := 14) d_M_grant_14 rfl ?_
  refine e_iald (pc := 15) d_M_grant_15 rfl (vp_dec (by decide)) (fx1 (c := 1) (by decide)) ?_
  refine e_if_eq (pc := 16) (tgt := 28) d_M_grant_16 (by decide) (fun zz => absurd zz (h12)) (fun _ => ?_)
  refine e_aload_n (pc := 19) d_M_grant_19 rfl ?_
  refine e_get (pc := 20) s_M_grant_20 rfl rfl ?_
  refine e_iload_n (pc := 23) d_M_grant_23 rfl ?_
  refine e_zald (pc := 24) d_M_grant_24 rfl (vp_dec (by decide)) (fx1 (c := 1) (by decide)) ?_
  refine e_if_eq (pc := 25) (tgt := 30) d_M_grant_25 (by decide) (fun _ => ?_) (fun zz => absurd (h14) zz)
  refine e_aload_n (pc := 30) d_M_grant_30 rfl ?_
  refine e_get (pc := 31) s_M_grant_31 rfl rfl ?_
  refine e_iload_n (pc := 34) d_M_grant_34 rfl ?_
  refine e_iald (pc := 35) d_M_grant_35 rfl (vp_dec (by decide)) (((fx1 (c := 1) (by decide))).trans h13) ?_
  refine e_istore_n (pc := 36) d_M_grant_36 (Nat.le_of_ble_eq_true rfl) ?_
  dsimp only [List.set]
  refine e_iconst (pc := 37) (v := 0) d_M_grant_37 (by decide) ?_
  refine e_istore_n (pc := 38) d_M_grant_38 (Nat.le_of_ble_eq_true rfl) ?_
  dsimp only [List.set]
  refine e_iload_n (pc := 39) d_M_grant_39 rfl ?_
  refine e_iconst (pc := 40) (v := 3) d_M_grant_40 (by decide) ?_
  refine e_icmp_ge (pc := 41) (tgt := 76) d_M_grant_41 (by decide) (fun zz => absurd zz (by decide)) (fun _ => ?_)
  refine e_iload_n (pc := 44) d_M_grant_44 rfl ?_
  refine e_iload_n (pc := 45) d_M_grant_45 rfl ?_
  refine e_icmp_eq (pc := 46) (tgt := 70) d_M_grant_46 (by decide) (fun zz => absurd zz (by decide)) (fun _ => ?_)
  refine e_aload_n (pc := 49) d_M_grant_49 rfl ?_
  refine e_get (pc := 50) s_M_grant_50 rfl rfl ?_
  refine e_iload_n (pc := 53) d_M_grant_53 rfl ?_
  refine e_zald (pc := 54) d_M_grant_54 rfl (vp_dec (by decide)) (fx1 (c := 0) (by decide)) ?_
  refine e_if_eq (pc := 55) (tgt := 70) d_M_grant_55 (by decide) (fun hz31 => ?_) (fun hz31 => ?_)
  · refine e_iinc (pc := 70) d_M_grant_70 rfl (Nat.le_of_ble_eq_true rfl) ?_
    dsimp only [List.set]
    refine e_goto (pc := 73) (tgt := 39) d_M_grant_73 (by decide) ?_
    refine e_iload_n (pc := 39) d_M_grant_39 rfl ?_
    refine e_iconst (pc := 40) (v := 3) d_M_grant_40 (by decide) ?_
    refine e_icmp_ge (pc := 41) (tgt := 76) d_M_grant_41 (by decide) (fun zz => absurd zz (by decide)) (fun _ => ?_)
    refine e_iload_n (pc := 44) d_M_grant_44 rfl ?_
    refine e_iload_n (pc := 45) d_M_grant_45 rfl ?_
    refine e_icmp_eq (pc := 46) (tgt := 70) d_M_grant_46 (by decide) (fun _ => ?_) (fun zz => absurd (by decide) zz)
    refine e_iinc (pc := 70) d_M_grant_70 rfl (Nat.le_of_ble_eq_true rfl) ?_
    dsimp only [List.set]
    refine e_goto (pc := 73) (tgt := 39) d_M_grant_73 (by decide) ?_
    refine e_iload_n (pc := 39) d_M_grant_39 rfl ?_
    refine e_iconst (pc := 40) (v := 3) d_M_grant_40 (by decide) ?_
    refine e_icmp_ge (pc := 41) (tgt := 76) d_M_grant_41 (by decide) (fun zz => absurd zz (by decide)) (fun _ => ?_)
    refine e_iload_n (pc := 44) d_M_grant_44 rfl ?_
    refine e_iload_n (pc := 45) d_M_grant_45 rfl ?_
    refine e_icmp_eq (pc := 46) (tgt := 70) d_M_grant_46 (by decide) (fun zz => absurd zz (by decide)) (fun _ => ?_)
    refine e_aload_n (pc := 49) d_M_grant_49 rfl ?_
    refine e_get (pc := 50) s_M_grant_50 rfl rfl ?_
    refine e_iload_n (pc := 53) d_M_grant_53 rfl ?_
    refine e_zald (pc := 54) d_M_grant_54 rfl (vp_dec (by decide)) (fx1 (c := 2) (by decide)) ?_
    refine e_if_eq (pc := 55) (tgt := 70) d_M_grant_55 (by decide) (fun hz32 => ?_) (fun hz32 => ?_)
    · refine e_iinc (pc := 70) d_M_grant_70 rfl (Nat.le_of_ble_eq_true rfl) ?_
      dsimp only [List.set]
      refine e_goto (pc := 73) (tgt := 39) d_M_grant_73 (by decide) ?_
      refine e_iload_n (pc := 39) d_M_grant_39 rfl ?_
      refine e_iconst (pc := 40) (v := 3) d_M_grant_40 (by decide) ?_
      refine e_icmp_ge (pc := 41) (tgt := 76) d_M_grant_41 (by decide) (fun _ => ?_) (fun zz => absurd (by decide) zz)
      refine e_aload_n (pc := 76) d_M_grant_76 rfl ?_
      refine e_iload_n (pc := 77) d_M_grant_77 rfl ?_
      refine e_iload_n (pc := 78) d_M_grant_78 rfl ?_
      refine e_cV2 (pc := 79) s_M_grant_79 (sM_lineOf (c := 1) (by decide) hk) rfl rfl rfl (Nat.le_of_ble_eq_true rfl) (Nat.le_of_ble_eq_true rfl) (Nat.le_of_ble_eq_true rfl) (zGo.v ?_)
      refine e_istore_n (pc := 82) d_M_grant_82 (Nat.le_of_ble_eq_true rfl) ?_
      dsimp only [List.set]
      refine e_aload_n (pc := 83) d_M_grant_83 rfl ?_
      refine e_get (pc := 84) s_M_grant_84 rfl rfl ?_
      refine e_iload_n (pc := 87) d_M_grant_87 rfl ?_
      refine e_iald (pc := 88) d_M_grant_88 rfl (vp_in_nI (by omega) (by decide)) (fx2 (c := 1) (nI_clamp (by omega)) (Nat.mod_lt _ (by decide))) ?_
      refine e_if_eq (pc := 89) (tgt := 114) d_M_grant_89 (by decide) (fun hz33 => ?_) (fun hz33 => ?_)
      · have hg := show gmS T 1 k = T from if_neg (fun q => q.1 hz33)
        have q := sM_gT1 (l := l) (G := G) (K := K) (S := S) (T := gmS T 1 k) (th := 0) (fo := fo) (kd := T 12 1 0) hk (by rw [gmS_o _ _ _ (by decide) (by decide)]) ht0 ht1 ht2 (by rw [gmS_o _ _ _ (by decide) (by decide)]; exact h100) (by rw [gmS_o _ _ _ (by decide) (by decide)]; exact h101) (by rw [gmS_o _ _ _ (by decide) (by decide)]; exact h102)
        unfold gnM
        rw [hg] at q ⊢
        exact q
      · refine e_aload_n (pc := 92) d_M_grant_92 rfl ?_
        refine e_get (pc := 93) s_M_grant_93 rfl rfl ?_
        refine e_iload_n (pc := 96) d_M_grant_96 rfl ?_
        refine e_iald (pc := 97) d_M_grant_97 rfl (vp_in_nI (by omega) (by decide)) (fx2 (c := 1) (nI_clamp (by omega)) (Nat.mod_lt _ (by decide))) ?_
        refine e_iload_n (pc := 98) d_M_grant_98 rfl ?_
        refine e_icmp_eq (pc := 99) (tgt := 114) d_M_grant_99 (by decide) (fun hz34 => ?_) (fun hz34 => ?_)
        · have hg := show gmS T 1 k = T from if_neg (fun q => q.2 hz34)
          have q := sM_gT1 (l := l) (G := G) (K := K) (S := S) (T := gmS T 1 k) (th := 0) (fo := fo) (kd := T 12 1 0) hk (by rw [gmS_o _ _ _ (by decide) (by decide)]) ht0 ht1 ht2 (by rw [gmS_o _ _ _ (by decide) (by decide)]; exact h100) (by rw [gmS_o _ _ _ (by decide) (by decide)]; exact h101) (by rw [gmS_o _ _ _ (by decide) (by decide)]; exact h102)
          unfold gnM
          rw [hg] at q ⊢
          exact q
        · refine e_aload_n (pc := 102) d_M_grant_102 rfl ?_
          refine e_iload_n (pc := 103) d_M_grant_103 rfl ?_
          refine e_cV1 (pc := 104) s_M_grant_104 (sM_writeBack (c := 1) (by decide) (Nat.mod_lt _ (by decide)) ht1 h101) rfl rfl rfl (Nat.le_of_ble_eq_true rfl) (Nat.le_of_ble_eq_true rfl) (Nat.le_of_ble_eq_true rfl) (zGo.n ?_)
          refine e_aload_n (pc := 107) d_M_grant_107 rfl ?_
          refine e_get (pc := 108) s_M_grant_108 rfl rfl ?_
          refine e_iload_n (pc := 111) d_M_grant_111 rfl ?_
          refine e_iconst (pc := 112) (v := 0) d_M_grant_112 (by decide) ?_
          refine e_iast (pc := 113) d_M_grant_113 rfl (vp_in_nI (by omega) (by decide)) (vSt (c := 1) (nI_clamp (by omega)) (Nat.mod_lt _ (by decide))) ?_
          have hg := show gmS T 1 k = _ from if_pos ⟨hz33, hz34⟩
          have q := sM_gT1 (l := l) (G := G) (K := K) (S := S) (T := gmS T 1 k) (th := 0) (fo := fo) (kd := T 12 1 0) hk (by rw [gmS_o _ _ _ (by decide) (by decide)]) ht0 ht1 ht2 (by rw [gmS_o _ _ _ (by decide) (by decide)]; exact h100) (by rw [gmS_o _ _ _ (by decide) (by decide)]; exact h101) (by rw [gmS_o _ _ _ (by decide) (by decide)]; exact h102)
          unfold gnM
          rw [hg] at q ⊢
          exact q
    · refine e_aload_n (pc := 58) d_M_grant_58 rfl ?_
      refine e_get (pc := 59) s_M_grant_59 rfl rfl ?_
      refine e_iload_n (pc := 62) d_M_grant_62 rfl ?_
      refine e_iald (pc := 63) d_M_grant_63 rfl (vp_dec (by decide)) (fx1 (c := 2) (by decide)) ?_
      refine e_iload_n (pc := 64) d_M_grant_64 rfl ?_
      refine e_icmp_ne (pc := 65) (tgt := 70) d_M_grant_65 (by decide) (fun hz35 => ?_) (fun hz35 => ?_)
      · refine e_iinc (pc := 70) d_M_grant_70 rfl (Nat.le_of_ble_eq_true rfl) ?_
        dsimp only [List.set]
        refine e_goto (pc := 73) (tgt := 39) d_M_grant_73 (by decide) ?_
        refine e_iload_n (pc := 39) d_M_grant_39 rfl ?_
        refine e_iconst (pc := 40) (v := 3) d_M_grant_40 (by decide) ?_
        refine e_icmp_ge (pc := 41) (tgt := 76) d_M_grant_41 (by decide) (fun _ => ?_) (fun zz => absurd (by decide) zz)
        refine e_aload_n (pc := 76) d_M_grant_76 rfl ?_
        refine e_iload_n (pc := 77) d_M_grant_77 rfl ?_
        refine e_iload_n (pc := 78) d_M_grant_78 rfl ?_
        refine e_cV2 (pc := 79) s_M_grant_79 (sM_lineOf (c := 1) (by decide) hk) rfl rfl rfl (Nat.le_of_ble_eq_true rfl) (Nat.le_of_ble_eq_true rfl) (Nat.le_of_ble_eq_true rfl) (zGo.v ?_)
        refine e_istore_n (pc := 82) d_M_grant_82 (Nat.le_of_ble_eq_true rfl) ?_
        dsimp only [List.set]
        refine e_aload_n (pc := 83) d_M_grant_83 rfl ?_
        refine e_get (pc := 84) s_M_grant_84 rfl rfl ?_
        refine e_iload_n (pc := 87) d_M_grant_87 rfl ?_
        refine e_iald (pc := 88) d_M_grant_88 rfl (vp_in_nI (by omega) (by decide)) (fx2 (c := 1) (nI_clamp (by omega)) (Nat.mod_lt _ (by decide))) ?_
        refine e_if_eq (pc := 89) (tgt := 114) d_M_grant_89 (by decide) (fun hz36 => ?_) (fun hz36 => ?_)
        · have hg := show gmS T 1 k = T from if_neg (fun q => q.1 hz36)
          have q := sM_gT1 (l := l) (G := G) (K := K) (S := S) (T := gmS T 1 k) (th := 0) (fo := fo) (kd := T 12 1 0) hk (by rw [gmS_o _ _ _ (by decide) (by decide)]) ht0 ht1 ht2 (by rw [gmS_o _ _ _ (by decide) (by decide)]; exact h100) (by rw [gmS_o _ _ _ (by decide) (by decide)]; exact h101) (by rw [gmS_o _ _ _ (by decide) (by decide)]; exact h102)
          unfold gnM
          rw [hg] at q ⊢
          exact q
        · refine e_aload_n (pc := 92) d_M_grant_92 rfl ?_
          refine e_get (pc := 93) s_M_grant_93 rfl rfl ?_
          refine e_iload_n (pc := 96) d_M_grant_96 rfl ?_
          refine e_iald (pc := 97) d_M_grant_97 rfl (vp_in_nI (by omega) (by decide)) (fx2 (c := 1) (nI_clamp (by omega)) (Nat.mod_lt _ (by decide))) ?_
          refine e_iload_n (pc := 98) d_M_grant_98 rfl ?_
          refine e_icmp_eq (pc := 99) (tgt := 114) d_M_grant_99 (by decide) (fun hz37 => ?_) (fun hz37 => ?_)
          · have hg := show gmS T 1 k = T from if_neg (fun q => q.2 hz37)
            have q := sM_gT1 (l := l) (G := G) (K := K) (S := S) (T := gmS T 1 k) (th := 0) (fo := fo) (kd := T 12 1 0) hk (by rw [gmS_o _ _ _ (by decide) (by decide)]) ht0 ht1 ht2 (by rw [gmS_o _ _ _ (by decide) (by decide)]; exact h100) (by rw [gmS_o _ _ _ (by decide) (by decide)]; exact h101) (by rw [gmS_o _ _ _ (by decide) (by decide)]; exact h102)
            unfold gnM
            rw [hg] at q ⊢
            exact q
          · refine e_aload_n (pc := 102) d_M_grant_102 rfl ?_
            refine e_iload_n (pc := 103) d_M_grant_103 rfl ?_
            refine e_cV1 (pc := 104) s_M_grant_104 (sM_writeBack (c := 1) (by decide) (Nat.mod_lt _ (by decide)) ht1 h101) rfl rfl rfl (Nat.le_of_ble_eq_true rfl) (Nat.le_of_ble_eq_true rfl) (Nat.le_of_ble_eq_true rfl) (zGo.n ?_)
            refine e_aload_n (pc := 107) d_M_grant_107 rfl ?_
            refine e_get (pc := 108) s_M_grant_108 rfl rfl ?_
            refine e_iload_n (pc := 111) d_M_grant_111 rfl ?_
            refine e_iconst (pc := 112) (v := 0) d_M_grant_112 (by decide) ?_
            refine e_iast (pc := 113) d_M_grant_113 rfl (vp_in_nI (by omega) (by decide)) (vSt (c := 1) (nI_clamp (by omega)) (Nat.mod_lt _ (by decide))) ?_
            have hg := show gmS T 1 k = _ from if_pos ⟨hz36, hz37⟩
            have q := sM_gT1 (l := l) (G := G) (K := K) (S := S) (T := gmS T 1 k) (th := 0) (fo := fo) (kd := T 12 1 0) hk (by rw [gmS_o _ _ _ (by decide) (by decide)]) ht0 ht1 ht2 (by rw [gmS_o _ _ _ (by decide) (by decide)]; exact h100) (by rw [gmS_o _ _ _ (by decide) (by decide)]; exact h101) (by rw [gmS_o _ _ _ (by decide) (by decide)]; exact h102)
            unfold gnM
            rw [hg] at q ⊢
            exact q
      · exact absurd (by simp [elF, flyS, hz31, hz32, hz35]) he
  · refine e_aload_n (pc := 58) d_M_grant_58 rfl ?_
    refine e_get (pc := 59) s_M_grant_59 rfl rfl ?_
    refine e_iload_n (pc := 62) d_M_grant_62 rfl ?_
    refine e_iald (pc := 63) d_M_grant_63 rfl (vp_dec (by decide)) (fx1 (c := 0) (by decide)) ?_
    refine e_iload_n (pc := 64) d_M_grant_64 rfl ?_
    refine e_icmp_ne (pc := 65) (tgt := 70) d_M_grant_65 (by decide) (fun hz38 => ?_) (fun hz38 => ?_)
    · refine e_iinc (pc := 70) d_M_grant_70 rfl (Nat.le_of_ble_eq_true rfl) ?_
      dsimp only [List.set]
      refine e_goto (pc := 73) (tgt := 39) d_M_grant_73 (by decide) ?_
      refine e_iload_n (pc := 39) d_M_grant_39 rfl ?_
      refine e_iconst (pc := 40) (v := 3) d_M_grant_40 (by decide) ?_
      refine e_icmp_ge (pc := 41) (tgt := 76) d_M_grant_41 (by decide) (fun zz => absurd zz (by decide)) (fun _ => ?_)
      refine e_iload_n (pc := 44) d_M_grant_44 rfl ?_
      refine e_iload_n (pc := 45) d_M_grant_45 rfl ?_
      refine e_icmp_eq (pc := 46) (tgt := 70) d_M_grant_46 (by decide) (fun _ => ?_) (fun zz => absurd (by decide) zz)
      refine e_iinc (pc := 70) d_M_grant_70 rfl (Nat.le_of_ble_eq_true rfl) ?_
      dsimp only [List.set]
      refine e_goto (pc := 73) (tgt := 39) d_M_grant_73 (by decide) ?_
      refine e_iload_n (pc := 39) d_M_grant_39 rfl ?_
      refine e_iconst (pc := 40) (v := 3) d_M_grant_40 (by decide) ?_
      refine e_icmp_ge (pc := 41) (tgt := 76) d_M_grant_41 (by decide) (fun zz => absurd zz (by decide)) (fun _ => ?_)
      refine e_iload_n (pc := 44) d_M_grant_44 rfl ?_
      refine e_iload_n (pc := 45) d_M_grant_45 rfl ?_
      refine e_icmp_eq (pc := 46) (tgt := 70) d_M_grant_46 (by decide) (fun zz => absurd zz (by decide)) (fun _ => ?_)
      refine e_aload_n (pc := 49) d_M_grant_49 rfl ?_
      refine e_get (pc := 50) s_M_grant_50 rfl rfl ?_
      refine e_iload_n (pc := 53) d_M_grant_53 rfl ?_
      refine e_zald (pc := 54) d_M_grant_54 rfl (vp_dec (by decide)) (fx1 (c := 2) (by decide)) ?_
      refine e_if_eq (pc := 55) (tgt := 70) d_M_grant_55 (by decide) (fun hz39 => ?_) (fun hz39 => ?_)
      · refine e_iinc (pc := 70) d_M_grant_70 rfl (Nat.le_of_ble_eq_true rfl) ?_
        dsimp only [List.set]
        refine e_goto (pc := 73) (tgt := 39) d_M_grant_73 (by decide) ?_
        refine e_iload_n (pc := 39) d_M_grant_39 rfl ?_
        refine e_iconst (pc := 40) (v := 3) d_M_grant_40 (by decide) ?_
        refine e_icmp_ge (pc := 41) (tgt := 76) d_M_grant_41 (by decide) (fun _ => ?_) (fun zz => absurd (by decide) zz)
        refine e_aload_n (pc := 76) d_M_grant_76 rfl ?_
        refine e_iload_n (pc := 77) d_M_grant_77 rfl ?_
        refine e_iload_n (pc := 78) d_M_grant_78 rfl ?_
        refine e_cV2 (pc := 79) s_M_grant_79 (sM_lineOf (c := 1) (by decide) hk) rfl rfl rfl (Nat.le_of_ble_eq_true rfl) (Nat.le_of_ble_eq_true rfl) (Nat.le_of_ble_eq_true rfl) (zGo.v ?_)
        refine e_istore_n (pc := 82) d_M_grant_82 (Nat.le_of_ble_eq_true rfl) ?_
        dsimp only [List.set]
        refine e_aload_n (pc := 83) d_M_grant_83 rfl ?_
        refine e_get (pc := 84) s_M_grant_84 rfl rfl ?_
        refine e_iload_n (pc := 87) d_M_grant_87 rfl ?_
        refine e_iald (pc := 88) d_M_grant_88 rfl (vp_in_nI (by omega) (by decide)) (fx2 (c := 1) (nI_clamp (by omega)) (Nat.mod_lt _ (by decide))) ?_
        refine e_if_eq (pc := 89) (tgt := 114) d_M_grant_89 (by decide) (fun hz40 => ?_) (fun hz40 => ?_)
        · have hg := show gmS T 1 k = T from if_neg (fun q => q.1 hz40)
          have q := sM_gT1 (l := l) (G := G) (K := K) (S := S) (T := gmS T 1 k) (th := 0) (fo := fo) (kd := T 12 1 0) hk (by rw [gmS_o _ _ _ (by decide) (by decide)]) ht0 ht1 ht2 (by rw [gmS_o _ _ _ (by decide) (by decide)]; exact h100) (by rw [gmS_o _ _ _ (by decide) (by decide)]; exact h101) (by rw [gmS_o _ _ _ (by decide) (by decide)]; exact h102)
          unfold gnM
          rw [hg] at q ⊢
          exact q
        · refine e_aload_n (pc := 92) d_M_grant_92 rfl ?_
          refine e_get (pc := 93) s_M_grant_93 rfl rfl ?_
          refine e_iload_n (pc := 96) d_M_grant_96 rfl ?_
          refine e_iald (pc := 97) d_M_grant_97 rfl (vp_in_nI (by omega) (by decide)) (fx2 (c := 1) (nI_clamp (by omega)) (Nat.mod_lt _ (by decide))) ?_
          refine e_iload_n (pc := 98) d_M_grant_98 rfl ?_
          refine e_icmp_eq (pc := 99) (tgt := 114) d_M_grant_99 (by decide) (fun hz41 => ?_) (fun hz41 => ?_)
          · have hg := show gmS T 1 k = T from if_neg (fun q => q.2 hz41)
            have q := sM_gT1 (l := l) (G := G) (K := K) (S := S) (T := gmS T 1 k) (th := 0) (fo := fo) (kd := T 12 1 0) hk (by rw [gmS_o _ _ _ (by decide) (by decide)]) ht0 ht1 ht2 (by rw [gmS_o _ _ _ (by decide) (by decide)]; exact h100) (by rw [gmS_o _ _ _ (by decide) (by decide)]; exact h101) (by rw [gmS_o _ _ _ (by decide) (by decide)]; exact h102)
            unfold gnM
            rw [hg] at q ⊢
            exact q
          · refine e_aload_n (pc := 102) d_M_grant_102 rfl ?_
            refine e_iload_n (pc := 103) d_M_grant_103 rfl ?_
            refine e_cV1 (pc := 104) s_M_grant_104 (sM_writeBack (c := 1) (by decide) (Nat.mod_lt _ (by decide)) ht1 h101) rfl rfl rfl (Nat.le_of_ble_eq_true rfl) (Nat.le_of_ble_eq_true rfl) (Nat.le_of_ble_eq_true rfl) (zGo.n ?_)
            refine e_aload_n (pc := 107) d_M_grant_107 rfl ?_
            refine e_get (pc := 108) s_M_grant_108 rfl rfl ?_
            refine e_iload_n (pc := 111) d_M_grant_111 rfl ?_
            refine e_iconst (pc := 112) (v := 0) d_M_grant_112 (by decide) ?_
            refine e_iast (pc := 113) d_M_grant_113 rfl (vp_in_nI (by omega) (by decide)) (vSt (c := 1) (nI_clamp (by omega)) (Nat.mod_lt _ (by decide))) ?_
            have hg := show gmS T 1 k = _ from if_pos ⟨hz40, hz41⟩
            have q := sM_gT1 (l := l) (G := G) (K := K) (S := S) (T := gmS T 1 k) (th := 0) (fo := fo) (kd := T 12 1 0) hk (by rw [gmS_o _ _ _ (by decide) (by decide)]) ht0 ht1 ht2 (by rw [gmS_o _ _ _ (by decide) (by decide)]; exact h100) (by rw [gmS_o _ _ _ (by decide) (by decide)]; exact h101) (by rw [gmS_o _ _ _ (by decide) (by decide)]; exact h102)
            unfold gnM
            rw [hg] at q ⊢
            exact q
      · refine e_aload_n (pc := 58) d_M_grant_58 rfl ?_
        refine e_get (pc := 59) s_M_grant_59 rfl rfl ?_
        refine e_iload_n (pc := 62) d_M_grant_62 rfl ?_
        refine e_iald (pc := 63) d_M_grant_63 rfl (vp_dec (by decide)) (fx1 (c := 2) (by decide)) ?_
        refine e_iload_n (pc := 64) d_M_grant_64 rfl ?_
        refine e_icmp_ne (pc := 65) (tgt := 70) d_M_grant_65 (by decide) (fun hz42 => ?_) (fun hz42 => ?_)
        · refine e_iinc (pc := 70) d_M_grant_70 rfl (Nat.le_of_ble_eq_true rfl) ?_
          dsimp only [List.set]
          refine e_goto (pc := 73) (tgt := 39) d_M_grant_73 (by decide) ?_
          refine e_iload_n (pc := 39) d_M_grant_39 rfl ?_
          refine e_iconst (pc := 40) (v := 3) d_M_grant_40 (by decide) ?_
          refine e_icmp_ge (pc := 41) (tgt := 76) d_M_grant_41 (by decide) (fun _ => ?_) (fun zz => absurd (by decide) zz)
          refine e_aload_n (pc := 76) d_M_grant_76 rfl ?_
          refine e_iload_n (pc := 77) d_M_grant_77 rfl ?_
          refine e_iload_n (pc := 78) d_M_grant_78 rfl ?_
          refine e_cV2 (pc := 79) s_M_grant_79 (sM_lineOf (c := 1) (by decide) hk) rfl rfl rfl (Nat.le_of_ble_eq_true rfl) (Nat.le_of_ble_eq_true rfl) (Nat.le_of_ble_eq_true rfl) (zGo.v ?_)
          refine e_istore_n (pc := 82) d_M_grant_82 (Nat.le_of_ble_eq_true rfl) ?_
          dsimp only [List.set]
          refine e_aload_n (pc := 83) d_M_grant_83 rfl ?_
          refine e_get (pc := 84) s_M_grant_84 rfl rfl ?_
          refine e_iload_n (pc := 87) d_M_grant_87 rfl ?_
          refine e_iald (pc := 88) d_M_grant_88 rfl (vp_in_nI (by omega) (by decide)) (fx2 (c := 1) (nI_clamp (by omega)) (Nat.mod_lt _ (by decide))) ?_
          refine e_if_eq (pc := 89) (tgt := 114) d_M_grant_89 (by decide) (fun hz43 => ?_) (fun hz43 => ?_)
          · have hg := show gmS T 1 k = T from if_neg (fun q => q.1 hz43)
            have q := sM_gT1 (l := l) (G := G) (K := K) (S := S) (T := gmS T 1 k) (th := 0) (fo := fo) (kd := T 12 1 0) hk (by rw [gmS_o _ _ _ (by decide) (by decide)]) ht0 ht1 ht2 (by rw [gmS_o _ _ _ (by decide) (by decide)]; exact h100) (by rw [gmS_o _ _ _ (by decide) (by decide)]; exact h101) (by rw [gmS_o _ _ _ (by decide) (by decide)]; exact h102)
            unfold gnM
            rw [hg] at q ⊢
            exact q
          · refine e_aload_n (pc := 92) d_M_grant_92 rfl ?_
            refine e_get (pc := 93) s_M_grant_93 rfl rfl ?_
            refine e_iload_n (pc := 96) d_M_grant_96 rfl ?_
            refine e_iald (pc := 97) d_M_grant_97 rfl (vp_in_nI (by omega) (by decide)) (fx2 (c := 1) (nI_clamp (by omega)) (Nat.mod_lt _ (by decide))) ?_
            refine e_iload_n (pc := 98) d_M_grant_98 rfl ?_
            refine e_icmp_eq (pc := 99) (tgt := 114) d_M_grant_99 (by decide) (fun hz44 => ?_) (fun hz44 => ?_)
            · have hg := show gmS T 1 k = T from if_neg (fun q => q.2 hz44)
              have q := sM_gT1 (l := l) (G := G) (K := K) (S := S) (T := gmS T 1 k) (th := 0) (fo := fo) (kd := T 12 1 0) hk (by rw [gmS_o _ _ _ (by decide) (by decide)]) ht0 ht1 ht2 (by rw [gmS_o _ _ _ (by decide) (by decide)]; exact h100) (by rw [gmS_o _ _ _ (by decide) (by decide)]; exact h101) (by rw [gmS_o _ _ _ (by decide) (by decide)]; exact h102)
              unfold gnM
              rw [hg] at q ⊢
              exact q
            · refine e_aload_n (pc := 102) d_M_grant_102 rfl ?_
              refine e_iload_n (pc := 103) d_M_grant_103 rfl ?_
              refine e_cV1 (pc := 104) s_M_grant_104 (sM_writeBack (c := 1) (by decide) (Nat.mod_lt _ (by decide)) ht1 h101) rfl rfl rfl (Nat.le_of_ble_eq_true rfl) (Nat.le_of_ble_eq_true rfl) (Nat.le_of_ble_eq_true rfl) (zGo.n ?_)
              refine e_aload_n (pc := 107) d_M_grant_107 rfl ?_
              refine e_get (pc := 108) s_M_grant_108 rfl rfl ?_
              refine e_iload_n (pc := 111) d_M_grant_111 rfl ?_
              refine e_iconst (pc := 112) (v := 0) d_M_grant_112 (by decide) ?_
              refine e_iast (pc := 113) d_M_grant_113 rfl (vp_in_nI (by omega) (by decide)) (vSt (c := 1) (nI_clamp (by omega)) (Nat.mod_lt _ (by decide))) ?_
              have hg := show gmS T 1 k = _ from if_pos ⟨hz43, hz44⟩
              have q := sM_gT1 (l := l) (G := G) (K := K) (S := S) (T := gmS T 1 k) (th := 0) (fo := fo) (kd := T 12 1 0) hk (by rw [gmS_o _ _ _ (by decide) (by decide)]) ht0 ht1 ht2 (by rw [gmS_o _ _ _ (by decide) (by decide)]; exact h100) (by rw [gmS_o _ _ _ (by decide) (by decide)]; exact h101) (by rw [gmS_o _ _ _ (by decide) (by decide)]; exact h102)
              unfold gnM
              rw [hg] at q ⊢
              exact q
        · exact absurd (by simp [elF, flyS, hz31, hz38, hz39, hz42]) he
    · exact absurd (by simp [elF, flyS, hz31, hz38]) he
set_option maxHeartbeats 4000000 in
set_option maxRecDepth 100000 in
theorem sM_grantB2 {l : Launch} {G : zGP} {K : Nat} {S T : St} {th : Int32} {fo : Nat → Int64} {k : Nat} (hk : k < 8) (h12 : ¬ T 12 2 0 = 0) (h14 : T 14 2 0 = 0) (h13 : T 13 2 0 = nI k) (he : elF T 2 k) : Rn l G m_M_grant [.ref 45, .int (nI 2)] (hpA K S T th fo) (.inl (some (.int 4)), (hpA K S T 0 fo)) := by
  refine Rn.of (by decide) rfl rfl (Nat.le_of_ble_eq_true rfl) rfl ?_
  show Ev l G m_M_grant 0 [.ref 45, .int (nI 2), .double 0, .double 0, .double 0] [] (hpA K S T th fo) 0 0 _
  refine e_aload_n (pc := 0) d_M_grant_0 rfl ?_
  refine e_iload_n (pc := 1) d_M_grant_1 rfl ?_
  refine e_cV1 (pc := 2) s_M_grant_2 (sM_core (c := 2) (by decide)) rfl rfl rfl (Nat.le_of_ble_eq_true rfl) (Nat.le_of_ble_eq_true rfl) (Nat.le_of_ble_eq_true rfl) (zGo.v ?_)
  refine e_if_ne (pc := 5) (tgt := 10) d_M_grant_5 (by decide) (fun _ => ?_) (fun zz => absurd zz (by decide))
  refine e_aload_n (pc := 10) d_M_grant_10 rfl ?_
  refine e_get (pc := 11) s_M_grant_11 rfl rfl ?_
  refine e_iload_n (pc := 14) d_M_grant_14 rfl ?_
  refine e_iald (pc := 15) d_M_grant_15 rfl (vp_dec (by decide)) (fx1 (c := 2) (by decide)) ?_
  refine e_if_eq (pc := 16) (tgt := 28) d_M_grant_16 (by decide) (fun zz => absurd zz (h12)) (fun _ => ?_)
  refine e_aload_n (pc := 19) d_M_grant_19 rfl ?_
  refine e_get (pc := 20) s_M_grant_20 rfl rfl ?_
  refine e_iload_n (pc := 23) d_M_grant_23 rfl ?_
  refine e_zald (pc := 24) d_M_grant_24 rfl (vp_dec (by decide)) (fx1 (c := 2) (by decide)) ?_
  refine e_if_eq (pc := 25) (tgt := 30) d_M_grant_25 (by decide) (fun _ => ?_) (fun zz => absurd (h14) zz)
  refine e_aload_n (pc := 30) d_M_grant_30 rfl ?_
  refine e_get (pc := 31) s_M_grant_31 rfl rfl ?_
  refine e_iload_n (pc := 34) d_M_grant_34 rfl ?_
  refine e_iald (pc := 35) d_M_grant_35 rfl (vp_dec (by decide)) (((fx1 (c := 2) (by decide))).trans h13) ?_
  refine e_istore_n (pc := 36) d_M_grant_36 (Nat.le_of_ble_eq_true rfl) ?_
  dsimp only [List.set]
  refine e_iconst (pc := 37) (v := 0) d_M_grant_37 (by decide) ?_
  refine e_istore_n (pc := 38) d_M_grant_38 (Nat.le_of_ble_eq_true rfl) ?_
  dsimp only [List.set]
  refine e_iload_n (pc := 39) d_M_grant_39 rfl ?_
  refine e_iconst (pc := 40) (v := 3) d_M_grant_40 (by decide) ?_
  refine e_icmp_ge (pc := 41) (tgt := 76) d_M_grant_41 (by decide) (fun zz => absurd zz (by decide)) (fun _ => ?_)
  refine e_iload_n (pc := 44) d_M_grant_44 rfl ?_
  refine e_iload_n (pc := 45) d_M_grant_45 rfl ?_
  refine e_icmp_eq (pc := 46) (tgt := 70) d_M_grant_46 (by decide) (fun zz => absurd zz (by decide)) (fun _ => ?_)
  refine e_aload_n (pc := 49) d_M_grant_49 rfl ?_
  refine e_get (pc := 50) s_M_grant_50 rfl rfl ?_
  refine e_iload_n (pc := 53) d_M_grant_53 rfl ?_
  refine e_zald (pc := 54) d_M_grant_54 rfl (vp_dec (by decide)) (fx1 (c := 0) (by decide)) ?_
  refine e_if_eq (pc := 55) (tgt := 70) d_M_grant_55 (by decide) (fun hz45 => ?_) (fun hz45 => ?_)
  · refine e_iinc (pc := 70) d_M_grant_70 rfl (Nat.le_of_ble_eq_true rfl) ?_
    dsimp only [List.set]
    refine e_goto (pc := 73) (tgt := 39) d_M_grant_73 (by decide) ?_
    refine e_iload_n (pc := 39) d_M_grant_39 rfl ?_
    refine e_iconst (pc := 40) (v := 3) d_M_grant_40 (by decide) ?_
    refine e_icmp_ge (pc := 41) (tgt := 76) d_M_grant_41 (by decide) (fun zz => absurd zz (by decide)) (fun _ => ?_)
    refine e_iload_n (pc := 44) d_M_grant_44 rfl ?_
    refine e_iload_n (pc := 45) d_M_grant_45 rfl ?_
    refine e_icmp_eq (pc := 46) (tgt := 70) d_M_grant_46 (by decide) (fun zz => absurd zz (by decide)) (fun _ => ?_)
    refine e_aload_n (pc := 49) d_M_grant_49 rfl ?_
    refine e_get (pc := 50) s_M_grant_50 rfl rfl ?_
    refine e_iload_n (pc := 53) d_M_grant_53 rfl ?_
    refine e_zald (pc := 54) d_M_grant_54 rfl (vp_dec (by decide)) (fx1 (c := 1) (by decide)) ?_
    refine e_if_eq (pc := 55) (tgt := 70) d_M_grant_55 (by decide) (fun hz46 => ?_) (fun hz46 => ?_)
    · refine e_iinc (pc := 70) d_M_grant_70 rfl (Nat.le_of_ble_eq_true rfl) ?_
      dsimp only [List.set]
      refine e_goto (pc := 73) (tgt := 39) d_M_grant_73 (by decide) ?_
      refine e_iload_n (pc := 39) d_M_grant_39 rfl ?_
      refine e_iconst (pc := 40) (v := 3) d_M_grant_40 (by decide) ?_
      refine e_icmp_ge (pc := 41) (tgt := 76) d_M_grant_41 (by decide) (fun zz => absurd zz (by decide)) (fun _ => ?_)
      refine e_iload_n (pc := 44) d_M_grant_44 rfl ?_
      refine e_iload_n (pc := 45) d_M_grant_45 rfl ?_
      refine e_icmp_eq (pc := 46) (tgt := 70) d_M_grant_46 (by decide) (fun _ => ?_) (fun zz => absurd (by decide) zz)
      refine e_iinc (pc := 70) d_M_grant_70 rfl (Nat.le_of_ble_eq_true rfl) ?_
      dsimp only [List.set]
      refine e_goto (pc := 73) (tgt := 39) d_M_grant_73 (by decide) ?_
      refine e_iload_n (pc := 39) d_M_grant_39 rfl ?_
      refine e_iconst (pc := 40) (v := 3) d_M_grant_40 (by decide) ?_
      refine e_icmp_ge (pc := 41) (tgt := 76) d_M_grant_41 (by decide) (fun _ => ?_) (fun zz => absurd (by decide) zz)
      exact absurd he (by simp [elF, flyS, hz45, hz46])
    · refine e_aload_n (pc := 58) d_M_grant_58 rfl ?_
      refine e_get (pc := 59) s_M_grant_59 rfl rfl ?_
      refine e_iload_n (pc := 62) d_M_grant_62 rfl ?_
      refine e_iald (pc := 63) d_M_grant_63 rfl (vp_dec (by decide)) (fx1 (c := 1) (by decide)) ?_
      refine e_iload_n (pc := 64) d_M_grant_64 rfl ?_
      refine e_icmp_ne (pc := 65) (tgt := 70) d_M_grant_65 (by decide) (fun hz47 => ?_) (fun hz47 => ?_)
      · refine e_iinc (pc := 70) d_M_grant_70 rfl (Nat.le_of_ble_eq_true rfl) ?_
        dsimp only [List.set]
        refine e_goto (pc := 73) (tgt := 39) d_M_grant_73 (by decide) ?_
        refine e_iload_n (pc := 39) d_M_grant_39 rfl ?_
        refine e_iconst (pc := 40) (v := 3) d_M_grant_40 (by decide) ?_
        refine e_icmp_ge (pc := 41) (tgt := 76) d_M_grant_41 (by decide) (fun zz => absurd zz (by decide)) (fun _ => ?_)
        refine e_iload_n (pc := 44) d_M_grant_44 rfl ?_
        refine e_iload_n (pc := 45) d_M_grant_45 rfl ?_
        refine e_icmp_eq (pc := 46) (tgt := 70) d_M_grant_46 (by decide) (fun _ => ?_) (fun zz => absurd (by decide) zz)
        refine e_iinc (pc := 70) d_M_grant_70 rfl (Nat.le_of_ble_eq_true rfl) ?_
        dsimp only [List.set]
        refine e_goto (pc := 73) (tgt := 39) d_M_grant_73 (by decide) ?_
        refine e_iload_n (pc := 39) d_M_grant_39 rfl ?_
        refine e_iconst (pc := 40) (v := 3) d_M_grant_40 (by decide) ?_
        refine e_icmp_ge (pc := 41) (tgt := 76) d_M_grant_41 (by decide) (fun _ => ?_) (fun zz => absurd (by decide) zz)
        exact absurd he (by simp [elF, flyS, hz45, hz46, hz47])
      · refine e_iconst (pc := 68) (v := 4) d_M_grant_68 (by decide) ?_
        exact e_iret (pc := 69) d_M_grant_69 rfl rfl (Nat.le_of_ble_eq_true rfl) (Nat.le_of_ble_eq_true rfl) (by simp [hz45, hz46, hz47])
  · refine e_aload_n (pc := 58) d_M_grant_58 rfl ?_
    refine e_get (pc := 59) s_M_grant_59 rfl rfl ?_
    refine e_iload_n (pc := 62) d_M_grant_62 rfl ?_
    refine e_iald (pc := 63) d_M_grant_63 rfl (vp_dec (by decide)) (fx1 (c := 0) (by decide)) ?_
    refine e_iload_n (pc := 64) d_M_grant_64 rfl ?_
    refine e_icmp_ne (pc := 65) (tgt := 70) d_M_grant_65 (by decide) (fun hz48 => ?_) (fun hz48 => ?_)
    · refine e_iinc (pc := 70) d_M_grant_70 rfl (Nat.le_of_ble_eq_true rfl) ?_
      dsimp only [List.set]
      refine e_goto (pc := 73) (tgt := 39) d_M_grant_73 (by decide) ?_
      refine e_iload_n (pc := 39) d_M_grant_39 rfl ?_
      refine e_iconst (pc := 40) (v := 3) d_M_grant_40 (by decide) ?_
      refine e_icmp_ge (pc := 41) (tgt := 76) d_M_grant_41 (by decide) (fun zz => absurd zz (by decide)) (fun _ => ?_)
      refine e_iload_n (pc := 44) d_M_grant_44 rfl ?_
      refine e_iload_n (pc := 45) d_M_grant_45 rfl ?_
      refine e_icmp_eq (pc := 46) (tgt := 70) d_M_grant_46 (by decide) (fun zz => absurd zz (by decide)) (fun _ => ?_)
      refine e_aload_n (pc := 49) d_M_grant_49 rfl ?_
      refine e_get (pc := 50) s_M_grant_50 rfl rfl ?_
      refine e_iload_n (pc := 53) d_M_grant_53 rfl ?_
      refine e_zald (pc := 54) d_M_grant_54 rfl (vp_dec (by decide)) (fx1 (c := 1) (by decide)) ?_
      refine e_if_eq (pc := 55) (tgt := 70) d_M_grant_55 (by decide) (fun hz49 => ?_) (fun hz49 => ?_)
      · refine e_iinc (pc := 70) d_M_grant_70 rfl (Nat.le_of_ble_eq_true rfl) ?_
        dsimp only [List.set]
        refine e_goto (pc := 73) (tgt := 39) d_M_grant_73 (by decide) ?_
        refine e_iload_n (pc := 39) d_M_grant_39 rfl ?_
        refine e_iconst (pc := 40) (v := 3) d_M_grant_40 (by decide) ?_
        refine e_icmp_ge (pc := 41) (tgt := 76) d_M_grant_41 (by decide) (fun zz => absurd zz (by decide)) (fun _ => ?_)
        refine e_iload_n (pc := 44) d_M_grant_44 rfl ?_
        refine e_iload_n (pc := 45) d_M_grant_45 rfl ?_
        refine e_icmp_eq (pc := 46) (tgt := 70) d_M_grant_46 (by decide) (fun _ => ?_) (fun zz => absurd (by decide) zz)
        refine e_iinc (pc := 70) d_M_grant_70 rfl (Nat.le_of_ble_eq_true rfl) ?_
        dsimp only [List.set]
        refine e_goto (pc := 73) (tgt := 39) d_M_grant_73 (by decide) ?_
        refine e_iload_n (pc := 39) d_M_grant_39 rfl ?_
        refine e_iconst (pc := 40) (v := 3) d_M_grant_40 (by decide) ?_
        refine e_icmp_ge (pc := 41) (tgt := 76) d_M_grant_41 (by decide) (fun _ => ?_) (fun zz => absurd (by decide) zz)
        exact absurd he (by simp [elF, flyS, hz45, hz48, hz49])
      · refine e_aload_n (pc := 58) d_M_grant_58 rfl ?_
        refine e_get (pc := 59) s_M_grant_59 rfl rfl ?_
        refine e_iload_n (pc := 62) d_M_grant_62 rfl ?_
        refine e_iald (pc := 63) d_M_grant_63 rfl (vp_dec (by decide)) (fx1 (c := 1) (by decide)) ?_
        refine e_iload_n (pc := 64) d_M_grant_64 rfl ?_
        refine e_icmp_ne (pc := 65) (tgt := 70) d_M_grant_65 (by decide) (fun hz50 => ?_) (fun hz50 => ?_)
        · refine e_iinc (pc := 70) d_M_grant_70 rfl (Nat.le_of_ble_eq_true rfl) ?_
          dsimp only [List.set]
          refine e_goto (pc := 73) (tgt := 39) d_M_grant_73 (by decide) ?_
          refine e_iload_n (pc := 39) d_M_grant_39 rfl ?_
          refine e_iconst (pc := 40) (v := 3) d_M_grant_40 (by decide) ?_
          refine e_icmp_ge (pc := 41) (tgt := 76) d_M_grant_41 (by decide) (fun zz => absurd zz (by decide)) (fun _ => ?_)
          refine e_iload_n (pc := 44) d_M_grant_44 rfl ?_
          refine e_iload_n (pc := 45) d_M_grant_45 rfl ?_
          refine e_icmp_eq (pc := 46) (tgt := 70) d_M_grant_46 (by decide) (fun _ => ?_) (fun zz => absurd (by decide) zz)
          refine e_iinc (pc := 70) d_M_grant_70 rfl (Nat.le_of_ble_eq_true rfl) ?_
          dsimp only [List.set]
          refine e_goto (pc := 73) (tgt := 39) d_M_grant_73 (by decide) ?_
          refine e_iload_n (pc := 39) d_M_grant_39 rfl ?_
          refine e_iconst (pc := 40) (v := 3) d_M_grant_40 (by decide) ?_
          refine e_icmp_ge (pc := 41) (tgt := 76) d_M_grant_41 (by decide) (fun _ => ?_) (fun zz => absurd (by decide) zz)
          exact absurd he (by simp [elF, flyS, hz45, hz48, hz49, hz50])
        · refine e_iconst (pc := 68) (v := 4) d_M_grant_68 (by decide) ?_
          exact e_iret (pc := 69) d_M_grant_69 rfl rfl (Nat.le_of_ble_eq_true rfl) (Nat.le_of_ble_eq_true rfl) (by simp [hz45, hz48, hz49, hz50])
    · refine e_iconst (pc := 68) (v := 4) d_M_grant_68 (by decide) ?_
      exact e_iret (pc := 69) d_M_grant_69 rfl rfl (Nat.le_of_ble_eq_true rfl) (Nat.le_of_ble_eq_true rfl) (by simp [hz45, hz48])
set_option maxHeartbeats 4000000 in
set_option maxRecDepth 100000 in
theorem sM_gT2 {l : Launch} {G : zGP} {K : Nat} {S T : St} {th : Int32} {fo : Nat → Int64} {k t0 t1 t2 : Nat} {kd : Int32} (hk : k < 8) (h12 : T 12 2 0 = kd) (ht0 : t0 < 8) (ht1 : t1 < 8) (ht2 : t2 < 8) (h100 : T 10 0 (k % 2) = nI t0) (h101 : T 10 1 (k % 2) = nI t1) (h102 : T 10 2 (k % 2) = nI t2) : Ev l G m_M_grant 114 [.ref 45, .int (nI 2), .int (nI k), .int (nI (2 * 2 + k % 2)), .double 0] [] (hpA K S T th fo) 0 0 (.inl (some (.int 1)), (hpA K S (su (gr2 (su T 15 2 0 (wdM T k)) 2 k kd) 14 2 0 1) th fo)) := by
  refine e_aload_n (pc := 114) d_M_grant_114 rfl ?_
  refine e_get (pc := 115) s_M_grant_115 rfl rfl ?_
  refine e_iload_n (pc := 118) d_M_grant_118 rfl ?_
  refine e_aload_n (pc := 119) d_M_grant_119 rfl ?_
  refine e_iload_n (pc := 120) d_M_grant_120 rfl ?_
  refine e_cV1 (pc := 121) s_M_grant_121 (sM_wordAt hk) rfl rfl rfl (Nat.le_of_ble_eq_true rfl) (Nat.le_of_ble_eq_true rfl) (Nat.le_of_ble_eq_true rfl) (zGo.v ?_)
  refine e_iast (pc := 124) d_M_grant_124 rfl (vp_dec (by decide)) (vWv (c := 2) (by decide)) ?_
  refine e_iconst (pc := 125) (v := 0) d_M_grant_125 (by decide) ?_
  refine e_istore (pc := 126) d_M_grant_126 (Nat.le_of_ble_eq_true rfl) ?_
  dsimp only [List.set]
  refine e_iload (pc := 128) d_M_grant_128 rfl ?_
  refine e_iconst (pc := 130) (v := 3) d_M_grant_130 (by decide) ?_
  refine e_icmp_ge (pc := 131) (tgt := 194) d_M_grant_131 (by decide) (fun zz => absurd zz (by decide)) (fun _ => ?_)
  refine e_iload (pc := 134) d_M_grant_134 rfl ?_
  refine e_iload_n (pc := 136) d_M_grant_136 rfl ?_
  refine e_icmp_eq (pc := 137) (tgt := 188) d_M_grant_137 (by decide) (fun zz => absurd zz (by decide)) (fun _ => ?_)
  refine sM_gw (c := 2) (d := 0) (kd := kd) (by decide) (by decide) hk ht0 (by decide) h100 h12 ?_
  refine e_iinc (pc := 188) d_M_grant_188 rfl (Nat.le_of_ble_eq_true rfl) ?_
  dsimp only [List.set]
  refine e_goto (pc := 191) (tgt := 128) d_M_grant_191 (by decide) ?_
  refine e_iload (pc := 128) d_M_grant_128 rfl ?_
  refine e_iconst (pc := 130) (v := 3) d_M_grant_130 (by decide) ?_
  refine e_icmp_ge (pc := 131) (tgt := 194) d_M_grant_131 (by decide) (fun zz => absurd zz (by decide)) (fun _ => ?_)
  refine e_iload (pc := 134) d_M_grant_134 rfl ?_
  refine e_iload_n (pc := 136) d_M_grant_136 rfl ?_
  refine e_icmp_eq (pc := 137) (tgt := 188) d_M_grant_137 (by decide) (fun zz => absurd zz (by decide)) (fun _ => ?_)
  refine sM_gw (c := 2) (d := 1) (kd := kd) (by decide) (by decide) hk ht1 (by decide) (by rw [gwS_o _ _ _ _ (by decide) (by decide)]; exact h101) (by rw [gwS_o _ _ _ _ (by decide) (by decide)]; exact h12) ?_
  refine e_iinc (pc := 188) d_M_grant_188 rfl (Nat.le_of_ble_eq_true rfl) ?_
  dsimp only [List.set]
  refine e_goto (pc := 191) (tgt := 128) d_M_grant_191 (by decide) ?_
  refine e_iload (pc := 128) d_M_grant_128 rfl ?_
  refine e_iconst (pc := 130) (v := 3) d_M_grant_130 (by decide) ?_
  refine e_icmp_ge (pc := 131) (tgt := 194) d_M_grant_131 (by decide) (fun zz => absurd zz (by decide)) (fun _ => ?_)
  refine e_iload (pc := 134) d_M_grant_134 rfl ?_
  refine e_iload_n (pc := 136) d_M_grant_136 rfl ?_
  refine e_icmp_eq (pc := 137) (tgt := 188) d_M_grant_137 (by decide) (fun _ => ?_) (fun zz => absurd (by decide) zz)
  refine e_iinc (pc := 188) d_M_grant_188 rfl (Nat.le_of_ble_eq_true rfl) ?_
  dsimp only [List.set]
  refine e_goto (pc := 191) (tgt := 128) d_M_grant_191 (by decide) ?_
  refine e_iload (pc := 128) d_M_grant_128 rfl ?_
  refine e_iconst (pc := 130) (v := 3) d_M_grant_130 (by decide) ?_
  refine e_icmp_ge (pc := 131) (tgt := 194) d_M_grant_131 (by decide) (fun _ => ?_) (fun zz => absurd (by decide) zz)
  refine e_aload_n (pc := 194) d_M_grant_194 rfl ?_
  refine e_get (pc := 195) s_M_grant_195 rfl rfl ?_
  refine e_iload_n (pc := 198) d_M_grant_198 rfl ?_
  refine e_iconst (pc := 199) (v := 1) d_M_grant_199 (by decide) ?_
  refine e_zast (pc := 200) d_M_grant_200 rfl (vp_dec (by decide)) (Or.inr rfl) (vWf (c := 2) (by decide)) ?_
  refine e_iconst (pc := 201) (v := 1) d_M_grant_201 (by decide) ?_
  exact e_iret (pc := 202) d_M_grant_202 rfl rfl (Nat.le_of_ble_eq_true rfl) (Nat.le_of_ble_eq_true rfl) rfl
set_option maxHeartbeats 4000000 in
set_option maxRecDepth 100000 in
theorem sM_grant2 {l : Launch} {G : zGP} {K : Nat} {S T : St} {th : Int32} {fo : Nat → Int64} {k t0 t1 t2 : Nat} (hk : k < 8) (h12 : ¬ T 12 2 0 = 0) (h14 : T 14 2 0 = 0) (h13 : T 13 2 0 = nI k) (he : ¬ elF T 2 k) (ht0 : t0 < 8) (ht1 : t1 < 8) (ht2 : t2 < 8) (h100 : T 10 0 (k % 2) = nI t0) (h101 : T 10 1 (k % 2) = nI t1) (h102 : T 10 2 (k % 2) = nI t2) : Rn l G m_M_grant [.ref 45, .int (nI 2)] (hpA K S T th fo) (.inl (some (.int 1)), (hpA K S (gnM T 2 k) 0 fo)) := by
  refine Rn.of (by decide) rfl rfl (Nat.le_of_ble_eq_true rfl) rfl ?_
  show Ev l G m_M_grant 0 [.ref 45, .int (nI 2), .double 0, .double 0, .double 0] [] (hpA K S T th fo) 0 0 _
  refine e_aload_n (pc := 0) d_M_grant_0 rfl ?_
  refine e_iload_n (pc := 1) d_M_grant_1 rfl ?_
  refine e_cV1 (pc := 2) s_M_grant_2 (sM_core (c := 2) (by decide)) rfl rfl rfl (Nat.le_of_ble_eq_true rfl) (Nat.le_of_ble_eq_true rfl) (Nat.le_of_ble_eq_true rfl) (zGo.v ?_)
  refine e_if_ne (pc := 5) (tgt := 10) d_M_grant_5 (by decide) (fun _ => ?_) (fun zz => absurd zz (by decide))
  refine e_aload_n (pc := 10) d_M_grant_10 rfl ?_
  refine e_get (pc := 11) s_M_grant_11 rfl rfl ?_
  refine e_iload_n (pc := 14) d_M_grant_14 rfl ?_
  refine e_iald (pc := 15) d_M_grant_15 rfl (vp_dec (by decide)) (fx1 (c := 2) (by decide)) ?_
  refine e_if_eq (pc := 16) (tgt := 28) d_M_grant_16 (by decide) (fun zz => absurd zz (h12)) (fun _ => ?_)
  refine e_aload_n (pc := 19) d_M_grant_19 rfl ?_
  refine e_get (pc := 20) s_M_grant_20 rfl rfl ?_
  refine e_iload_n (pc := 23) d_M_grant_23 rfl ?_
  refine e_zald (pc := 24) d_M_grant_24 rfl (vp_dec (by decide)) (fx1 (c := 2) (by decide)) ?_
  refine e_if_eq (pc := 25) (tgt := 30) d_M_grant_25 (by decide) (fun _ => ?_) (fun zz => absurd (h14) zz)
  refine e_aload_n (pc := 30) d_M_grant_30 rfl ?_
  refine e_get (pc := 31) s_M_grant_31 rfl rfl ?_
  refine e_iload_n (pc := 34) d_M_grant_34 rfl ?_
  refine e_iald (pc := 35) d_M_grant_35 rfl (vp_dec (by decide)) (((fx1 (c := 2) (by decide))).trans h13) ?_
  refine e_istore_n (pc := 36) d_M_grant_36 (Nat.le_of_ble_eq_true rfl) ?_
  dsimp only [List.set]
  refine e_iconst (pc := 37) (v := 0) d_M_grant_37 (by decide) ?_
  refine e_istore_n (pc := 38) d_M_grant_38 (Nat.le_of_ble_eq_true rfl) ?_
  dsimp only [List.set]
  refine e_iload_n (pc := 39) d_M_grant_39 rfl ?_
  refine e_iconst (pc := 40) (v := 3) d_M_grant_40 (by decide) ?_
  refine e_icmp_ge (pc := 41) (tgt := 76) d_M_grant_41 (by decide) (fun zz => absurd zz (by decide)) (fun _ => ?_)
  refine e_iload_n (pc := 44) d_M_grant_44 rfl ?_
  refine e_iload_n (pc := 45) d_M_grant_45 rfl ?_
  refine e_icmp_eq (pc := 46) (tgt := 70) d_M_grant_46 (by decide) (fun zz => absurd zz (by decide)) (fun _ => ?_)
  refine e_aload_n (pc := 49) d_M_grant_49 rfl ?_
  refine e_get (pc := 50) s_M_grant_50 rfl rfl ?_
  refine e_iload_n (pc := 53) d_M_grant_53 rfl ?_
  refine e_zald (pc := 54) d_M_grant_54 rfl (vp_dec (by decide)) (fx1 (c := 0) (by decide)) ?_
  refine e_if_eq (pc := 55) (tgt := 70) d_M_grant_55 (by decide) (fun hz51 => ?_) (fun hz51 => ?_)
  · refine e_iinc (pc := 70) d_M_grant_70 rfl (Nat.le_of_ble_eq_true rfl) ?_
    dsimp only [List.set]
    refine e_goto (pc := 73) (tgt := 39) d_M_grant_73 (by decide) ?_
    refine e_iload_n (pc := 39) d_M_grant_39 rfl ?_
    refine e_iconst (pc := 40) (v := 3) d_M_grant_40 (by decide) ?_
    refine e_icmp_ge (pc := 41) (tgt := 76) d_M_grant_41 (by decide) (fun zz => absurd zz (by decide)) (fun _ => ?_)
    refine e_iload_n (pc := 44) d_M_grant_44 rfl ?_
    refine e_iload_n (pc := 45) d_M_grant_45 rfl ?_
    refine e_icmp_eq (pc := 46) (tgt := 70) d_M_grant_46 (by decide) (fun zz => absurd zz (by decide)) (fun _ => ?_)
    refine e_aload_n (pc := 49) d_M_grant_49 rfl ?_
    refine e_get (pc := 50) s_M_grant_50 rfl rfl ?_
    refine e_iload_n (pc := 53) d_M_grant_53 rfl ?_
    refine e_zald (pc := 54) d_M_grant_54 rfl (vp_dec (by decide)) (fx1 (c := 1) (by decide)) ?_
    refine e_if_eq (pc := 55) (tgt := 70) d_M_grant_55 (by decide) (fun hz52 => ?_) (fun hz52 => ?_)
    · refine e_iinc (pc := 70) d_M_grant_70 rfl (Nat.le_of_ble_eq_true rfl) ?_
      dsimp only [List.set]
      refine e_goto (pc := 73) (tgt := 39) d_M_grant_73 (by decide) ?_
      refine e_iload_n (pc := 39) d_M_grant_39 rfl ?_
      refine e_iconst (pc := 40) (v := 3) d_M_grant_40 (by decide) ?_
      refine e_icmp_ge (pc := 41) (tgt := 76) d_M_grant_41 (by decide) (fun zz => absurd zz (by decide)) (fun _ => ?_)
      refine e_iload_n (pc := 44) d_M_grant_44 rfl ?_
      refine e_iload_n (pc := 45) d_M_grant_45 rfl ?_
      refine e_icmp_eq (pc := 46) (tgt := 70) d_M_grant_46 (by decide) (fun _ => ?_) (fun zz => absurd (by decide) zz)
      refine e_iinc (pc := 70) d_M_grant_70 rfl (Nat.le_of_ble_eq_true rfl) ?_
      dsimp only [List.set]
      refine e_goto (pc := 73) (tgt := 39) d_M_grant_73 (by decide) ?_
      refine e_iload_n (pc := 39) d_M_grant_39 rfl ?_
      refine e_iconst (pc := 40) (v := 3) d_M_grant_40 (by decide) ?_
      refine e_icmp_ge (pc := 41) (tgt := 76) d_M_grant_41 (by decide) (fun _ => ?_) (fun zz => absurd (by decide) zz)
      refine e_aload_n (pc := 76) d_M_grant_76 rfl ?_
      refine e_iload_n (pc := 77) d_M_grant_77 rfl ?_
      refine e_iload_n (pc := 78) d_M_grant_78 rfl ?_
      refine e_cV2 (pc := 79) s_M_grant_79 (sM_lineOf (c := 2) (by decide) hk) rfl rfl rfl (Nat.le_of_ble_eq_true rfl) (Nat.le_of_ble_eq_true rfl) (Nat.le_of_ble_eq_true rfl) (zGo.v ?_)
      refine e_istore_n (pc := 82) d_M_grant_82 (Nat.le_of_ble_eq_true rfl) ?_
      dsimp only [List.set]
      refine e_aload_n (pc := 83) d_M_grant_83 rfl ?_
      refine e_get (pc := 84) s_M_grant_84 rfl rfl ?_
      refine e_iload_n (pc := 87) d_M_grant_87 rfl ?_
      refine e_iald (pc := 88) d_M_grant_88 rfl (vp_in_nI (by omega) (by decide)) (fx2 (c := 2) (nI_clamp (by omega)) (Nat.mod_lt _ (by decide))) ?_
      refine e_if_eq (pc := 89) (tgt := 114) d_M_grant_89 (by decide) (fun hz53 => ?_) (fun hz53 => ?_)
      · have hg := show gmS T 2 k = T from if_neg (fun q => q.1 hz53)
        have q := sM_gT2 (l := l) (G := G) (K := K) (S := S) (T := gmS T 2 k) (th := 0) (fo := fo) (kd := T 12 2 0) hk (by rw [gmS_o _ _ _ (by decide) (by decide)]) ht0 ht1 ht2 (by rw [gmS_o _ _ _ (by decide) (by decide)]; exact h100) (by rw [gmS_o _ _ _ (by decide) (by decide)]; exact h101) (by rw [gmS_o _ _ _ (by decide) (by decide)]; exact h102)
        unfold gnM
        rw [hg] at q ⊢
        exact q
      · refine e_aload_n (pc := 92) d_M_grant_92 rfl ?_
        refine e_get (pc := 93) s_M_grant_93 rfl rfl ?_
        refine e_iload_n (pc := 96) d_M_grant_96 rfl ?_
        refine e_iald (pc := 97) d_M_grant_97 rfl (vp_in_nI (by omega) (by decide)) (fx2 (c := 2) (nI_clamp (by omega)) (Nat.mod_lt _ (by decide))) ?_
        refine e_iload_n (pc := 98) d_M_grant_98 rfl ?_
        refine e_icmp_eq (pc := 99) (tgt := 114) d_M_grant_99 (by decide) (fun hz54 => ?_) (fun hz54 => ?_)
        · have hg := show gmS T 2 k = T from if_neg (fun q => q.2 hz54)
          have q := sM_gT2 (l := l) (G := G) (K := K) (S := S) (T := gmS T 2 k) (th := 0) (fo := fo) (kd := T 12 2 0) hk (by rw [gmS_o _ _ _ (by decide) (by decide)]) ht0 ht1 ht2 (by rw [gmS_o _ _ _ (by decide) (by decide)]; exact h100) (by rw [gmS_o _ _ _ (by decide) (by decide)]; exact h101) (by rw [gmS_o _ _ _ (by decide) (by decide)]; exact h102)
          unfold gnM
          rw [hg] at q ⊢
          exact q
        · refine e_aload_n (pc := 102) d_M_grant_102 rfl ?_
          refine e_iload_n (pc := 103) d_M_grant_103 rfl ?_
          refine e_cV1 (pc := 104) s_M_grant_104 (sM_writeBack (c := 2) (by decide) (Nat.mod_lt _ (by decide)) ht2 h102) rfl rfl rfl (Nat.le_of_ble_eq_true rfl) (Nat.le_of_ble_eq_true rfl) (Nat.le_of_ble_eq_true rfl) (zGo.n ?_)
          refine e_aload_n (pc := 107) d_M_grant_107 rfl ?_
          refine e_get (pc := 108) s_M_grant_108 rfl rfl ?_
          refine e_iload_n (pc := 111) d_M_grant_111 rfl ?_
          refine e_iconst (pc := 112) (v := 0) d_M_grant_112 (by decide) ?_
          refine e_iast (pc := 113) d_M_grant_113 rfl (vp_in_nI (by omega) (by decide)) (vSt (c := 2) (nI_clamp (by omega)) (Nat.mod_lt _ (by decide))) ?_
          have hg := show gmS T 2 k = _ from if_pos ⟨hz53, hz54⟩
          have q := sM_gT2 (l := l) (G := G) (K := K) (S := S) (T := gmS T 2 k) (th := 0) (fo := fo) (kd := T 12 2 0) hk (by rw [gmS_o _ _ _ (by decide) (by decide)]) ht0 ht1 ht2 (by rw [gmS_o _ _ _ (by decide) (by decide)]; exact h100) (by rw [gmS_o _ _ _ (by decide) (by decide)]; exact h101) (by rw [gmS_o _ _ _ (by decide) (by decide)]; exact h102)
          unfold gnM
          rw [hg] at q ⊢
          exact q
    · refine e_aload_n (pc := 58) d_M_grant_58 rfl ?_
      refine e_get (pc := 59) s_M_grant_59 rfl rfl ?_
      refine e_iload_n (pc := 62) d_M_grant_62 rfl ?_
      refine e_iald (pc := 63) d_M_grant_63 rfl (vp_dec (by decide)) (fx1 (c := 1) (by decide)) ?_
      refine e_iload_n (pc := 64) d_M_grant_64 rfl ?_
      refine e_icmp_ne (pc := 65) (tgt := 70) d_M_grant_65 (by decide) (fun hz55 => ?_) (fun hz55 => ?_)
      · refine e_iinc (pc := 70) d_M_grant_70 rfl (Nat.le_of_ble_eq_true rfl) ?_
        dsimp only [List.set]
        refine e_goto (pc := 73) (tgt := 39) d_M_grant_73 (by decide) ?_
        refine e_iload_n (pc := 39) d_M_grant_39 rfl ?_
        refine e_iconst (pc := 40) (v := 3) d_M_grant_40 (by decide) ?_
        refine e_icmp_ge (pc := 41) (tgt := 76) d_M_grant_41 (by decide) (fun zz => absurd zz (by decide)) (fun _ => ?_)
        refine e_iload_n (pc := 44) d_M_grant_44 rfl ?_
        refine e_iload_n (pc := 45) d_M_grant_45 rfl ?_
        refine e_icmp_eq (pc := 46) (tgt := 70) d_M_grant_46 (by decide) (fun _ => ?_) (fun zz => absurd (by decide) zz)
        refine e_iinc (pc := 70) d_M_grant_70 rfl (Nat.le_of_ble_eq_true rfl) ?_
        dsimp only [List.set]
        refine e_goto (pc := 73) (tgt := 39) d_M_grant_73 (by decide) ?_
        refine e_iload_n (pc := 39) d_M_grant_39 rfl ?_
        refine e_iconst (pc := 40) (v := 3) d_M_grant_40 (by decide) ?_
        refine e_icmp_ge (pc := 41) (tgt := 76) d_M_grant_41 (by decide) (fun _ => ?_) (fun zz => absurd (by decide) zz)
        refine e_aload_n (pc := 76) d_M_grant_76 rfl ?_
        refine e_iload_n (pc := 77) d_M_grant_77 rfl ?_
        refine e_iload_n (pc := 78) d_M_grant_78 rfl ?_
        refine e_cV2 (pc := 79) s_M_grant_79 (sM_lineOf (c := 2) (by decide) hk) rfl rfl rfl (Nat.le_of_ble_eq_true rfl) (Nat.le_of_ble_eq_true rfl) (Nat.le_of_ble_eq_true rfl) (zGo.v ?_)
        refine e_istore_n (pc := 82) d_M_grant_82 (Nat.le_of_ble_eq_true rfl) ?_
        dsimp only [List.set]
        refine e_aload_n (pc := 83) d_M_grant_83 rfl ?_
        refine e_get (pc := 84) s_M_grant_84 rfl rfl ?_
        refine e_iload_n (pc := 87) d_M_grant_87 rfl ?_
        refine e_iald (pc := 88) d_M_grant_88 rfl (vp_in_nI (by omega) (by decide)) (fx2 (c := 2) (nI_clamp (by omega)) (Nat.mod_lt _ (by decide))) ?_
        refine e_if_eq (pc := 89) (tgt := 114) d_M_grant_89 (by decide) (fun hz56 => ?_) (fun hz56 => ?_)
        · have hg := show gmS T 2 k = T from if_neg (fun q => q.1 hz56)
          have q := sM_gT2 (l := l) (G := G) (K := K) (S := S) (T := gmS T 2 k) (th := 0) (fo := fo) (kd := T 12 2 0) hk (by rw [gmS_o _ _ _ (by decide) (by decide)]) ht0 ht1 ht2 (by rw [gmS_o _ _ _ (by decide) (by decide)]; exact h100) (by rw [gmS_o _ _ _ (by decide) (by decide)]; exact h101) (by rw [gmS_o _ _ _ (by decide) (by decide)]; exact h102)
          unfold gnM
          rw [hg] at q ⊢
          exact q
        · refine e_aload_n (pc := 92) d_M_grant_92 rfl ?_
          refine e_get (pc := 93) s_M_grant_93 rfl rfl ?_
          refine e_iload_n (pc := 96) d_M_grant_96 rfl ?_
          refine e_iald (pc := 97) d_M_grant_97 rfl (vp_in_nI (by omega) (by decide)) (fx2 (c := 2) (nI_clamp (by omega)) (Nat.mod_lt _ (by decide))) ?_
          refine e_iload_n (pc := 98) d_M_grant_98 rfl ?_
          refine e_icmp_eq (pc := 99) (tgt := 114) d_M_grant_99 (by decide) (fun hz57 => ?_) (fun hz57 => ?_)
          · have hg := show gmS T 2 k = T from if_neg (fun q => q.2 hz57)
            have q := sM_gT2 (l := l) (G := G) (K := K) (S := S) (T := gmS T 2 k) (th := 0) (fo := fo) (kd := T 12 2 0) hk (by rw [gmS_o _ _ _ (by decide) (by decide)]) ht0 ht1 ht2 (by rw [gmS_o _ _ _ (by decide) (by decide)]; exact h100) (by rw [gmS_o _ _ _ (by decide) (by decide)]; exact h101) (by rw [gmS_o _ _ _ (by decide) (by decide)]; exact h102)
            unfold gnM
            rw [hg] at q ⊢
            exact q
          · refine e_aload_n (pc := 102) d_M_grant_102 rfl ?_
            refine e_iload_n (pc := 103) d_M_grant_103 rfl ?_
            refine e_cV1 (pc := 104) s_M_grant_104 (sM_writeBack (c := 2) (by decide) (Nat.mod_lt _ (by decide)) ht2 h102) rfl rfl rfl (Nat.le_of_ble_eq_true rfl) (Nat.le_of_ble_eq_true rfl) (Nat.le_of_ble_eq_true rfl) (zGo.n ?_)
            refine e_aload_n (pc := 107) d_M_grant_107 rfl ?_
            refine e_get (pc := 108) s_M_grant_108 rfl rfl ?_
            refine e_iload_n (pc := 111) d_M_grant_111 rfl ?_
            refine e_iconst (pc := 112) (v := 0) d_M_grant_112 (by decide) ?_
            refine e_iast (pc := 113) d_M_grant_113 rfl (vp_in_nI (by omega) (by decide)) (vSt (c := 2) (nI_clamp (by omega)) (Nat.mod_lt _ (by decide))) ?_
            have hg := show gmS T 2 k = _ from if_pos ⟨hz56, hz57⟩
            have q := sM_gT2 (l := l) (G := G) (K := K) (S := S) (T := gmS T 2 k) (th := 0) (fo := fo) (kd := T 12 2 0) hk (by rw [gmS_o _ _ _ (by decide) (by decide)]) ht0 ht1 ht2 (by rw [gmS_o _ _ _ (by decide) (by decide)]; exact h100) (by rw [gmS_o _ _ _ (by decide) (by decide)]; exact h101) (by rw [gmS_o _ _ _ (by decide) (by decide)]; exact h102)
            unfold gnM
            rw [hg] at q ⊢
            exact q
      · exact absurd (by simp [elF, flyS, hz51, hz52, hz55]) he
  · refine e_aload_n (pc := 58) d_M_grant_58 rfl ?_
    refine e_get (pc := 59) s_M_grant_59 rfl rfl ?_
    refine e_iload_n (pc := 62) d_M_grant_62 rfl ?_
    refine e_iald (pc := 63) d_M_grant_63 rfl (vp_dec (by decide)) (fx1 (c := 0) (by decide)) ?_
    refine e_iload_n (pc := 64) d_M_grant_64 rfl ?_
    refine e_icmp_ne (pc := 65) (tgt := 70) d_M_grant_65 (by decide) (fun hz58 => ?_) (fun hz58 => ?_)
    · refine e_iinc (pc := 70) d_M_grant_70 rfl (Nat.le_of_ble_eq_true rfl) ?_
      dsimp only [List.set]
      refine e_goto (pc := 73) (tgt := 39) d_M_grant_73 (by decide) ?_
      refine e_iload_n (pc := 39) d_M_grant_39 rfl ?_
      refine e_iconst (pc := 40) (v := 3) d_M_grant_40 (by decide) ?_
      refine e_icmp_ge (pc := 41) (tgt := 76) d_M_grant_41 (by decide) (fun zz => absurd zz (by decide)) (fun _ => ?_)
      refine e_iload_n (pc := 44) d_M_grant_44 rfl ?_
      refine e_iload_n (pc := 45) d_M_grant_45 rfl ?_
      refine e_icmp_eq (pc := 46) (tgt := 70) d_M_grant_46 (by decide) (fun zz => absurd zz (by decide)) (fun _ => ?_)
      refine e_aload_n (pc := 49) d_M_grant_49 rfl ?_
      refine e_get (pc := 50) s_M_grant_50 rfl rfl ?_
      refine e_iload_n (pc := 53) d_M_grant_53 rfl ?_
      refine e_zald (pc := 54) d_M_grant_54 rfl (vp_dec (by decide)) (fx1 (c := 1) (by decide)) ?_
      refine e_if_eq (pc := 55) (tgt := 70) d_M_grant_55 (by decide) (fun hz59 => ?_) (fun hz59 => ?_)
      · refine e_iinc (pc := 70) d_M_grant_70 rfl (Nat.le_of_ble_eq_true rfl) ?_
        dsimp only [List.set]
        refine e_goto (pc := 73) (tgt := 39) d_M_grant_73 (by decide) ?_
        refine e_iload_n (pc := 39) d_M_grant_39 rfl ?_
        refine e_iconst (pc := 40) (v := 3) d_M_grant_40 (by decide) ?_
        refine e_icmp_ge (pc := 41) (tgt := 76) d_M_grant_41 (by decide) (fun zz => absurd zz (by decide)) (fun _ => ?_)
        refine e_iload_n (pc := 44) d_M_grant_44 rfl ?_
        refine e_iload_n (pc := 45) d_M_grant_45 rfl ?_
        refine e_icmp_eq (pc := 46) (tgt := 70) d_M_grant_46 (by decide) (fun _ => ?_) (fun zz => absurd (by decide) zz)
        refine e_iinc (pc := 70) d_M_grant_70 rfl (Nat.le_of_ble_eq_true rfl) ?_
        dsimp only [List.set]
        refine e_goto (pc := 73) (tgt := 39) d_M_grant_73 (by decide) ?_
        refine e_iload_n (pc := 39) d_M_grant_39 rfl ?_
        refine e_iconst (pc := 40) (v := 3) d_M_grant_40 (by decide) ?_
        refine e_icmp_ge (pc := 41) (tgt := 76) d_M_grant_41 (by decide) (fun _ => ?_) (fun zz => absurd (by decide) zz)
        refine e_aload_n (pc := 76) d_M_grant_76 rfl ?_
        refine e_iload_n (pc := 77) d_M_grant_77 rfl ?_
        refine e_iload_n (pc := 78) d_M_grant_78 rfl ?_
        refine e_cV2 (pc := 79) s_M_grant_79 (sM_lineOf (c := 2) (by decide) hk) rfl rfl rfl (Nat.le_of_ble_eq_true rfl) (Nat.le_of_ble_eq_true rfl) (Nat.le_of_ble_eq_true rfl) (zGo.v ?_)
        refine e_istore_n (pc := 82) d_M_grant_82 (Nat.le_of_ble_eq_true rfl) ?_
        dsimp only [List.set]
        refine e_aload_n (pc := 83) d_M_grant_83 rfl ?_
        refine e_get (pc := 84) s_M_grant_84 rfl rfl ?_
        refine e_iload_n (pc := 87) d_M_grant_87 rfl ?_
        refine e_iald (pc := 88) d_M_grant_88 rfl (vp_in_nI (by omega) (by decide)) (fx2 (c := 2) (nI_clamp (by omega)) (Nat.mod_lt _ (by decide))) ?_
        refine e_if_eq (pc := 89) (tgt := 114) d_M_grant_89 (by decide) (fun hz60 => ?_) (fun hz60 => ?_)
        · have hg := show gmS T 2 k = T from if_neg (fun q => q.1 hz60)
          have q := sM_gT2 (l := l) (G := G) (K := K) (S := S) (T := gmS T 2 k) (th := 0) (fo := fo) (kd := T 12 2 0) hk (by rw [gmS_o _ _ _ (by decide) (by decide)]) ht0 ht1 ht2 (by rw [gmS_o _ _ _ (by decide) (by decide)]; exact h100) (by rw [gmS_o _ _ _ (by decide) (by decide)]; exact h101) (by rw [gmS_o _ _ _ (by decide) (by decide)]; exact h102)
          unfold gnM
          rw [hg] at q ⊢
          exact q
        · refine e_aload_n (pc := 92) d_M_grant_92 rfl ?_
          refine e_get (pc := 93) s_M_grant_93 rfl rfl ?_
          refine e_iload_n (pc := 96) d_M_grant_96 rfl ?_
          refine e_iald (pc := 97) d_M_grant_97 rfl (vp_in_nI (by omega) (by decide)) (fx2 (c := 2) (nI_clamp (by omega)) (Nat.mod_lt _ (by decide))) ?_
          refine e_iload_n (pc := 98) d_M_grant_98 rfl ?_
          refine e_icmp_eq (pc := 99) (tgt := 114) d_M_grant_99 (by decide) (fun hz61 => ?_) (fun hz61 => ?_)
          · have hg := show gmS T 2 k = T from if_neg (fun q => q.2 hz61)
            have q := sM_gT2 (l := l) (G := G) (K := K) (S := S) (T := gmS T 2 k) (th := 0) (fo := fo) (kd := T 12 2 0) hk (by rw [gmS_o _ _ _ (by decide) (by decide)]) ht0 ht1 ht2 (by rw [gmS_o _ _ _ (by decide) (by decide)]; exact h100) (by rw [gmS_o _ _ _ (by decide) (by decide)]; exact h101) (by rw [gmS_o _ _ _ (by decide) (by decide)]; exact h102)
            unfold gnM
            rw [hg] at q ⊢
            exact q
          · refine e_aload_n (pc := 102) d_M_grant_102 rfl ?_
            refine e_iload_n (pc := 103) d_M_grant_103 rfl ?_
            refine e_cV1 (pc := 104) s_M_grant_104 (sM_writeBack (c := 2) (by decide) (Nat.mod_lt _ (by decide)) ht2 h102) rfl rfl rfl (Nat.le_of_ble_eq_true rfl) (Nat.le_of_ble_eq_true rfl) (Nat.le_of_ble_eq_true rfl) (zGo.n ?_)
            refine e_aload_n (pc := 107) d_M_grant_107 rfl ?_
            refine e_get (pc := 108) s_M_grant_108 rfl rfl ?_
            refine e_iload_n (pc := 111) d_M_grant_111 rfl ?_
            refine e_iconst (pc := 112) (v := 0) d_M_grant_112 (by decide) ?_
            refine e_iast (pc := 113) d_M_grant_113 rfl (vp_in_nI (by omega) (by decide)) (vSt (c := 2) (nI_clamp (by omega)) (Nat.mod_lt _ (by decide))) ?_
            have hg := show gmS T 2 k = _ from if_pos ⟨hz60, hz61⟩
            have q := sM_gT2 (l := l) (G := G) (K := K) (S := S) (T := gmS T 2 k) (th := 0) (fo := fo) (kd := T 12 2 0) hk (by rw [gmS_o _ _ _ (by decide) (by decide)]) ht0 ht1 ht2 (by rw [gmS_o _ _ _ (by decide) (by decide)]; exact h100) (by rw [gmS_o _ _ _ (by decide) (by decide)]; exact h101) (by rw [gmS_o _ _ _ (by decide) (by decide)]; exact h102)
            unfold gnM
            rw [hg] at q ⊢
            exact q
      · refine e_aload_n (pc := 58) d_M_grant_58 rfl ?_
        refine e_get (pc := 59) s_M_grant_59 rfl rfl ?_
        refine e_iload_n (pc := 62) d_M_grant_62 rfl ?_
        refine e_iald (pc := 63) d_M_grant_63 rfl (vp_dec (by decide)) (fx1 (c := 1) (by decide)) ?_
        refine e_iload_n (pc := 64) d_M_grant_64 rfl ?_
        refine e_icmp_ne (pc := 65) (tgt := 70) d_M_grant_65 (by decide) (fun hz62 => ?_) (fun hz62 => ?_)
        · refine e_iinc (pc := 70) d_M_grant_70 rfl (Nat.le_of_ble_eq_true rfl) ?_
          dsimp only [List.set]
          refine e_goto (pc := 73) (tgt := 39) d_M_grant_73 (by decide) ?_
          refine e_iload_n (pc := 39) d_M_grant_39 rfl ?_
          refine e_iconst (pc := 40) (v := 3) d_M_grant_40 (by decide) ?_
          refine e_icmp_ge (pc := 41) (tgt := 76) d_M_grant_41 (by decide) (fun zz => absurd zz (by decide)) (fun _ => ?_)
          refine e_iload_n (pc := 44) d_M_grant_44 rfl ?_
          refine e_iload_n (pc := 45) d_M_grant_45 rfl ?_
          refine e_icmp_eq (pc := 46) (tgt := 70) d_M_grant_46 (by decide) (fun _ => ?_) (fun zz => absurd (by decide) zz)
          refine e_iinc (pc := 70) d_M_grant_70 rfl (Nat.le_of_ble_eq_true rfl) ?_
          dsimp only [List.set]
          refine e_goto (pc := 73) (tgt := 39) d_M_grant_73 (by decide) ?_
          refine e_iload_n (pc := 39) d_M_grant_39 rfl ?_
          refine e_iconst (pc := 40) (v := 3) d_M_grant_40 (by decide) ?_
          refine e_icmp_ge (pc := 41) (tgt := 76) d_M_grant_41 (by decide) (fun _ => ?_) (fun zz => absurd (by decide) zz)
          refine e_aload_n (pc := 76) d_M_grant_76 rfl ?_
          refine e_iload_n (pc := 77) d_M_grant_77 rfl ?_
          refine e_iload_n (pc := 78) d_M_grant_78 rfl ?_
          refine e_cV2 (pc := 79) s_M_grant_79 (sM_lineOf (c := 2) (by decide) hk) rfl rfl rfl (Nat.le_of_ble_eq_true rfl) (Nat.le_of_ble_eq_true rfl) (Nat.le_of_ble_eq_true rfl) (zGo.v ?_)
          refine e_istore_n (pc := 82) d_M_grant_82 (Nat.le_of_ble_eq_true rfl) ?_
          dsimp only [List.set]
          refine e_aload_n (pc := 83) d_M_grant_83 rfl ?_
          refine e_get (pc := 84) s_M_grant_84 rfl rfl ?_
          refine e_iload_n (pc := 87) d_M_grant_87 rfl ?_
          refine e_iald (pc := 88) d_M_grant_88 rfl (vp_in_nI (by omega) (by decide)) (fx2 (c := 2) (nI_clamp (by omega)) (Nat.mod_lt _ (by decide))) ?_
          refine e_if_eq (pc := 89) (tgt := 114) d_M_grant_89 (by decide) (fun hz63 => ?_) (fun hz63 => ?_)
          · have hg := show gmS T 2 k = T from if_neg (fun q => q.1 hz63)
            have q := sM_gT2 (l := l) (G := G) (K := K) (S := S) (T := gmS T 2 k) (th := 0) (fo := fo) (kd := T 12 2 0) hk (by rw [gmS_o _ _ _ (by decide) (by decide)]) ht0 ht1 ht2 (by rw [gmS_o _ _ _ (by decide) (by decide)]; exact h100) (by rw [gmS_o _ _ _ (by decide) (by decide)]; exact h101) (by rw [gmS_o _ _ _ (by decide) (by decide)]; exact h102)
            unfold gnM
            rw [hg] at q ⊢
            exact q
          · refine e_aload_n (pc := 92) d_M_grant_92 rfl ?_
            refine e_get (pc := 93) s_M_grant_93 rfl rfl ?_
            refine e_iload_n (pc := 96) d_M_grant_96 rfl ?_
            refine e_iald (pc := 97) d_M_grant_97 rfl (vp_in_nI (by omega) (by decide)) (fx2 (c := 2) (nI_clamp (by omega)) (Nat.mod_lt _ (by decide))) ?_
            refine e_iload_n (pc := 98) d_M_grant_98 rfl ?_
            refine e_icmp_eq (pc := 99) (tgt := 114) d_M_grant_99 (by decide) (fun hz64 => ?_) (fun hz64 => ?_)
            · have hg := show gmS T 2 k = T from if_neg (fun q => q.2 hz64)
              have q := sM_gT2 (l := l) (G := G) (K := K) (S := S) (T := gmS T 2 k) (th := 0) (fo := fo) (kd := T 12 2 0) hk (by rw [gmS_o _ _ _ (by decide) (by decide)]) ht0 ht1 ht2 (by rw [gmS_o _ _ _ (by decide) (by decide)]; exact h100) (by rw [gmS_o _ _ _ (by decide) (by decide)]; exact h101) (by rw [gmS_o _ _ _ (by decide) (by decide)]; exact h102)
              unfold gnM
              rw [hg] at q ⊢
              exact q
            · refine e_aload_n (pc := 102) d_M_grant_102 rfl ?_
              refine e_iload_n (pc := 103) d_M_grant_103 rfl ?_
              refine e_cV1 (pc := 104) s_M_grant_104 (sM_writeBack (c := 2) (by decide) (Nat.mod_lt _ (by decide)) ht2 h102) rfl rfl rfl (Nat.le_of_ble_eq_true rfl) (Nat.le_of_ble_eq_true rfl) (Nat.le_of_ble_eq_true rfl) (zGo.n ?_)
              refine e_aload_n (pc := 107) d_M_grant_107 rfl ?_
              refine e_get (pc := 108) s_M_grant_108 rfl rfl ?_
              refine e_iload_n (pc := 111) d_M_grant_111 rfl ?_
              refine e_iconst (pc := 112) (v := 0) d_M_grant_112 (by decide) ?_
              refine e_iast (pc := 113) d_M_grant_113 rfl (vp_in_nI (by omega) (by decide)) (vSt (c := 2) (nI_clamp (by omega)) (Nat.mod_lt _ (by decide))) ?_
              have hg := show gmS T 2 k = _ from if_pos ⟨hz63, hz64⟩
              have q := sM_gT2 (l := l) (G := G) (K := K) (S := S) (T := gmS T 2 k) (th := 0) (fo := fo) (kd := T 12 2 0) hk (by rw [gmS_o _ _ _ (by decide) (by decide)]) ht0 ht1 ht2 (by rw [gmS_o _ _ _ (by decide) (by decide)]; exact h100) (by rw [gmS_o _ _ _ (by decide) (by decide)]; exact h101) (by rw [gmS_o _ _ _ (by decide) (by decide)]; exact h102)
              unfold gnM
              rw [hg] at q ⊢
              exact q
        · exact absurd (by simp [elF, flyS, hz51, hz58, hz59, hz62]) he
    · exact absurd (by simp [elF, flyS, hz51, hz58]) he
