/-! ===== the reference: act, step ===== -/
/-- the reference's place behind an act that gave got -/
def plS (T : St) (c : Nat) (got : Int32) : St := su T 5 c 0 (if got = 1 then T 5 c 0 + 1 else T 5 c 0)
set_option maxHeartbeats 4000000 in
set_option maxRecDepth 100000 in
theorem sM_act0 {l : Launch} {G : zGP} {K : Nat} {S T : St} {th : Int32} {fo : Nat → Int64} {c a b n m : Nat} (hc : c < 3) (ha : a < 4) (hb : b < 4) (hn : n ≤ 4) (hm : m < 1024) (h6 : T 6 c 0 = nI n) (h17 : T 17 0 0 = nI m) : Rn l G m_M_act [.ref 45, .int (nI c), .int (nI 0), .int (nI a), .int (nI b)] (hpA K S T th fo) (.inl (some (.int (ldR T c (ad (T 0 c b)) n))), (hpA K S (ldM T c a (ad (T 0 c b)) n m) th fo)) := by
  refine Rn.of (by decide) rfl rfl (Nat.le_of_ble_eq_true rfl) rfl ?_
  show Ev l G m_M_act 0 [.ref 45, .int (nI c), .int (nI 0), .int (nI a), .int (nI b)] [] (hpA K S T th fo) 0 0 _
  refine e_iload_n (pc := 0) d_M_act_0 rfl ?_
  refine e_tswI (pc := 1) (off := 39) (tgt := 40) d_M_act_1 (by decide) (by decide) (by decide) (by decide) ?_
  refine e_aload_n (pc := 40) d_M_act_40 rfl ?_
  refine e_iload_n (pc := 41) d_M_act_41 rfl ?_
  refine e_iload_n (pc := 42) d_M_act_42 rfl ?_
  refine e_iload (pc := 43) d_M_act_43 rfl ?_
  refine e_cV3 (pc := 45) s_M_act_45 (sM_ld hc ha hb hn hm h6 h17) rfl rfl rfl (Nat.le_of_ble_eq_true rfl) (Nat.le_of_ble_eq_true rfl) (Nat.le_of_ble_eq_true rfl) (zGo.v ?_)
  exact e_iret (pc := 48) d_M_act_48 rfl rfl (Nat.le_of_ble_eq_true rfl) (Nat.le_of_ble_eq_true rfl) rfl
set_option maxHeartbeats 4000000 in
set_option maxRecDepth 100000 in
theorem sM_act1 {l : Launch} {G : zGP} {K : Nat} {S T : St} {th : Int32} {fo : Nat → Int64} {c a b n : Nat} (hc : c < 3) (ha : a < 4) (hb : b < 4) (hn : n ≤ K) (hK4 : K ≤ 4) (h6 : T 6 c 0 = nI n) : Rn l G m_M_act [.ref 45, .int (nI c), .int (nI 1), .int (nI a), .int (nI b)] (hpA K S T th fo) (.inl (some (.int (stR K n))), (hpA K S (stM T K c (ad (T 0 c a)) n (T 0 c b)) th fo)) := by
  refine Rn.of (by decide) rfl rfl (Nat.le_of_ble_eq_true rfl) rfl ?_
  show Ev l G m_M_act 0 [.ref 45, .int (nI c), .int (nI 1), .int (nI a), .int (nI b)] [] (hpA K S T th fo) 0 0 _
  refine e_iload_n (pc := 0) d_M_act_0 rfl ?_
  refine e_tswI (pc := 1) (off := 48) (tgt := 49) d_M_act_1 (by decide) (by decide) (by decide) (by decide) ?_
  refine e_aload_n (pc := 49) d_M_act_49 rfl ?_
  refine e_iload_n (pc := 50) d_M_act_50 rfl ?_
  refine e_iload_n (pc := 51) d_M_act_51 rfl ?_
  refine e_iload (pc := 52) d_M_act_52 rfl ?_
  refine e_cV3 (pc := 54) s_M_act_54 (sM_st hc ha hb hn hK4 h6) rfl rfl rfl (Nat.le_of_ble_eq_true rfl) (Nat.le_of_ble_eq_true rfl) (Nat.le_of_ble_eq_true rfl) (zGo.v ?_)
  exact e_iret (pc := 57) d_M_act_57 rfl rfl (Nat.le_of_ble_eq_true rfl) (Nat.le_of_ble_eq_true rfl) rfl
set_option maxHeartbeats 4000000 in
set_option maxRecDepth 100000 in
theorem sM_act2 {l : Launch} {G : zGP} {K : Nat} {S T : St} {th : Int32} {fo : Nat → Int64} {c : Nat} {a b : Int32} (hc : c < 3) : Rn l G m_M_act [.ref 45, .int (nI c), .int (nI 2), .int a, .int b] (hpA K S T th fo) (.inl (some (.int (fnR T c))), (hpA K S T th fo)) := by
  refine Rn.of (by decide) rfl rfl (Nat.le_of_ble_eq_true rfl) rfl ?_
  show Ev l G m_M_act 0 [.ref 45, .int (nI c), .int (nI 2), .int a, .int b] [] (hpA K S T th fo) 0 0 _
  refine e_iload_n (pc := 0) d_M_act_0 rfl ?_
  refine e_tswI (pc := 1) (off := 57) (tgt := 58) d_M_act_1 (by decide) (by decide) (by decide) (by decide) ?_
  refine e_aload_n (pc := 58) d_M_act_58 rfl ?_
  refine e_get (pc := 59) s_M_act_59 rfl rfl ?_
  refine e_iload_n (pc := 62) d_M_act_62 rfl ?_
  refine e_iald (pc := 63) d_M_act_63 rfl (vp_in_nI (by omega) (by decide)) (fx1 (nI_clamp (by omega))) ?_
  refine e_if_ne (pc := 64) (tgt := 71) d_M_act_64 (by decide) (fun hz1 => ?_) (fun hz1 => ?_)
  · refine e_iconst (pc := 71) (v := 0) d_M_act_71 (by decide) ?_
    exact e_iret (pc := 72) d_M_act_72 rfl rfl (Nat.le_of_ble_eq_true rfl) (Nat.le_of_ble_eq_true rfl) (zR (by simp [fnR, hz1]))
  · refine e_iconst (pc := 67) (v := 1) d_M_act_67 (by decide) ?_
    refine e_goto (pc := 68) (tgt := 72) d_M_act_68 (by decide) ?_
    exact e_iret (pc := 72) d_M_act_72 rfl rfl (Nat.le_of_ble_eq_true rfl) (Nat.le_of_ble_eq_true rfl) (zR (by simp [fnR, hz1]))
set_option maxHeartbeats 4000000 in
set_option maxRecDepth 100000 in
theorem sM_act3 {l : Launch} {G : zGP} {K : Nat} {S T : St} {th : Int32} {fo : Nat → Int64} {c a b n m s : Nat} (hc : c < 3) (ha : a < 4) (hb : b < 4) (hn : n ≤ 4) (hm : m < 1024) (hs : s < 4) (h6 : T 6 c 0 = nI n) (h17 : T 17 0 0 = nI m) (h9 : T 9 c (ad (T 0 c a) % 2) = nI s) : Rn l G m_M_act [.ref 45, .int (nI c), .int (nI 3), .int (nI a), .int (nI b)] (hpA K S T th fo) (.inl (some (.int (swR T c (ad (T 0 c a))))), (hpA K S (swM T c (ad (T 0 c a)) m (T 0 c b)) th fo)) := by
  refine Rn.of (by decide) rfl rfl (Nat.le_of_ble_eq_true rfl) rfl ?_
  show Ev l G m_M_act 0 [.ref 45, .int (nI c), .int (nI 3), .int (nI a), .int (nI b)] [] (hpA K S T th fo) 0 0 _
  refine e_iload_n (pc := 0) d_M_act_0 rfl ?_
  refine e_tswI (pc := 1) (off := 72) (tgt := 73) d_M_act_1 (by decide) (by decide) (by decide) (by decide) ?_
  refine e_aload_n (pc := 73) d_M_act_73 rfl ?_
  refine e_iload_n (pc := 74) d_M_act_74 rfl ?_
  refine e_iload_n (pc := 75) d_M_act_75 rfl ?_
  refine e_iload (pc := 76) d_M_act_76 rfl ?_
  refine e_cV3 (pc := 78) s_M_act_78 (sM_sw hc ha hb hn hm hs h6 h17 h9) rfl rfl rfl (Nat.le_of_ble_eq_true rfl) (Nat.le_of_ble_eq_true rfl) (Nat.le_of_ble_eq_true rfl) (zGo.v ?_)
  exact e_iret (pc := 81) d_M_act_81 rfl rfl (Nat.le_of_ble_eq_true rfl) (Nat.le_of_ble_eq_true rfl) rfl
set_option maxHeartbeats 4000000 in
set_option maxRecDepth 100000 in
theorem sM_act4 {l : Launch} {G : zGP} {K : Nat} {S T : St} {th : Int32} {fo : Nat → Int64} {c a b : Nat} (hc : c < 3) (ha : a < 4) (hb : b < 4) : Rn l G m_M_act [.ref 45, .int (nI c), .int (nI 4), .int (nI a), .int (nI b)] (hpA K S T th fo) (.inl (some (.int 1)), (hpA K S (su T 0 c a (T 0 c a + T 0 c b)) th fo)) := by
  refine Rn.of (by decide) rfl rfl (Nat.le_of_ble_eq_true rfl) rfl ?_
  show Ev l G m_M_act 0 [.ref 45, .int (nI c), .int (nI 4), .int (nI a), .int (nI b)] [] (hpA K S T th fo) 0 0 _
  refine e_iload_n (pc := 0) d_M_act_0 rfl ?_
  refine e_tswI (pc := 1) (off := 81) (tgt := 82) d_M_act_1 (by decide) (by decide) (by decide) (by decide) ?_
  refine e_aload_n (pc := 82) d_M_act_82 rfl ?_
  refine e_get (pc := 83) s_M_act_83 rfl rfl ?_
  refine e_iconst (pc := 86) (v := 4) d_M_act_86 (by decide) ?_
  refine e_iload_n (pc := 87) d_M_act_87 rfl ?_
  refine e_imul (pc := 88) d_M_act_88 ?_
  refine e_iload_n (pc := 89) d_M_act_89 rfl ?_
  refine e_iadd (pc := 90) d_M_act_90 ?_
  refine e_topi (y := nI (4 * c + a)) (ixM 4 c a) ?_
  refine e_aload_n (pc := 91) d_M_act_91 rfl ?_
  refine e_get (pc := 92) s_M_act_92 rfl rfl ?_
  refine e_iconst (pc := 95) (v := 4) d_M_act_95 (by decide) ?_
  refine e_iload_n (pc := 96) d_M_act_96 rfl ?_
  refine e_imul (pc := 97) d_M_act_97 ?_
  refine e_iload_n (pc := 98) d_M_act_98 rfl ?_
  refine e_iadd (pc := 99) d_M_act_99 ?_
  refine e_topi (y := nI (4 * c + a)) (ixM 4 c a) ?_
  refine e_iald (pc := 100) d_M_act_100 rfl (vp_in_nI (by omega) (by decide)) (fx4 (nI_clamp (by omega)) ha) ?_
  refine e_aload_n (pc := 101) d_M_act_101 rfl ?_
  refine e_get (pc := 102) s_M_act_102 rfl rfl ?_
  refine e_iconst (pc := 105) (v := 4) d_M_act_105 (by decide) ?_
  refine e_iload_n (pc := 106) d_M_act_106 rfl ?_
  refine e_imul (pc := 107) d_M_act_107 ?_
  refine e_iload (pc := 108) d_M_act_108 rfl ?_
  refine e_iadd (pc := 110) d_M_act_110 ?_
  refine e_topi (y := nI (4 * c + b)) (ixM 4 c b) ?_
  refine e_iald (pc := 111) d_M_act_111 rfl (vp_in_nI (by omega) (by decide)) (fx4 (nI_clamp (by omega)) hb) ?_
  refine e_iadd (pc := 112) d_M_act_112 ?_
  refine e_iast (pc := 113) d_M_act_113 rfl (vp_in_nI (by omega) (by decide)) (vRg (nI_clamp (by omega)) ha) ?_
  refine e_iconst (pc := 114) (v := 1) d_M_act_114 (by decide) ?_
  exact e_iret (pc := 115) d_M_act_115 rfl rfl (Nat.le_of_ble_eq_true rfl) (Nat.le_of_ble_eq_true rfl) rfl
set_option maxHeartbeats 4000000 in
set_option maxRecDepth 100000 in
theorem sM_act5 {l : Launch} {G : zGP} {K : Nat} {S T : St} {th : Int32} {fo : Nat → Int64} {c a : Nat} {b : Int32} (hc : c < 3) (ha : a < 4) : Rn l G m_M_act [.ref 45, .int (nI c), .int (nI 5), .int (nI a), .int b] (hpA K S T th fo) (.inl (some (.int 1)), (hpA K S (su T 0 c a b) th fo)) := by
  refine Rn.of (by decide) rfl rfl (Nat.le_of_ble_eq_true rfl) rfl ?_
  show Ev l G m_M_act 0 [.ref 45, .int (nI c), .int (nI 5), .int (nI a), .int b] [] (hpA K S T th fo) 0 0 _
  refine e_iload_n (pc := 0) d_M_act_0 rfl ?_
  refine e_tswI (pc := 1) (off := 115) (tgt := 116) d_M_act_1 (by decide) (by decide) (by decide) (by decide) ?_
  refine e_aload_n (pc := 116) d_M_act_116 rfl ?_
  refine e_get (pc := 117) s_M_act_117 rfl rfl ?_
  refine e_iconst (pc := 120) (v := 4) d_M_act_120 (by decide) ?_
  refine e_iload_n (pc := 121) d_M_act_121 rfl ?_
  refine e_imul (pc := 122) d_M_act_122 ?_
  refine e_iload_n (pc := 123) d_M_act_123 rfl ?_
  refine e_iadd (pc := 124) d_M_act_124 ?_
  refine e_topi (y := nI (4 * c + a)) (ixM 4 c a) ?_
  refine e_iload (pc := 125) d_M_act_125 rfl ?_
  refine e_iast (pc := 127) d_M_act_127 rfl (vp_in_nI (by omega) (by decide)) (vRg (nI_clamp (by omega)) ha) ?_
  refine e_iconst (pc := 128) (v := 1) d_M_act_128 (by decide) ?_
  exact e_iret (pc := 129) d_M_act_129 rfl rfl (Nat.le_of_ble_eq_true rfl) (Nat.le_of_ble_eq_true rfl) rfl
set_option maxHeartbeats 4000000 in
set_option maxRecDepth 100000 in
theorem sM_act6 {l : Launch} {G : zGP} {K : Nat} {S T : St} {th : Int32} {fo : Nat → Int64} {c : Nat} {a b : Int32} (hc : c < 3) : Rn l G m_M_act [.ref 45, .int (nI c), .int (nI 6), .int a, .int b] (hpA K S T th fo) (.inl (some (.int 1)), (hpA K S T th fo)) := by
  refine Rn.of (by decide) rfl rfl (Nat.le_of_ble_eq_true rfl) rfl ?_
  show Ev l G m_M_act 0 [.ref 45, .int (nI c), .int (nI 6), .int a, .int b] [] (hpA K S T th fo) 0 0 _
  refine e_iload_n (pc := 0) d_M_act_0 rfl ?_
  refine e_tswO (pc := 1) (tgt := 130) d_M_act_1 (by decide) (by decide) ?_
  refine e_iconst (pc := 130) (v := 1) d_M_act_130 (by decide) ?_
  exact e_iret (pc := 131) d_M_act_131 rfl rfl (Nat.le_of_ble_eq_true rfl) (Nat.le_of_ble_eq_true rfl) rfl
set_option maxHeartbeats 4000000 in
set_option maxRecDepth 100000 in
theorem sM_step0 {l : Launch} {G : zGP} {K : Nat} {S T : St} {th : Int32} {fo : Nat → Int64} {c p q a b n m : Nat}  (hc : c < 3) (hp : p < 16) (hq : q ≤ 16) (h5 : T 5 c 0 = nI p) (h1 : T 1 c 0 = nI q) (hpq : p < q) (h2 : T 2 c p = nI 0) (h3 : T 3 c p = nI a) (h4 : T 4 c p = nI b) (ha : a < 4) (hb : b < 4) (hn : n ≤ 4) (hm : m < 1024) (h6 : T 6 c 0 = nI n) (h17 : T 17 0 0 = nI m) : Rn l G m_M_step [.ref 45, .int (nI c)] (hpA K S T th fo) (.inl (some (.int (ldR T c (ad (T 0 c b)) n))), (hpA K S (plS (ldM T c a (ad (T 0 c b)) n m) c (ldR T c (ad (T 0 c b)) n)) 0 fo)) := by
  refine Rn.of (by decide) rfl rfl (Nat.le_of_ble_eq_true rfl) rfl ?_
  show Ev l G m_M_step 0 [.ref 45, .int (nI c), .double 0, .double 0, .double 0] [] (hpA K S T th fo) 0 0 _
  refine e_aload_n (pc := 0) d_M_step_0 rfl ?_
  refine e_iload_n (pc := 1) d_M_step_1 rfl ?_
  refine e_cV1 (pc := 2) s_M_step_2 (sM_core hc) rfl rfl rfl (Nat.le_of_ble_eq_true rfl) (Nat.le_of_ble_eq_true rfl) (Nat.le_of_ble_eq_true rfl) (zGo.v ?_)
  refine e_if_ne (pc := 5) (tgt := 10) d_M_step_5 (by decide) (fun _ => ?_) (fun zz => absurd zz (by decide))
  refine e_bipush (pc := 10) (v := 16) d_M_step_10 (by decide) ?_
  refine e_iload_n (pc := 12) d_M_step_12 rfl ?_
  refine e_imul (pc := 13) d_M_step_13 ?_
  refine e_aload_n (pc := 14) d_M_step_14 rfl ?_
  refine e_get (pc := 15) s_M_step_15 rfl rfl ?_
  refine e_iload_n (pc := 18) d_M_step_18 rfl ?_
  refine e_iald (pc := 19) d_M_step_19 rfl (vp_in_nI (by omega) (by decide)) ((fx1 (nI_clamp (by omega))).trans h5) ?_
  refine e_iadd (pc := 20) d_M_step_20 ?_
  refine e_topi (y := nI (16 * c + p)) (ixM 16 c p) ?_
  refine e_istore_n (pc := 21) d_M_step_21 (Nat.le_of_ble_eq_true rfl) ?_
  dsimp only [List.set]
  refine e_aload_n (pc := 22) d_M_step_22 rfl ?_
  refine e_get (pc := 23) s_M_step_23 rfl rfl ?_
  refine e_iload_n (pc := 26) d_M_step_26 rfl ?_
  refine e_iald (pc := 27) d_M_step_27 rfl (vp_in_nI (by omega) (by decide)) ((fx1 (nI_clamp (by omega))).trans h5) ?_
  refine e_aload_n (pc := 28) d_M_step_28 rfl ?_
  refine e_get (pc := 29) s_M_step_29 rfl rfl ?_
  refine e_iload_n (pc := 32) d_M_step_32 rfl ?_
  refine e_iald (pc := 33) d_M_step_33 rfl (vp_in_nI (by omega) (by decide)) ((fx1 (nI_clamp (by omega))).trans h1) ?_
  refine e_icmp_ge (pc := 34) (tgt := 48) d_M_step_34 (by decide) (fun zz => absurd zz (nI_ge hpq (by omega))) (fun _ => ?_)
  refine e_aload_n (pc := 37) d_M_step_37 rfl ?_
  refine e_get (pc := 38) s_M_step_38 rfl rfl ?_
  refine e_iload_n (pc := 41) d_M_step_41 rfl ?_
  refine e_iald (pc := 42) d_M_step_42 rfl (vp_in_nI (by omega) (by decide)) ((fx16 (nI_clamp (by omega)) hp).trans h2) ?_
  refine e_bipush (pc := 43) (v := 7) d_M_step_43 (by decide) ?_
  refine e_icmp_ne (pc := 45) (tgt := 50) d_M_step_45 (by decide) (fun _ => ?_) (fun zz => absurd zz (by decide))
  refine e_aload_n (pc := 50) d_M_step_50 rfl ?_
  refine e_get (pc := 51) s_M_step_51 rfl rfl ?_
  refine e_iload_n (pc := 54) d_M_step_54 rfl ?_
  refine e_iald (pc := 55) d_M_step_55 rfl (vp_in_nI (by omega) (by decide)) ((fx16 (nI_clamp (by omega)) hp).trans h2) ?_
  refine e_bipush (pc := 56) (v := 6) d_M_step_56 (by decide) ?_
  refine e_icmp_ne (pc := 58) (tgt := 83) d_M_step_58 (by decide) (fun _ => ?_) (fun zz => absurd zz (by decide))
  refine e_iconst (pc := 83) (v := 0) d_M_step_83 (by decide) ?_
  refine e_istore_n (pc := 84) d_M_step_84 (Nat.le_of_ble_eq_true rfl) ?_
  dsimp only [List.set]
  refine e_aload_n (pc := 85) d_M_step_85 rfl ?_
  refine e_iload_n (pc := 86) d_M_step_86 rfl ?_
  refine e_aload_n (pc := 87) d_M_step_87 rfl ?_
  refine e_get (pc := 88) s_M_step_88 rfl rfl ?_
  refine e_iload_n (pc := 91) d_M_step_91 rfl ?_
  refine e_iald (pc := 92) d_M_step_92 rfl (vp_in_nI (by omega) (by decide)) ((fx16 (nI_clamp (by omega)) hp).trans h2) ?_
  refine e_aload_n (pc := 93) d_M_step_93 rfl ?_
  refine e_get (pc := 94) s_M_step_94 rfl rfl ?_
  refine e_iload_n (pc := 97) d_M_step_97 rfl ?_
  refine e_iald (pc := 98) d_M_step_98 rfl (vp_in_nI (by omega) (by decide)) ((fx16 (nI_clamp (by omega)) hp).trans h3) ?_
  refine e_aload_n (pc := 99) d_M_step_99 rfl ?_
  refine e_get (pc := 100) s_M_step_100 rfl rfl ?_
  refine e_iload_n (pc := 103) d_M_step_103 rfl ?_
  refine e_iald (pc := 104) d_M_step_104 rfl (vp_in_nI (by omega) (by decide)) ((fx16 (nI_clamp (by omega)) hp).trans h4) ?_
  refine e_cV4 (pc := 105) s_M_step_105 (sM_act0 hc ha hb hn hm h6 h17) rfl rfl rfl (Nat.le_of_ble_eq_true rfl) (Nat.le_of_ble_eq_true rfl) (Nat.le_of_ble_eq_true rfl) (zGo.v ?_)
  refine e_istore (pc := 108) d_M_step_108 (Nat.le_of_ble_eq_true rfl) ?_
  dsimp only [List.set]
  refine e_aload_n (pc := 110) d_M_step_110 rfl ?_
  refine e_get (pc := 111) s_M_step_111 rfl rfl ?_
  refine e_iload_n (pc := 114) d_M_step_114 rfl ?_
  refine e_iload_n (pc := 115) d_M_step_115 rfl ?_
  refine e_if_eq (pc := 116) (tgt := 128) d_M_step_116 (by decide) (fun _ => ?_) (fun zz => absurd (by decide) zz)
  refine e_iload (pc := 128) d_M_step_128 rfl ?_
  refine e_iconst (pc := 130) (v := 1) d_M_step_130 (by decide) ?_
  refine e_icmp_ne (pc := 131) (tgt := 145) d_M_step_131 (by decide) (fun hz2 => ?_) (fun hz2 => ?_)
  · refine e_aload_n (pc := 145) d_M_step_145 rfl ?_
    refine e_get (pc := 146) s_M_step_146 rfl rfl ?_
    refine e_iload_n (pc := 149) d_M_step_149 rfl ?_
    refine e_iald (pc := 150) d_M_step_150 rfl (vp_in_nI (by omega) (by decide)) (fx1 (nI_clamp (by omega))) ?_
    refine e_iast (pc := 151) d_M_step_151 rfl (vp_in_nI (by omega) (by decide)) (vAt (nI_clamp (by omega))) ?_
    refine e_iload (pc := 152) d_M_step_152 rfl ?_
    exact e_iret (pc := 154) d_M_step_154 rfl rfl (Nat.le_of_ble_eq_true rfl) (Nat.le_of_ble_eq_true rfl) (by rw [plS, if_neg hz2])
  · refine e_aload_n (pc := 134) d_M_step_134 rfl ?_
    refine e_get (pc := 135) s_M_step_135 rfl rfl ?_
    refine e_iload_n (pc := 138) d_M_step_138 rfl ?_
    refine e_iald (pc := 139) d_M_step_139 rfl (vp_in_nI (by omega) (by decide)) (fx1 (nI_clamp (by omega))) ?_
    refine e_iconst (pc := 140) (v := 1) d_M_step_140 (by decide) ?_
    refine e_iadd (pc := 141) d_M_step_141 ?_
    refine e_goto (pc := 142) (tgt := 151) d_M_step_142 (by decide) ?_
    refine e_iast (pc := 151) d_M_step_151 rfl (vp_in_nI (by omega) (by decide)) (vAt (nI_clamp (by omega))) ?_
    refine e_iload (pc := 152) d_M_step_152 rfl ?_
    exact e_iret (pc := 154) d_M_step_154 rfl rfl (Nat.le_of_ble_eq_true rfl) (Nat.le_of_ble_eq_true rfl) (by rw [plS, if_pos hz2])
set_option maxHeartbeats 4000000 in
set_option maxRecDepth 100000 in
theorem sM_step1 {l : Launch} {G : zGP} {K : Nat} {S T : St} {th : Int32} {fo : Nat → Int64} {c p q a b n : Nat}  (hc : c < 3) (hp : p < 16) (hq : q ≤ 16) (h5 : T 5 c 0 = nI p) (h1 : T 1 c 0 = nI q) (hpq : p < q) (h2 : T 2 c p = nI 1) (h3 : T 3 c p = nI a) (h4 : T 4 c p = nI b) (ha : a < 4) (hb : b < 4) (hn : n ≤ K) (hK4 : K ≤ 4) (h6 : T 6 c 0 = nI n) : Rn l G m_M_step [.ref 45, .int (nI c)] (hpA K S T th fo) (.inl (some (.int (stR K n))), (hpA K S (plS (stM T K c (ad (T 0 c a)) n (T 0 c b)) c (stR K n)) 0 fo)) := by
  refine Rn.of (by decide) rfl rfl (Nat.le_of_ble_eq_true rfl) rfl ?_
  show Ev l G m_M_step 0 [.ref 45, .int (nI c), .double 0, .double 0, .double 0] [] (hpA K S T th fo) 0 0 _
  refine e_aload_n (pc := 0) d_M_step_0 rfl ?_
  refine e_iload_n (pc := 1) d_M_step_1 rfl ?_
  refine e_cV1 (pc := 2) s_M_step_2 (sM_core hc) rfl rfl rfl (Nat.le_of_ble_eq_true rfl) (Nat.le_of_ble_eq_true rfl) (Nat.le_of_ble_eq_true rfl) (zGo.v ?_)
  refine e_if_ne (pc := 5) (tgt := 10) d_M_step_5 (by decide) (fun _ => ?_) (fun zz => absurd zz (by decide))
  refine e_bipush (pc := 10) (v := 16) d_M_step_10 (by decide) ?_
  refine e_iload_n (pc := 12) d_M_step_12 rfl ?_
  refine e_imul (pc := 13) d_M_step_13 ?_
  refine e_aload_n (pc := 14) d_M_step_14 rfl ?_
  refine e_get (pc := 15) s_M_step_15 rfl rfl ?_
  refine e_iload_n (pc := 18) d_M_step_18 rfl ?_
  refine e_iald (pc := 19) d_M_step_19 rfl (vp_in_nI (by omega) (by decide)) ((fx1 (nI_clamp (by omega))).trans h5) ?_
  refine e_iadd (pc := 20) d_M_step_20 ?_
  refine e_topi (y := nI (16 * c + p)) (ixM 16 c p) ?_
  refine e_istore_n (pc := 21) d_M_step_21 (Nat.le_of_ble_eq_true rfl) ?_
  dsimp only [List.set]
  refine e_aload_n (pc := 22) d_M_step_22 rfl ?_
  refine e_get (pc := 23) s_M_step_23 rfl rfl ?_
  refine e_iload_n (pc := 26) d_M_step_26 rfl ?_
  refine e_iald (pc := 27) d_M_step_27 rfl (vp_in_nI (by omega) (by decide)) ((fx1 (nI_clamp (by omega))).trans h5) ?_
  refine e_aload_n (pc := 28) d_M_step_28 rfl ?_
  refine e_get (pc := 29) s_M_step_29 rfl rfl ?_
  refine e_iload_n (pc := 32) d_M_step_32 rfl ?_
  refine e_iald (pc := 33) d_M_step_33 rfl (vp_in_nI (by omega) (by decide)) ((fx1 (nI_clamp (by omega))).trans h1) ?_
  refine e_icmp_ge (pc := 34) (tgt := 48) d_M_step_34 (by decide) (fun zz => absurd zz (nI_ge hpq (by omega))) (fun _ => ?_)
  refine e_aload_n (pc := 37) d_M_step_37 rfl ?_
  refine e_get (pc := 38) s_M_step_38 rfl rfl ?_
  refine e_iload_n (pc := 41) d_M_step_41 rfl ?_
  refine e_iald (pc := 42) d_M_step_42 rfl (vp_in_nI (by omega) (by decide)) ((fx16 (nI_clamp (by omega)) hp).trans h2) ?_
  refine e_bipush (pc := 43) (v := 7) d_M_step_43 (by decide) ?_
  refine e_icmp_ne (pc := 45) (tgt := 50) d_M_step_45 (by decide) (fun _ => ?_) (fun zz => absurd zz (by decide))
  refine e_aload_n (pc := 50) d_M_step_50 rfl ?_
  refine e_get (pc := 51) s_M_step_51 rfl rfl ?_
  refine e_iload_n (pc := 54) d_M_step_54 rfl ?_
  refine e_iald (pc := 55) d_M_step_55 rfl (vp_in_nI (by omega) (by decide)) ((fx16 (nI_clamp (by omega)) hp).trans h2) ?_
  refine e_bipush (pc := 56) (v := 6) d_M_step_56 (by decide) ?_
  refine e_icmp_ne (pc := 58) (tgt := 83) d_M_step_58 (by decide) (fun _ => ?_) (fun zz => absurd zz (by decide))
  refine e_iconst (pc := 83) (v := 0) d_M_step_83 (by decide) ?_
  refine e_istore_n (pc := 84) d_M_step_84 (Nat.le_of_ble_eq_true rfl) ?_
  dsimp only [List.set]
  refine e_aload_n (pc := 85) d_M_step_85 rfl ?_
  refine e_iload_n (pc := 86) d_M_step_86 rfl ?_
  refine e_aload_n (pc := 87) d_M_step_87 rfl ?_
  refine e_get (pc := 88) s_M_step_88 rfl rfl ?_
  refine e_iload_n (pc := 91) d_M_step_91 rfl ?_
  refine e_iald (pc := 92) d_M_step_92 rfl (vp_in_nI (by omega) (by decide)) ((fx16 (nI_clamp (by omega)) hp).trans h2) ?_
  refine e_aload_n (pc := 93) d_M_step_93 rfl ?_
  refine e_get (pc := 94) s_M_step_94 rfl rfl ?_
  refine e_iload_n (pc := 97) d_M_step_97 rfl ?_
  refine e_iald (pc := 98) d_M_step_98 rfl (vp_in_nI (by omega) (by decide)) ((fx16 (nI_clamp (by omega)) hp).trans h3) ?_
  refine e_aload_n (pc := 99) d_M_step_99 rfl ?_
  refine e_get (pc := 100) s_M_step_100 rfl rfl ?_
  refine e_iload_n (pc := 103) d_M_step_103 rfl ?_
  refine e_iald (pc := 104) d_M_step_104 rfl (vp_in_nI (by omega) (by decide)) ((fx16 (nI_clamp (by omega)) hp).trans h4) ?_
  refine e_cV4 (pc := 105) s_M_step_105 (sM_act1 hc ha hb hn hK4 h6) rfl rfl rfl (Nat.le_of_ble_eq_true rfl) (Nat.le_of_ble_eq_true rfl) (Nat.le_of_ble_eq_true rfl) (zGo.v ?_)
  refine e_istore (pc := 108) d_M_step_108 (Nat.le_of_ble_eq_true rfl) ?_
  dsimp only [List.set]
  refine e_aload_n (pc := 110) d_M_step_110 rfl ?_
  refine e_get (pc := 111) s_M_step_111 rfl rfl ?_
  refine e_iload_n (pc := 114) d_M_step_114 rfl ?_
  refine e_iload_n (pc := 115) d_M_step_115 rfl ?_
  refine e_if_eq (pc := 116) (tgt := 128) d_M_step_116 (by decide) (fun _ => ?_) (fun zz => absurd (by decide) zz)
  refine e_iload (pc := 128) d_M_step_128 rfl ?_
  refine e_iconst (pc := 130) (v := 1) d_M_step_130 (by decide) ?_
  refine e_icmp_ne (pc := 131) (tgt := 145) d_M_step_131 (by decide) (fun hz3 => ?_) (fun hz3 => ?_)
  · refine e_aload_n (pc := 145) d_M_step_145 rfl ?_
    refine e_get (pc := 146) s_M_step_146 rfl rfl ?_
    refine e_iload_n (pc := 149) d_M_step_149 rfl ?_
    refine e_iald (pc := 150) d_M_step_150 rfl (vp_in_nI (by omega) (by decide)) (fx1 (nI_clamp (by omega))) ?_
    refine e_iast (pc := 151) d_M_step_151 rfl (vp_in_nI (by omega) (by decide)) (vAt (nI_clamp (by omega))) ?_
    refine e_iload (pc := 152) d_M_step_152 rfl ?_
    exact e_iret (pc := 154) d_M_step_154 rfl rfl (Nat.le_of_ble_eq_true rfl) (Nat.le_of_ble_eq_true rfl) (by rw [plS, if_neg hz3])
  · refine e_aload_n (pc := 134) d_M_step_134 rfl ?_
    refine e_get (pc := 135) s_M_step_135 rfl rfl ?_
    refine e_iload_n (pc := 138) d_M_step_138 rfl ?_
    refine e_iald (pc := 139) d_M_step_139 rfl (vp_in_nI (by omega) (by decide)) (fx1 (nI_clamp (by omega))) ?_
    refine e_iconst (pc := 140) (v := 1) d_M_step_140 (by decide) ?_
    refine e_iadd (pc := 141) d_M_step_141 ?_
    refine e_goto (pc := 142) (tgt := 151) d_M_step_142 (by decide) ?_
    refine e_iast (pc := 151) d_M_step_151 rfl (vp_in_nI (by omega) (by decide)) (vAt (nI_clamp (by omega))) ?_
    refine e_iload (pc := 152) d_M_step_152 rfl ?_
    exact e_iret (pc := 154) d_M_step_154 rfl rfl (Nat.le_of_ble_eq_true rfl) (Nat.le_of_ble_eq_true rfl) (by rw [plS, if_pos hz3])
set_option maxHeartbeats 4000000 in
set_option maxRecDepth 100000 in
theorem sM_step2 {l : Launch} {G : zGP} {K : Nat} {S T : St} {th : Int32} {fo : Nat → Int64} {c p q  : Nat} {a b : Int32} (hc : c < 3) (hp : p < 16) (hq : q ≤ 16) (h5 : T 5 c 0 = nI p) (h1 : T 1 c 0 = nI q) (hpq : p < q) (h2 : T 2 c p = nI 2) (h3 : T 3 c p = a) (h4 : T 4 c p = b)  : Rn l G m_M_step [.ref 45, .int (nI c)] (hpA K S T th fo) (.inl (some (.int (fnR T c))), (hpA K S (plS T c (fnR T c)) 0 fo)) := by
  refine Rn.of (by decide) rfl rfl (Nat.le_of_ble_eq_true rfl) rfl ?_
  show Ev l G m_M_step 0 [.ref 45, .int (nI c), .double 0, .double 0, .double 0] [] (hpA K S T th fo) 0 0 _
  refine e_aload_n (pc := 0) d_M_step_0 rfl ?_
  refine e_iload_n (pc := 1) d_M_step_1 rfl ?_
  refine e_cV1 (pc := 2) s_M_step_2 (sM_core hc) rfl rfl rfl (Nat.le_of_ble_eq_true rfl) (Nat.le_of_ble_eq_true rfl) (Nat.le_of_ble_eq_true rfl) (zGo.v ?_)
  refine e_if_ne (pc := 5) (tgt := 10) d_M_step_5 (by decide) (fun _ => ?_) (fun zz => absurd zz (by decide))
  refine e_bipush (pc := 10) (v := 16) d_M_step_10 (by decide) ?_
  refine e_iload_n (pc := 12) d_M_step_12 rfl ?_
  refine e_imul (pc := 13) d_M_step_13 ?_
  refine e_aload_n (pc := 14) d_M_step_14 rfl ?_
  refine e_get (pc := 15) s_M_step_15 rfl rfl ?_
  refine e_iload_n (pc := 18) d_M_step_18 rfl ?_
  refine e_iald (pc := 19) d_M_step_19 rfl (vp_in_nI (by omega) (by decide)) ((fx1 (nI_clamp (by omega))).trans h5) ?_
  refine e_iadd (pc := 20) d_M_step_20 ?_
  refine e_topi (y := nI (16 * c + p)) (ixM 16 c p) ?_
  refine e_istore_n (pc := 21) d_M_step_21 (Nat.le_of_ble_eq_true rfl) ?_
  dsimp only [List.set]
  refine e_aload_n (pc := 22) d_M_step_22 rfl ?_
  refine e_get (pc := 23) s_M_step_23 rfl rfl ?_
  refine e_iload_n (pc := 26) d_M_step_26 rfl ?_
  refine e_iald (pc := 27) d_M_step_27 rfl (vp_in_nI (by omega) (by decide)) ((fx1 (nI_clamp (by omega))).trans h5) ?_
  refine e_aload_n (pc := 28) d_M_step_28 rfl ?_
  refine e_get (pc := 29) s_M_step_29 rfl rfl ?_
  refine e_iload_n (pc := 32) d_M_step_32 rfl ?_
  refine e_iald (pc := 33) d_M_step_33 rfl (vp_in_nI (by omega) (by decide)) ((fx1 (nI_clamp (by omega))).trans h1) ?_
  refine e_icmp_ge (pc := 34) (tgt := 48) d_M_step_34 (by decide) (fun zz => absurd zz (nI_ge hpq (by omega))) (fun _ => ?_)
  refine e_aload_n (pc := 37) d_M_step_37 rfl ?_
  refine e_get (pc := 38) s_M_step_38 rfl rfl ?_
  refine e_iload_n (pc := 41) d_M_step_41 rfl ?_
  refine e_iald (pc := 42) d_M_step_42 rfl (vp_in_nI (by omega) (by decide)) ((fx16 (nI_clamp (by omega)) hp).trans h2) ?_
  refine e_bipush (pc := 43) (v := 7) d_M_step_43 (by decide) ?_
  refine e_icmp_ne (pc := 45) (tgt := 50) d_M_step_45 (by decide) (fun _ => ?_) (fun zz => absurd zz (by decide))
  refine e_aload_n (pc := 50) d_M_step_50 rfl ?_
  refine e_get (pc := 51) s_M_step_51 rfl rfl ?_
  refine e_iload_n (pc := 54) d_M_step_54 rfl ?_
  refine e_iald (pc := 55) d_M_step_55 rfl (vp_in_nI (by omega) (by decide)) ((fx16 (nI_clamp (by omega)) hp).trans h2) ?_
  refine e_bipush (pc := 56) (v := 6) d_M_step_56 (by decide) ?_
  refine e_icmp_ne (pc := 58) (tgt := 83) d_M_step_58 (by decide) (fun _ => ?_) (fun zz => absurd zz (by decide))
  refine e_iconst (pc := 83) (v := 0) d_M_step_83 (by decide) ?_
  refine e_istore_n (pc := 84) d_M_step_84 (Nat.le_of_ble_eq_true rfl) ?_
  dsimp only [List.set]
  refine e_aload_n (pc := 85) d_M_step_85 rfl ?_
  refine e_iload_n (pc := 86) d_M_step_86 rfl ?_
  refine e_aload_n (pc := 87) d_M_step_87 rfl ?_
  refine e_get (pc := 88) s_M_step_88 rfl rfl ?_
  refine e_iload_n (pc := 91) d_M_step_91 rfl ?_
  refine e_iald (pc := 92) d_M_step_92 rfl (vp_in_nI (by omega) (by decide)) ((fx16 (nI_clamp (by omega)) hp).trans h2) ?_
  refine e_aload_n (pc := 93) d_M_step_93 rfl ?_
  refine e_get (pc := 94) s_M_step_94 rfl rfl ?_
  refine e_iload_n (pc := 97) d_M_step_97 rfl ?_
  refine e_iald (pc := 98) d_M_step_98 rfl (vp_in_nI (by omega) (by decide)) ((fx16 (nI_clamp (by omega)) hp).trans h3) ?_
  refine e_aload_n (pc := 99) d_M_step_99 rfl ?_
  refine e_get (pc := 100) s_M_step_100 rfl rfl ?_
  refine e_iload_n (pc := 103) d_M_step_103 rfl ?_
  refine e_iald (pc := 104) d_M_step_104 rfl (vp_in_nI (by omega) (by decide)) ((fx16 (nI_clamp (by omega)) hp).trans h4) ?_
  refine e_cV4 (pc := 105) s_M_step_105 (sM_act2 hc) rfl rfl rfl (Nat.le_of_ble_eq_true rfl) (Nat.le_of_ble_eq_true rfl) (Nat.le_of_ble_eq_true rfl) (zGo.v ?_)
  refine e_istore (pc := 108) d_M_step_108 (Nat.le_of_ble_eq_true rfl) ?_
  dsimp only [List.set]
  refine e_aload_n (pc := 110) d_M_step_110 rfl ?_
  refine e_get (pc := 111) s_M_step_111 rfl rfl ?_
  refine e_iload_n (pc := 114) d_M_step_114 rfl ?_
  refine e_iload_n (pc := 115) d_M_step_115 rfl ?_
  refine e_if_eq (pc := 116) (tgt := 128) d_M_step_116 (by decide) (fun _ => ?_) (fun zz => absurd (by decide) zz)
  refine e_iload (pc := 128) d_M_step_128 rfl ?_
  refine e_iconst (pc := 130) (v := 1) d_M_step_130 (by decide) ?_
  refine e_icmp_ne (pc := 131) (tgt := 145) d_M_step_131 (by decide) (fun hz4 => ?_) (fun hz4 => ?_)
  · refine e_aload_n (pc := 145) d_M_step_145 rfl ?_
    refine e_get (pc := 146) s_M_step_146 rfl rfl ?_
    refine e_iload_n (pc := 149) d_M_step_149 rfl ?_
    refine e_iald (pc := 150) d_M_step_150 rfl (vp_in_nI (by omega) (by decide)) (fx1 (nI_clamp (by omega))) ?_
    refine e_iast (pc := 151) d_M_step_151 rfl (vp_in_nI (by omega) (by decide)) (vAt (nI_clamp (by omega))) ?_
    refine e_iload (pc := 152) d_M_step_152 rfl ?_
    exact e_iret (pc := 154) d_M_step_154 rfl rfl (Nat.le_of_ble_eq_true rfl) (Nat.le_of_ble_eq_true rfl) (by rw [plS, if_neg hz4])
  · refine e_aload_n (pc := 134) d_M_step_134 rfl ?_
    refine e_get (pc := 135) s_M_step_135 rfl rfl ?_
    refine e_iload_n (pc := 138) d_M_step_138 rfl ?_
    refine e_iald (pc := 139) d_M_step_139 rfl (vp_in_nI (by omega) (by decide)) (fx1 (nI_clamp (by omega))) ?_
    refine e_iconst (pc := 140) (v := 1) d_M_step_140 (by decide) ?_
    refine e_iadd (pc := 141) d_M_step_141 ?_
    refine e_goto (pc := 142) (tgt := 151) d_M_step_142 (by decide) ?_
    refine e_iast (pc := 151) d_M_step_151 rfl (vp_in_nI (by omega) (by decide)) (vAt (nI_clamp (by omega))) ?_
    refine e_iload (pc := 152) d_M_step_152 rfl ?_
    exact e_iret (pc := 154) d_M_step_154 rfl rfl (Nat.le_of_ble_eq_true rfl) (Nat.le_of_ble_eq_true rfl) (by rw [plS, if_pos hz4])
set_option maxHeartbeats 4000000 in
set_option maxRecDepth 100000 in
theorem sM_step3 {l : Launch} {G : zGP} {K : Nat} {S T : St} {th : Int32} {fo : Nat → Int64} {c p q a b n m s : Nat}  (hc : c < 3) (hp : p < 16) (hq : q ≤ 16) (h5 : T 5 c 0 = nI p) (h1 : T 1 c 0 = nI q) (hpq : p < q) (h2 : T 2 c p = nI 3) (h3 : T 3 c p = nI a) (h4 : T 4 c p = nI b) (ha : a < 4) (hb : b < 4) (hs : s < 4) (hn : n ≤ 4) (hm : m < 1024) (h6 : T 6 c 0 = nI n) (h17 : T 17 0 0 = nI m) (h9 : T 9 c (ad (T 0 c a) % 2) = nI s) : Rn l G m_M_step [.ref 45, .int (nI c)] (hpA K S T th fo) (.inl (some (.int (swR T c (ad (T 0 c a))))), (hpA K S (plS (swM T c (ad (T 0 c a)) m (T 0 c b)) c (swR T c (ad (T 0 c a)))) 0 fo)) := by
  refine Rn.of (by decide) rfl rfl (Nat.le_of_ble_eq_true rfl) rfl ?_
  show Ev l G m_M_step 0 [.ref 45, .int (nI c), .double 0, .double 0, .double 0] [] (hpA K S T th fo) 0 0 _
  refine e_aload_n (pc := 0) d_M_step_0 rfl ?_
  refine e_iload_n (pc := 1) d_M_step_1 rfl ?_
  refine e_cV1 (pc := 2) s_M_step_2 (sM_core hc) rfl rfl rfl (Nat.le_of_ble_eq_true rfl) (Nat.le_of_ble_eq_true rfl) (Nat.le_of_ble_eq_true rfl) (zGo.v ?_)
  refine e_if_ne (pc := 5) (tgt := 10) d_M_step_5 (by decide) (fun _ => ?_) (fun zz => absurd zz (by decide))
  refine e_bipush (pc := 10) (v := 16) d_M_step_10 (by decide) ?_
  refine e_iload_n (pc := 12) d_M_step_12 rfl ?_
  refine e_imul (pc := 13) d_M_step_13 ?_
  refine e_aload_n (pc := 14) d_M_step_14 rfl ?_
  refine e_get (pc := 15) s_M_step_15 rfl rfl ?_
  refine e_iload_n (pc := 18) d_M_step_18 rfl ?_
  refine e_iald (pc := 19) d_M_step_19 rfl (vp_in_nI (by omega) (by decide)) ((fx1 (nI_clamp (by omega))).trans h5) ?_
  refine e_iadd (pc := 20) d_M_step_20 ?_
  refine e_topi (y := nI (16 * c + p)) (ixM 16 c p) ?_
  refine e_istore_n (pc := 21) d_M_step_21 (Nat.le_of_ble_eq_true rfl) ?_
  dsimp only [List.set]
  refine e_aload_n (pc := 22) d_M_step_22 rfl ?_
  refine e_get (pc := 23) s_M_step_23 rfl rfl ?_
  refine e_iload_n (pc := 26) d_M_step_26 rfl ?_
  refine e_iald (pc := 27) d_M_step_27 rfl (vp_in_nI (by omega) (by decide)) ((fx1 (nI_clamp (by omega))).trans h5) ?_
  refine e_aload_n (pc := 28) d_M_step_28 rfl ?_
  refine e_get (pc := 29) s_M_step_29 rfl rfl ?_
  refine e_iload_n (pc := 32) d_M_step_32 rfl ?_
  refine e_iald (pc := 33) d_M_step_33 rfl (vp_in_nI (by omega) (by decide)) ((fx1 (nI_clamp (by omega))).trans h1) ?_
  refine e_icmp_ge (pc := 34) (tgt := 48) d_M_step_34 (by decide) (fun zz => absurd zz (nI_ge hpq (by omega))) (fun _ => ?_)
  refine e_aload_n (pc := 37) d_M_step_37 rfl ?_
  refine e_get (pc := 38) s_M_step_38 rfl rfl ?_
  refine e_iload_n (pc := 41) d_M_step_41 rfl ?_
  refine e_iald (pc := 42) d_M_step_42 rfl (vp_in_nI (by omega) (by decide)) ((fx16 (nI_clamp (by omega)) hp).trans h2) ?_
  refine e_bipush (pc := 43) (v := 7) d_M_step_43 (by decide) ?_
  refine e_icmp_ne (pc := 45) (tgt := 50) d_M_step_45 (by decide) (fun _ => ?_) (fun zz => absurd zz (by decide))
  refine e_aload_n (pc := 50) d_M_step_50 rfl ?_
  refine e_get (pc := 51) s_M_step_51 rfl rfl ?_
  refine e_iload_n (pc := 54) d_M_step_54 rfl ?_
  refine e_iald (pc := 55) d_M_step_55 rfl (vp_in_nI (by omega) (by decide)) ((fx16 (nI_clamp (by omega)) hp).trans h2) ?_
  refine e_bipush (pc := 56) (v := 6) d_M_step_56 (by decide) ?_
  refine e_icmp_ne (pc := 58) (tgt := 83) d_M_step_58 (by decide) (fun _ => ?_) (fun zz => absurd zz (by decide))
  refine e_iconst (pc := 83) (v := 0) d_M_step_83 (by decide) ?_
  refine e_istore_n (pc := 84) d_M_step_84 (Nat.le_of_ble_eq_true rfl) ?_
  dsimp only [List.set]
  refine e_aload_n (pc := 85) d_M_step_85 rfl ?_
  refine e_iload_n (pc := 86) d_M_step_86 rfl ?_
  refine e_aload_n (pc := 87) d_M_step_87 rfl ?_
  refine e_get (pc := 88) s_M_step_88 rfl rfl ?_
  refine e_iload_n (pc := 91) d_M_step_91 rfl ?_
  refine e_iald (pc := 92) d_M_step_92 rfl (vp_in_nI (by omega) (by decide)) ((fx16 (nI_clamp (by omega)) hp).trans h2) ?_
  refine e_aload_n (pc := 93) d_M_step_93 rfl ?_
  refine e_get (pc := 94) s_M_step_94 rfl rfl ?_
  refine e_iload_n (pc := 97) d_M_step_97 rfl ?_
  refine e_iald (pc := 98) d_M_step_98 rfl (vp_in_nI (by omega) (by decide)) ((fx16 (nI_clamp (by omega)) hp).trans h3) ?_
  refine e_aload_n (pc := 99) d_M_step_99 rfl ?_
  refine e_get (pc := 100) s_M_step_100 rfl rfl ?_
  refine e_iload_n (pc := 103) d_M_step_103 rfl ?_
  refine e_iald (pc := 104) d_M_step_104 rfl (vp_in_nI (by omega) (by decide)) ((fx16 (nI_clamp (by omega)) hp).trans h4) ?_
  refine e_cV4 (pc := 105) s_M_step_105 (sM_act3 hc ha hb hn hm hs h6 h17 h9) rfl rfl rfl (Nat.le_of_ble_eq_true rfl) (Nat.le_of_ble_eq_true rfl) (Nat.le_of_ble_eq_true rfl) (zGo.v ?_)
  refine e_istore (pc := 108) d_M_step_108 (Nat.le_of_ble_eq_true rfl) ?_
  dsimp only [List.set]
  refine e_aload_n (pc := 110) d_M_step_110 rfl ?_
  refine e_get (pc := 111) s_M_step_111 rfl rfl ?_
  refine e_iload_n (pc := 114) d_M_step_114 rfl ?_
  refine e_iload_n (pc := 115) d_M_step_115 rfl ?_
  refine e_if_eq (pc := 116) (tgt := 128) d_M_step_116 (by decide) (fun _ => ?_) (fun zz => absurd (by decide) zz)
  refine e_iload (pc := 128) d_M_step_128 rfl ?_
  refine e_iconst (pc := 130) (v := 1) d_M_step_130 (by decide) ?_
  refine e_icmp_ne (pc := 131) (tgt := 145) d_M_step_131 (by decide) (fun hz5 => ?_) (fun hz5 => ?_)
  · refine e_aload_n (pc := 145) d_M_step_145 rfl ?_
    refine e_get (pc := 146) s_M_step_146 rfl rfl ?_
    refine e_iload_n (pc := 149) d_M_step_149 rfl ?_
    refine e_iald (pc := 150) d_M_step_150 rfl (vp_in_nI (by omega) (by decide)) (fx1 (nI_clamp (by omega))) ?_
    refine e_iast (pc := 151) d_M_step_151 rfl (vp_in_nI (by omega) (by decide)) (vAt (nI_clamp (by omega))) ?_
    refine e_iload (pc := 152) d_M_step_152 rfl ?_
    exact e_iret (pc := 154) d_M_step_154 rfl rfl (Nat.le_of_ble_eq_true rfl) (Nat.le_of_ble_eq_true rfl) (by rw [plS, if_neg hz5])
  · refine e_aload_n (pc := 134) d_M_step_134 rfl ?_
    refine e_get (pc := 135) s_M_step_135 rfl rfl ?_
    refine e_iload_n (pc := 138) d_M_step_138 rfl ?_
    refine e_iald (pc := 139) d_M_step_139 rfl (vp_in_nI (by omega) (by decide)) (fx1 (nI_clamp (by omega))) ?_
    refine e_iconst (pc := 140) (v := 1) d_M_step_140 (by decide) ?_
    refine e_iadd (pc := 141) d_M_step_141 ?_
    refine e_goto (pc := 142) (tgt := 151) d_M_step_142 (by decide) ?_
    refine e_iast (pc := 151) d_M_step_151 rfl (vp_in_nI (by omega) (by decide)) (vAt (nI_clamp (by omega))) ?_
    refine e_iload (pc := 152) d_M_step_152 rfl ?_
    exact e_iret (pc := 154) d_M_step_154 rfl rfl (Nat.le_of_ble_eq_true rfl) (Nat.le_of_ble_eq_true rfl) (by rw [plS, if_pos hz5])
set_option maxHeartbeats 4000000 in
set_option maxRecDepth 100000 in
theorem sM_step4 {l : Launch} {G : zGP} {K : Nat} {S T : St} {th : Int32} {fo : Nat → Int64} {c p q a b : Nat}  (hc : c < 3) (hp : p < 16) (hq : q ≤ 16) (h5 : T 5 c 0 = nI p) (h1 : T 1 c 0 = nI q) (hpq : p < q) (h2 : T 2 c p = nI 4) (h3 : T 3 c p = nI a) (h4 : T 4 c p = nI b) (ha : a < 4) (hb : b < 4) : Rn l G m_M_step [.ref 45, .int (nI c)] (hpA K S T th fo) (.inl (some (.int 1)), (hpA K S (su (su T 0 c a (T 0 c a + T 0 c b)) 5 c 0 (T 5 c 0 + 1)) 0 fo)) := by
  refine Rn.of (by decide) rfl rfl (Nat.le_of_ble_eq_true rfl) rfl ?_
  show Ev l G m_M_step 0 [.ref 45, .int (nI c), .double 0, .double 0, .double 0] [] (hpA K S T th fo) 0 0 _
  refine e_aload_n (pc := 0) d_M_step_0 rfl ?_
  refine e_iload_n (pc := 1) d_M_step_1 rfl ?_
  refine e_cV1 (pc := 2) s_M_step_2 (sM_core hc) rfl rfl rfl (Nat.le_of_ble_eq_true rfl) (Nat.le_of_ble_eq_true rfl) (Nat.le_of_ble_eq_true rfl) (zGo.v ?_)
  refine e_if_ne (pc := 5) (tgt := 10) d_M_step_5 (by decide) (fun _ => ?_) (fun zz => absurd zz (by decide))
  refine e_bipush (pc := 10) (v := 16) d_M_step_10 (by decide) ?_
  refine e_iload_n (pc := 12) d_M_step_12 rfl ?_
  refine e_imul (pc := 13) d_M_step_13 ?_
  refine e_aload_n (pc := 14) d_M_step_14 rfl ?_
  refine e_get (pc := 15) s_M_step_15 rfl rfl ?_
  refine e_iload_n (pc := 18) d_M_step_18 rfl ?_
  refine e_iald (pc := 19) d_M_step_19 rfl (vp_in_nI (by omega) (by decide)) ((fx1 (nI_clamp (by omega))).trans h5) ?_
  refine e_iadd (pc := 20) d_M_step_20 ?_
  refine e_topi (y := nI (16 * c + p)) (ixM 16 c p) ?_
  refine e_istore_n (pc := 21) d_M_step_21 (Nat.le_of_ble_eq_true rfl) ?_
  dsimp only [List.set]
  refine e_aload_n (pc := 22) d_M_step_22 rfl ?_
  refine e_get (pc := 23) s_M_step_23 rfl rfl ?_
  refine e_iload_n (pc := 26) d_M_step_26 rfl ?_
  refine e_iald (pc := 27) d_M_step_27 rfl (vp_in_nI (by omega) (by decide)) ((fx1 (nI_clamp (by omega))).trans h5) ?_
  refine e_aload_n (pc := 28) d_M_step_28 rfl ?_
  refine e_get (pc := 29) s_M_step_29 rfl rfl ?_
  refine e_iload_n (pc := 32) d_M_step_32 rfl ?_
  refine e_iald (pc := 33) d_M_step_33 rfl (vp_in_nI (by omega) (by decide)) ((fx1 (nI_clamp (by omega))).trans h1) ?_
  refine e_icmp_ge (pc := 34) (tgt := 48) d_M_step_34 (by decide) (fun zz => absurd zz (nI_ge hpq (by omega))) (fun _ => ?_)
  refine e_aload_n (pc := 37) d_M_step_37 rfl ?_
  refine e_get (pc := 38) s_M_step_38 rfl rfl ?_
  refine e_iload_n (pc := 41) d_M_step_41 rfl ?_
  refine e_iald (pc := 42) d_M_step_42 rfl (vp_in_nI (by omega) (by decide)) ((fx16 (nI_clamp (by omega)) hp).trans h2) ?_
  refine e_bipush (pc := 43) (v := 7) d_M_step_43 (by decide) ?_
  refine e_icmp_ne (pc := 45) (tgt := 50) d_M_step_45 (by decide) (fun _ => ?_) (fun zz => absurd zz (by decide))
  refine e_aload_n (pc := 50) d_M_step_50 rfl ?_
  refine e_get (pc := 51) s_M_step_51 rfl rfl ?_
  refine e_iload_n (pc := 54) d_M_step_54 rfl ?_
  refine e_iald (pc := 55) d_M_step_55 rfl (vp_in_nI (by omega) (by decide)) ((fx16 (nI_clamp (by omega)) hp).trans h2) ?_
  refine e_bipush (pc := 56) (v := 6) d_M_step_56 (by decide) ?_
  refine e_icmp_ne (pc := 58) (tgt := 83) d_M_step_58 (by decide) (fun _ => ?_) (fun zz => absurd zz (by decide))
  refine e_iconst (pc := 83) (v := 0) d_M_step_83 (by decide) ?_
  refine e_istore_n (pc := 84) d_M_step_84 (Nat.le_of_ble_eq_true rfl) ?_
  dsimp only [List.set]
  refine e_aload_n (pc := 85) d_M_step_85 rfl ?_
  refine e_iload_n (pc := 86) d_M_step_86 rfl ?_
  refine e_aload_n (pc := 87) d_M_step_87 rfl ?_
  refine e_get (pc := 88) s_M_step_88 rfl rfl ?_
  refine e_iload_n (pc := 91) d_M_step_91 rfl ?_
  refine e_iald (pc := 92) d_M_step_92 rfl (vp_in_nI (by omega) (by decide)) ((fx16 (nI_clamp (by omega)) hp).trans h2) ?_
  refine e_aload_n (pc := 93) d_M_step_93 rfl ?_
  refine e_get (pc := 94) s_M_step_94 rfl rfl ?_
  refine e_iload_n (pc := 97) d_M_step_97 rfl ?_
  refine e_iald (pc := 98) d_M_step_98 rfl (vp_in_nI (by omega) (by decide)) ((fx16 (nI_clamp (by omega)) hp).trans h3) ?_
  refine e_aload_n (pc := 99) d_M_step_99 rfl ?_
  refine e_get (pc := 100) s_M_step_100 rfl rfl ?_
  refine e_iload_n (pc := 103) d_M_step_103 rfl ?_
  refine e_iald (pc := 104) d_M_step_104 rfl (vp_in_nI (by omega) (by decide)) ((fx16 (nI_clamp (by omega)) hp).trans h4) ?_
  refine e_cV4 (pc := 105) s_M_step_105 (sM_act4 hc ha hb) rfl rfl rfl (Nat.le_of_ble_eq_true rfl) (Nat.le_of_ble_eq_true rfl) (Nat.le_of_ble_eq_true rfl) (zGo.v ?_)
  refine e_istore (pc := 108) d_M_step_108 (Nat.le_of_ble_eq_true rfl) ?_
  dsimp only [List.set]
  refine e_aload_n (pc := 110) d_M_step_110 rfl ?_
  refine e_get (pc := 111) s_M_step_111 rfl rfl ?_
  refine e_iload_n (pc := 114) d_M_step_114 rfl ?_
  refine e_iload_n (pc := 115) d_M_step_115 rfl ?_
  refine e_if_eq (pc := 116) (tgt := 128) d_M_step_116 (by decide) (fun _ => ?_) (fun zz => absurd (by decide) zz)
  refine e_iload (pc := 128) d_M_step_128 rfl ?_
  refine e_iconst (pc := 130) (v := 1) d_M_step_130 (by decide) ?_
  refine e_icmp_ne (pc := 131) (tgt := 145) d_M_step_131 (by decide) (fun zz => absurd (by decide) zz) (fun _ => ?_)
  refine e_aload_n (pc := 134) d_M_step_134 rfl ?_
  refine e_get (pc := 135) s_M_step_135 rfl rfl ?_
  refine e_iload_n (pc := 138) d_M_step_138 rfl ?_
  refine e_iald (pc := 139) d_M_step_139 rfl (vp_in_nI (by omega) (by decide)) (fx1 (nI_clamp (by omega))) ?_
  refine e_iconst (pc := 140) (v := 1) d_M_step_140 (by decide) ?_
  refine e_iadd (pc := 141) d_M_step_141 ?_
  refine e_goto (pc := 142) (tgt := 151) d_M_step_142 (by decide) ?_
  refine e_iast (pc := 151) d_M_step_151 rfl (vp_in_nI (by omega) (by decide)) (vAt (nI_clamp (by omega))) ?_
  refine e_iload (pc := 152) d_M_step_152 rfl ?_
  exact e_iret (pc := 154) d_M_step_154 rfl rfl (Nat.le_of_ble_eq_true rfl) (Nat.le_of_ble_eq_true rfl) rfl
set_option maxHeartbeats 4000000 in
set_option maxRecDepth 100000 in
theorem sM_step5 {l : Launch} {G : zGP} {K : Nat} {S T : St} {th : Int32} {fo : Nat → Int64} {c p q a : Nat} {b : Int32} (hc : c < 3) (hp : p < 16) (hq : q ≤ 16) (h5 : T 5 c 0 = nI p) (h1 : T 1 c 0 = nI q) (hpq : p < q) (h2 : T 2 c p = nI 5) (h3 : T 3 c p = nI a) (h4 : T 4 c p = b) (ha : a < 4) : Rn l G m_M_step [.ref 45, .int (nI c)] (hpA K S T th fo) (.inl (some (.int 1)), (hpA K S (su (su T 0 c a b) 5 c 0 (T 5 c 0 + 1)) 0 fo)) := by
  refine Rn.of (by decide) rfl rfl (Nat.le_of_ble_eq_true rfl) rfl ?_
  show Ev l G m_M_step 0 [.ref 45, .int (nI c), .double 0, .double 0, .double 0] [] (hpA K S T th fo) 0 0 _
  refine e_aload_n (pc := 0) d_M_step_0 rfl ?_
  refine e_iload_n (pc := 1) d_M_step_1 rfl ?_
  refine e_cV1 (pc := 2) s_M_step_2 (sM_core hc) rfl rfl rfl (Nat.le_of_ble_eq_true rfl) (Nat.le_of_ble_eq_true rfl) (Nat.le_of_ble_eq_true rfl) (zGo.v ?_)
  refine e_if_ne (pc := 5) (tgt := 10) d_M_step_5 (by decide) (fun _ => ?_) (fun zz => absurd zz (by decide))
  refine e_bipush (pc := 10) (v := 16) d_M_step_10 (by decide) ?_
  refine e_iload_n (pc := 12) d_M_step_12 rfl ?_
  refine e_imul (pc := 13) d_M_step_13 ?_
  refine e_aload_n (pc := 14) d_M_step_14 rfl ?_
  refine e_get (pc := 15) s_M_step_15 rfl rfl ?_
  refine e_iload_n (pc := 18) d_M_step_18 rfl ?_
  refine e_iald (pc := 19) d_M_step_19 rfl (vp_in_nI (by omega) (by decide)) ((fx1 (nI_clamp (by omega))).trans h5) ?_
  refine e_iadd (pc := 20) d_M_step_20 ?_
  refine e_topi (y := nI (16 * c + p)) (ixM 16 c p) ?_
  refine e_istore_n (pc := 21) d_M_step_21 (Nat.le_of_ble_eq_true rfl) ?_
  dsimp only [List.set]
  refine e_aload_n (pc := 22) d_M_step_22 rfl ?_
  refine e_get (pc := 23) s_M_step_23 rfl rfl ?_
  refine e_iload_n (pc := 26) d_M_step_26 rfl ?_
  refine e_iald (pc := 27) d_M_step_27 rfl (vp_in_nI (by omega) (by decide)) ((fx1 (nI_clamp (by omega))).trans h5) ?_
  refine e_aload_n (pc := 28) d_M_step_28 rfl ?_
  refine e_get (pc := 29) s_M_step_29 rfl rfl ?_
  refine e_iload_n (pc := 32) d_M_step_32 rfl ?_
  refine e_iald (pc := 33) d_M_step_33 rfl (vp_in_nI (by omega) (by decide)) ((fx1 (nI_clamp (by omega))).trans h1) ?_
  refine e_icmp_ge (pc := 34) (tgt := 48) d_M_step_34 (by decide) (fun zz => absurd zz (nI_ge hpq (by omega))) (fun _ => ?_)
  refine e_aload_n (pc := 37) d_M_step_37 rfl ?_
  refine e_get (pc := 38) s_M_step_38 rfl rfl ?_
  refine e_iload_n (pc := 41) d_M_step_41 rfl ?_
  refine e_iald (pc := 42) d_M_step_42 rfl (vp_in_nI (by omega) (by decide)) ((fx16 (nI_clamp (by omega)) hp).trans h2) ?_
  refine e_bipush (pc := 43) (v := 7) d_M_step_43 (by decide) ?_
  refine e_icmp_ne (pc := 45) (tgt := 50) d_M_step_45 (by decide) (fun _ => ?_) (fun zz => absurd zz (by decide))
  refine e_aload_n (pc := 50) d_M_step_50 rfl ?_
  refine e_get (pc := 51) s_M_step_51 rfl rfl ?_
  refine e_iload_n (pc := 54) d_M_step_54 rfl ?_
  refine e_iald (pc := 55) d_M_step_55 rfl (vp_in_nI (by omega) (by decide)) ((fx16 (nI_clamp (by omega)) hp).trans h2) ?_
  refine e_bipush (pc := 56) (v := 6) d_M_step_56 (by decide) ?_
  refine e_icmp_ne (pc := 58) (tgt := 83) d_M_step_58 (by decide) (fun _ => ?_) (fun zz => absurd zz (by decide))
  refine e_iconst (pc := 83) (v := 0) d_M_step_83 (by decide) ?_
  refine e_istore_n (pc := 84) d_M_step_84 (Nat.le_of_ble_eq_true rfl) ?_
  dsimp only [List.set]
  refine e_aload_n (pc := 85) d_M_step_85 rfl ?_
  refine e_iload_n (pc := 86) d_M_step_86 rfl ?_
  refine e_aload_n (pc := 87) d_M_step_87 rfl ?_
  refine e_get (pc := 88) s_M_step_88 rfl rfl ?_
  refine e_iload_n (pc := 91) d_M_step_91 rfl ?_
  refine e_iald (pc := 92) d_M_step_92 rfl (vp_in_nI (by omega) (by decide)) ((fx16 (nI_clamp (by omega)) hp).trans h2) ?_
  refine e_aload_n (pc := 93) d_M_step_93 rfl ?_
  refine e_get (pc := 94) s_M_step_94 rfl rfl ?_
  refine e_iload_n (pc := 97) d_M_step_97 rfl ?_
  refine e_iald (pc := 98) d_M_step_98 rfl (vp_in_nI (by omega) (by decide)) ((fx16 (nI_clamp (by omega)) hp).trans h3) ?_
  refine e_aload_n (pc := 99) d_M_step_99 rfl ?_
  refine e_get (pc := 100) s_M_step_100 rfl rfl ?_
  refine e_iload_n (pc := 103) d_M_step_103 rfl ?_
  refine e_iald (pc := 104) d_M_step_104 rfl (vp_in_nI (by omega) (by decide)) ((fx16 (nI_clamp (by omega)) hp).trans h4) ?_
  refine e_cV4 (pc := 105) s_M_step_105 (sM_act5 hc ha) rfl rfl rfl (Nat.le_of_ble_eq_true rfl) (Nat.le_of_ble_eq_true rfl) (Nat.le_of_ble_eq_true rfl) (zGo.v ?_)
  refine e_istore (pc := 108) d_M_step_108 (Nat.le_of_ble_eq_true rfl) ?_
  dsimp only [List.set]
  refine e_aload_n (pc := 110) d_M_step_110 rfl ?_
  refine e_get (pc := 111) s_M_step_111 rfl rfl ?_
  refine e_iload_n (pc := 114) d_M_step_114 rfl ?_
  refine e_iload_n (pc := 115) d_M_step_115 rfl ?_
  refine e_if_eq (pc := 116) (tgt := 128) d_M_step_116 (by decide) (fun _ => ?_) (fun zz => absurd (by decide) zz)
  refine e_iload (pc := 128) d_M_step_128 rfl ?_
  refine e_iconst (pc := 130) (v := 1) d_M_step_130 (by decide) ?_
  refine e_icmp_ne (pc := 131) (tgt := 145) d_M_step_131 (by decide) (fun zz => absurd (by decide) zz) (fun _ => ?_)
  refine e_aload_n (pc := 134) d_M_step_134 rfl ?_
  refine e_get (pc := 135) s_M_step_135 rfl rfl ?_
  refine e_iload_n (pc := 138) d_M_step_138 rfl ?_
  refine e_iald (pc := 139) d_M_step_139 rfl (vp_in_nI (by omega) (by decide)) (fx1 (nI_clamp (by omega))) ?_
  refine e_iconst (pc := 140) (v := 1) d_M_step_140 (by decide) ?_
  refine e_iadd (pc := 141) d_M_step_141 ?_
  refine e_goto (pc := 142) (tgt := 151) d_M_step_142 (by decide) ?_
  refine e_iast (pc := 151) d_M_step_151 rfl (vp_in_nI (by omega) (by decide)) (vAt (nI_clamp (by omega))) ?_
  refine e_iload (pc := 152) d_M_step_152 rfl ?_
  exact e_iret (pc := 154) d_M_step_154 rfl rfl (Nat.le_of_ble_eq_true rfl) (Nat.le_of_ble_eq_true rfl) rfl
set_option maxHeartbeats 4000000 in
set_option maxRecDepth 100000 in
theorem sM_step6 {l : Launch} {G : zGP} {K : Nat} {S T : St} {th : Int32} {fo : Nat → Int64} {c p q a : Nat} {b : Int32} (hc : c < 3) (hp : p < 16) (hq : q ≤ 16) (h5 : T 5 c 0 = nI p) (h1 : T 1 c 0 = nI q) (hpq : p < q) (h2 : T 2 c p = nI 6) (h3 : T 3 c p = nI a) (h4 : T 4 c p = b) (ha : a < 4) : Rn l G m_M_step [.ref 45, .int (nI c)] (hpA K S T th fo) (.inl (some (.int 1)), (hpA K S (brS T c a b) 0 fo)) := by
  refine Rn.of (by decide) rfl rfl (Nat.le_of_ble_eq_true rfl) rfl ?_
  show Ev l G m_M_step 0 [.ref 45, .int (nI c), .double 0, .double 0, .double 0] [] (hpA K S T th fo) 0 0 _
  refine e_aload_n (pc := 0) d_M_step_0 rfl ?_
  refine e_iload_n (pc := 1) d_M_step_1 rfl ?_
  refine e_cV1 (pc := 2) s_M_step_2 (sM_core hc) rfl rfl rfl (Nat.le_of_ble_eq_true rfl) (Nat.le_of_ble_eq_true rfl) (Nat.le_of_ble_eq_true rfl) (zGo.v ?_)
  refine e_if_ne (pc := 5) (tgt := 10) d_M_step_5 (by decide) (fun _ => ?_) (fun zz => absurd zz (by decide))
  refine e_bipush (pc := 10) (v := 16) d_M_step_10 (by decide) ?_
  refine e_iload_n (pc := 12) d_M_step_12 rfl ?_
  refine e_imul (pc := 13) d_M_step_13 ?_
  refine e_aload_n (pc := 14) d_M_step_14 rfl ?_
  refine e_get (pc := 15) s_M_step_15 rfl rfl ?_
  refine e_iload_n (pc := 18) d_M_step_18 rfl ?_
  refine e_iald (pc := 19) d_M_step_19 rfl (vp_in_nI (by omega) (by decide)) ((fx1 (nI_clamp (by omega))).trans h5) ?_
  refine e_iadd (pc := 20) d_M_step_20 ?_
  refine e_topi (y := nI (16 * c + p)) (ixM 16 c p) ?_
  refine e_istore_n (pc := 21) d_M_step_21 (Nat.le_of_ble_eq_true rfl) ?_
  dsimp only [List.set]
  refine e_aload_n (pc := 22) d_M_step_22 rfl ?_
  refine e_get (pc := 23) s_M_step_23 rfl rfl ?_
  refine e_iload_n (pc := 26) d_M_step_26 rfl ?_
  refine e_iald (pc := 27) d_M_step_27 rfl (vp_in_nI (by omega) (by decide)) ((fx1 (nI_clamp (by omega))).trans h5) ?_
  refine e_aload_n (pc := 28) d_M_step_28 rfl ?_
  refine e_get (pc := 29) s_M_step_29 rfl rfl ?_
  refine e_iload_n (pc := 32) d_M_step_32 rfl ?_
  refine e_iald (pc := 33) d_M_step_33 rfl (vp_in_nI (by omega) (by decide)) ((fx1 (nI_clamp (by omega))).trans h1) ?_
  refine e_icmp_ge (pc := 34) (tgt := 48) d_M_step_34 (by decide) (fun zz => absurd zz (nI_ge hpq (by omega))) (fun _ => ?_)
  refine e_aload_n (pc := 37) d_M_step_37 rfl ?_
  refine e_get (pc := 38) s_M_step_38 rfl rfl ?_
  refine e_iload_n (pc := 41) d_M_step_41 rfl ?_
  refine e_iald (pc := 42) d_M_step_42 rfl (vp_in_nI (by omega) (by decide)) ((fx16 (nI_clamp (by omega)) hp).trans h2) ?_
  refine e_bipush (pc := 43) (v := 7) d_M_step_43 (by decide) ?_
  refine e_icmp_ne (pc := 45) (tgt := 50) d_M_step_45 (by decide) (fun _ => ?_) (fun zz => absurd zz (by decide))
  refine e_aload_n (pc := 50) d_M_step_50 rfl ?_
  refine e_get (pc := 51) s_M_step_51 rfl rfl ?_
  refine e_iload_n (pc := 54) d_M_step_54 rfl ?_
  refine e_iald (pc := 55) d_M_step_55 rfl (vp_in_nI (by omega) (by decide)) ((fx16 (nI_clamp (by omega)) hp).trans h2) ?_
  refine e_bipush (pc := 56) (v := 6) d_M_step_56 (by decide) ?_
  refine e_icmp_ne (pc := 58) (tgt := 83) d_M_step_58 (by decide) (fun zz => absurd (by decide) zz) (fun _ => ?_)
  refine e_aload_n (pc := 61) d_M_step_61 rfl ?_
  refine e_get (pc := 62) s_M_step_62 rfl rfl ?_
  refine e_iconst (pc := 65) (v := 4) d_M_step_65 (by decide) ?_
  refine e_iload_n (pc := 66) d_M_step_66 rfl ?_
  refine e_imul (pc := 67) d_M_step_67 ?_
  refine e_aload_n (pc := 68) d_M_step_68 rfl ?_
  refine e_get (pc := 69) s_M_step_69 rfl rfl ?_
  refine e_iload_n (pc := 72) d_M_step_72 rfl ?_
  refine e_iald (pc := 73) d_M_step_73 rfl (vp_in_nI (by omega) (by decide)) ((fx16 (nI_clamp (by omega)) hp).trans h3) ?_
  refine e_iadd (pc := 74) d_M_step_74 ?_
  refine e_topi (y := nI (4 * c + a)) (ixM 4 c a) ?_
  refine e_iald (pc := 75) d_M_step_75 rfl (vp_in_nI (by omega) (by decide)) (fx4 (nI_clamp (by omega)) ha) ?_
  refine e_if_eq (pc := 76) (tgt := 83) d_M_step_76 (by decide) (fun hz6 => ?_) (fun hz6 => ?_)
  · refine e_iconst (pc := 83) (v := 0) d_M_step_83 (by decide) ?_
    refine e_istore_n (pc := 84) d_M_step_84 (Nat.le_of_ble_eq_true rfl) ?_
    dsimp only [List.set]
    refine e_aload_n (pc := 85) d_M_step_85 rfl ?_
    refine e_iload_n (pc := 86) d_M_step_86 rfl ?_
    refine e_aload_n (pc := 87) d_M_step_87 rfl ?_
    refine e_get (pc := 88) s_M_step_88 rfl rfl ?_
    refine e_iload_n (pc := 91) d_M_step_91 rfl ?_
    refine e_iald (pc := 92) d_M_step_92 rfl (vp_in_nI (by omega) (by decide)) ((fx16 (nI_clamp (by omega)) hp).trans h2) ?_
    refine e_aload_n (pc := 93) d_M_step_93 rfl ?_
    refine e_get (pc := 94) s_M_step_94 rfl rfl ?_
    refine e_iload_n (pc := 97) d_M_step_97 rfl ?_
    refine e_iald (pc := 98) d_M_step_98 rfl (vp_in_nI (by omega) (by decide)) ((fx16 (nI_clamp (by omega)) hp).trans h3) ?_
    refine e_aload_n (pc := 99) d_M_step_99 rfl ?_
    refine e_get (pc := 100) s_M_step_100 rfl rfl ?_
    refine e_iload_n (pc := 103) d_M_step_103 rfl ?_
    refine e_iald (pc := 104) d_M_step_104 rfl (vp_in_nI (by omega) (by decide)) ((fx16 (nI_clamp (by omega)) hp).trans h4) ?_
    refine e_cV4 (pc := 105) s_M_step_105 (sM_act6 hc) rfl rfl rfl (Nat.le_of_ble_eq_true rfl) (Nat.le_of_ble_eq_true rfl) (Nat.le_of_ble_eq_true rfl) (zGo.v ?_)
    refine e_istore (pc := 108) d_M_step_108 (Nat.le_of_ble_eq_true rfl) ?_
    dsimp only [List.set]
    refine e_aload_n (pc := 110) d_M_step_110 rfl ?_
    refine e_get (pc := 111) s_M_step_111 rfl rfl ?_
    refine e_iload_n (pc := 114) d_M_step_114 rfl ?_
    refine e_iload_n (pc := 115) d_M_step_115 rfl ?_
    refine e_if_eq (pc := 116) (tgt := 128) d_M_step_116 (by decide) (fun _ => ?_) (fun zz => absurd (by decide) zz)
    refine e_iload (pc := 128) d_M_step_128 rfl ?_
    refine e_iconst (pc := 130) (v := 1) d_M_step_130 (by decide) ?_
    refine e_icmp_ne (pc := 131) (tgt := 145) d_M_step_131 (by decide) (fun zz => absurd (by decide) zz) (fun _ => ?_)
    refine e_aload_n (pc := 134) d_M_step_134 rfl ?_
    refine e_get (pc := 135) s_M_step_135 rfl rfl ?_
    refine e_iload_n (pc := 138) d_M_step_138 rfl ?_
    refine e_iald (pc := 139) d_M_step_139 rfl (vp_in_nI (by omega) (by decide)) (fx1 (nI_clamp (by omega))) ?_
    refine e_iconst (pc := 140) (v := 1) d_M_step_140 (by decide) ?_
    refine e_iadd (pc := 141) d_M_step_141 ?_
    refine e_goto (pc := 142) (tgt := 151) d_M_step_142 (by decide) ?_
    refine e_iast (pc := 151) d_M_step_151 rfl (vp_in_nI (by omega) (by decide)) (vAt (nI_clamp (by omega))) ?_
    refine e_iload (pc := 152) d_M_step_152 rfl ?_
    exact e_iret (pc := 154) d_M_step_154 rfl rfl (Nat.le_of_ble_eq_true rfl) (Nat.le_of_ble_eq_true rfl) (by rw [brS, if_pos hz6])
  · refine e_iconst (pc := 79) (v := 1) d_M_step_79 (by decide) ?_
    refine e_goto (pc := 80) (tgt := 84) d_M_step_80 (by decide) ?_
    refine e_istore_n (pc := 84) d_M_step_84 (Nat.le_of_ble_eq_true rfl) ?_
    dsimp only [List.set]
    refine e_aload_n (pc := 85) d_M_step_85 rfl ?_
    refine e_iload_n (pc := 86) d_M_step_86 rfl ?_
    refine e_aload_n (pc := 87) d_M_step_87 rfl ?_
    refine e_get (pc := 88) s_M_step_88 rfl rfl ?_
    refine e_iload_n (pc := 91) d_M_step_91 rfl ?_
    refine e_iald (pc := 92) d_M_step_92 rfl (vp_in_nI (by omega) (by decide)) ((fx16 (nI_clamp (by omega)) hp).trans h2) ?_
    refine e_aload_n (pc := 93) d_M_step_93 rfl ?_
    refine e_get (pc := 94) s_M_step_94 rfl rfl ?_
    refine e_iload_n (pc := 97) d_M_step_97 rfl ?_
    refine e_iald (pc := 98) d_M_step_98 rfl (vp_in_nI (by omega) (by decide)) ((fx16 (nI_clamp (by omega)) hp).trans h3) ?_
    refine e_aload_n (pc := 99) d_M_step_99 rfl ?_
    refine e_get (pc := 100) s_M_step_100 rfl rfl ?_
    refine e_iload_n (pc := 103) d_M_step_103 rfl ?_
    refine e_iald (pc := 104) d_M_step_104 rfl (vp_in_nI (by omega) (by decide)) ((fx16 (nI_clamp (by omega)) hp).trans h4) ?_
    refine e_cV4 (pc := 105) s_M_step_105 (sM_act6 hc) rfl rfl rfl (Nat.le_of_ble_eq_true rfl) (Nat.le_of_ble_eq_true rfl) (Nat.le_of_ble_eq_true rfl) (zGo.v ?_)
    refine e_istore (pc := 108) d_M_step_108 (Nat.le_of_ble_eq_true rfl) ?_
    dsimp only [List.set]
    refine e_aload_n (pc := 110) d_M_step_110 rfl ?_
    refine e_get (pc := 111) s_M_step_111 rfl rfl ?_
    refine e_iload_n (pc := 114) d_M_step_114 rfl ?_
    refine e_iload_n (pc := 115) d_M_step_115 rfl ?_
    refine e_if_eq (pc := 116) (tgt := 128) d_M_step_116 (by decide) (fun zz => absurd zz (by decide)) (fun _ => ?_)
    refine e_aload_n (pc := 119) d_M_step_119 rfl ?_
    refine e_get (pc := 120) s_M_step_120 rfl rfl ?_
    refine e_iload_n (pc := 123) d_M_step_123 rfl ?_
    refine e_iald (pc := 124) d_M_step_124 rfl (vp_in_nI (by omega) (by decide)) ((fx16 (nI_clamp (by omega)) hp).trans h4) ?_
    refine e_goto (pc := 125) (tgt := 151) d_M_step_125 (by decide) ?_
    refine e_iast (pc := 151) d_M_step_151 rfl (vp_in_nI (by omega) (by decide)) (vAt (nI_clamp (by omega))) ?_
    refine e_iload (pc := 152) d_M_step_152 rfl ?_
    exact e_iret (pc := 154) d_M_step_154 rfl rfl (Nat.le_of_ble_eq_true rfl) (Nat.le_of_ble_eq_true rfl) (by rw [brS, if_neg hz6])
set_option maxHeartbeats 4000000 in
set_option maxRecDepth 100000 in
theorem sM_step7 {l : Launch} {G : zGP} {K : Nat} {S T : St} {th : Int32} {fo : Nat → Int64} {c p q  : Nat} {a b : Int32} (hc : c < 3) (hp : p < 16) (hq : q ≤ 16) (h5 : T 5 c 0 = nI p) (h1 : T 1 c 0 = nI q) (hpq : p < q) (h2 : T 2 c p = nI 7) (h3 : T 3 c p = a) (h4 : T 4 c p = b)  : Rn l G m_M_step [.ref 45, .int (nI c)] (hpA K S T th fo) (.inl (some (.int 2)), (hpA K S T 0 fo)) := by
  refine Rn.of (by decide) rfl rfl (Nat.le_of_ble_eq_true rfl) rfl ?_
  show Ev l G m_M_step 0 [.ref 45, .int (nI c), .double 0, .double 0, .double 0] [] (hpA K S T th fo) 0 0 _
  refine e_aload_n (pc := 0) d_M_step_0 rfl ?_
  refine e_iload_n (pc := 1) d_M_step_1 rfl ?_
  refine e_cV1 (pc := 2) s_M_step_2 (sM_core hc) rfl rfl rfl (Nat.le_of_ble_eq_true rfl) (Nat.le_of_ble_eq_true rfl) (Nat.le_of_ble_eq_true rfl) (zGo.v ?_)
  refine e_if_ne (pc := 5) (tgt := 10) d_M_step_5 (by decide) (fun _ => ?_) (fun zz => absurd zz (by decide))
  refine e_bipush (pc := 10) (v := 16) d_M_step_10 (by decide) ?_
  refine e_iload_n (pc := 12) d_M_step_12 rfl ?_
  refine e_imul (pc := 13) d_M_step_13 ?_
  refine e_aload_n (pc := 14) d_M_step_14 rfl ?_
  refine e_get (pc := 15) s_M_step_15 rfl rfl ?_
  refine e_iload_n (pc := 18) d_M_step_18 rfl ?_
  refine e_iald (pc := 19) d_M_step_19 rfl (vp_in_nI (by omega) (by decide)) ((fx1 (nI_clamp (by omega))).trans h5) ?_
  refine e_iadd (pc := 20) d_M_step_20 ?_
  refine e_topi (y := nI (16 * c + p)) (ixM 16 c p) ?_
  refine e_istore_n (pc := 21) d_M_step_21 (Nat.le_of_ble_eq_true rfl) ?_
  dsimp only [List.set]
  refine e_aload_n (pc := 22) d_M_step_22 rfl ?_
  refine e_get (pc := 23) s_M_step_23 rfl rfl ?_
  refine e_iload_n (pc := 26) d_M_step_26 rfl ?_
  refine e_iald (pc := 27) d_M_step_27 rfl (vp_in_nI (by omega) (by decide)) ((fx1 (nI_clamp (by omega))).trans h5) ?_
  refine e_aload_n (pc := 28) d_M_step_28 rfl ?_
  refine e_get (pc := 29) s_M_step_29 rfl rfl ?_
  refine e_iload_n (pc := 32) d_M_step_32 rfl ?_
  refine e_iald (pc := 33) d_M_step_33 rfl (vp_in_nI (by omega) (by decide)) ((fx1 (nI_clamp (by omega))).trans h1) ?_
  refine e_icmp_ge (pc := 34) (tgt := 48) d_M_step_34 (by decide) (fun zz => absurd zz (nI_ge hpq (by omega))) (fun _ => ?_)
  refine e_aload_n (pc := 37) d_M_step_37 rfl ?_
  refine e_get (pc := 38) s_M_step_38 rfl rfl ?_
  refine e_iload_n (pc := 41) d_M_step_41 rfl ?_
  refine e_iald (pc := 42) d_M_step_42 rfl (vp_in_nI (by omega) (by decide)) ((fx16 (nI_clamp (by omega)) hp).trans h2) ?_
  refine e_bipush (pc := 43) (v := 7) d_M_step_43 (by decide) ?_
  refine e_icmp_ne (pc := 45) (tgt := 50) d_M_step_45 (by decide) (fun zz => absurd (by decide) zz) (fun _ => ?_)
  refine e_iconst (pc := 48) (v := 2) d_M_step_48 (by decide) ?_
  exact e_iret (pc := 49) d_M_step_49 rfl rfl (Nat.le_of_ble_eq_true rfl) (Nat.le_of_ble_eq_true rfl) rfl
set_option maxHeartbeats 4000000 in
set_option maxRecDepth 100000 in
theorem sM_stepE {l : Launch} {G : zGP} {K : Nat} {S T : St} {th : Int32} {fo : Nat → Int64} {c p q : Nat} (hc : c < 3) (hp : p ≤ 16) (hq : q ≤ 16) (h5 : T 5 c 0 = nI p) (h1 : T 1 c 0 = nI q) (hpq : q ≤ p) : Rn l G m_M_step [.ref 45, .int (nI c)] (hpA K S T th fo) (.inl (some (.int 2)), (hpA K S T 0 fo)) := by
  refine Rn.of (by decide) rfl rfl (Nat.le_of_ble_eq_true rfl) rfl ?_
  show Ev l G m_M_step 0 [.ref 45, .int (nI c), .double 0, .double 0, .double 0] [] (hpA K S T th fo) 0 0 _
  refine e_aload_n (pc := 0) d_M_step_0 rfl ?_
  refine e_iload_n (pc := 1) d_M_step_1 rfl ?_
  refine e_cV1 (pc := 2) s_M_step_2 (sM_core hc) rfl rfl rfl (Nat.le_of_ble_eq_true rfl) (Nat.le_of_ble_eq_true rfl) (Nat.le_of_ble_eq_true rfl) (zGo.v ?_)
  refine e_if_ne (pc := 5) (tgt := 10) d_M_step_5 (by decide) (fun _ => ?_) (fun zz => absurd zz (by decide))
  refine e_bipush (pc := 10) (v := 16) d_M_step_10 (by decide) ?_
  refine e_iload_n (pc := 12) d_M_step_12 rfl ?_
  refine e_imul (pc := 13) d_M_step_13 ?_
  refine e_aload_n (pc := 14) d_M_step_14 rfl ?_
  refine e_get (pc := 15) s_M_step_15 rfl rfl ?_
  refine e_iload_n (pc := 18) d_M_step_18 rfl ?_
  refine e_iald (pc := 19) d_M_step_19 rfl (vp_in_nI (by omega) (by decide)) ((fx1 (nI_clamp (by omega))).trans h5) ?_
  refine e_iadd (pc := 20) d_M_step_20 ?_
  refine e_topi (y := nI (16 * c + p)) (ixM 16 c p) ?_
  refine e_istore_n (pc := 21) d_M_step_21 (Nat.le_of_ble_eq_true rfl) ?_
  dsimp only [List.set]
  refine e_aload_n (pc := 22) d_M_step_22 rfl ?_
  refine e_get (pc := 23) s_M_step_23 rfl rfl ?_
  refine e_iload_n (pc := 26) d_M_step_26 rfl ?_
  refine e_iald (pc := 27) d_M_step_27 rfl (vp_in_nI (by omega) (by decide)) ((fx1 (nI_clamp (by omega))).trans h5) ?_
  refine e_aload_n (pc := 28) d_M_step_28 rfl ?_
  refine e_get (pc := 29) s_M_step_29 rfl rfl ?_
  refine e_iload_n (pc := 32) d_M_step_32 rfl ?_
  refine e_iald (pc := 33) d_M_step_33 rfl (vp_in_nI (by omega) (by decide)) ((fx1 (nI_clamp (by omega))).trans h1) ?_
  refine e_icmp_ge (pc := 34) (tgt := 48) d_M_step_34 (by decide) (fun _ => ?_) (fun zz => absurd (nI_le hpq (by omega)) zz)
  refine e_iconst (pc := 48) (v := 2) d_M_step_48 (by decide) ?_
  exact e_iret (pc := 49) d_M_step_49 rfl rfl (Nat.le_of_ble_eq_true rfl) (Nat.le_of_ble_eq_true rfl) rfl
