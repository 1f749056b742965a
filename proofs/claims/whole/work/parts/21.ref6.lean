/-! ===== the reference: fill, poke, the reads ===== -/
theorem le7 {x : Int32} : x ≤ 7 ↔ x < 8 := by
  rw [Int32.lt_iff_toInt_lt, Int32.le_iff_toInt_le, show (7 : Int32).toInt = 7 by decide, show (8 : Int32).toInt = 8 by decide]; omega
theorem ln01 {i : Int32} (h : i = 0 ∨ i = 1) : 0 ≤ i ∧ i < 2 := by
  rcases h with rfl | rfl <;> decide
theorem flMe {T : St} {c k : Nat} {v : Int32} (h : flT T c k = v) : flM T c k = su (su (su (su (su T 10 c (k % 2) (nI k)) 11 c (k % 2) (T 15 c 0)) 9 c (k % 2) v) 12 c 0 0) 14 c 0 0 := by rw [flM, h]
set_option maxHeartbeats 4000000 in
set_option maxRecDepth 100000 in
theorem sM_fillN {l : Launch} {G : zGP} {K : Nat} {S T : St} {th : Int32} {fo : Nat → Int64} {c : Nat} (hc : c < 3) (h14 : T 14 c 0 = 0) : Rn l G m_M_fill [.ref 45, .int (nI c)] (hpA K S T th fo) (.inl (some (.int 3)), (hpA K S T 0 fo)) := by
  refine Rn.of (by decide) rfl rfl (Nat.le_of_ble_eq_true rfl) rfl ?_
  show Ev l G m_M_fill 0 [.ref 45, .int (nI c), .double 0, .double 0, .double 0] [] (hpA K S T th fo) 0 0 _
  refine e_aload_n (pc := 0) d_M_fill_0 rfl ?_
  refine e_iload_n (pc := 1) d_M_fill_1 rfl ?_
  refine e_cV1 (pc := 2) s_M_fill_2 (sM_core hc) rfl rfl rfl (Nat.le_of_ble_eq_true rfl) (Nat.le_of_ble_eq_true rfl) (Nat.le_of_ble_eq_true rfl) (zGo.v ?_)
  refine e_if_ne (pc := 5) (tgt := 10) d_M_fill_5 (by decide) (fun _ => ?_) (fun zz => absurd zz (by decide))
  refine e_aload_n (pc := 10) d_M_fill_10 rfl ?_
  refine e_get (pc := 11) s_M_fill_11 rfl rfl ?_
  refine e_iload_n (pc := 14) d_M_fill_14 rfl ?_
  refine e_zald (pc := 15) d_M_fill_15 rfl (vp_in_nI (by omega) (by decide)) ((fx1 (nI_clamp (by omega))).trans h14) ?_
  refine e_if_ne (pc := 16) (tgt := 21) d_M_fill_16 (by decide) (fun zz => absurd (rfl) zz) (fun _ => ?_)
  refine e_iconst (pc := 19) (v := 3) d_M_fill_19 (by decide) ?_
  exact e_iret (pc := 20) d_M_fill_20 rfl rfl (Nat.le_of_ble_eq_true rfl) (Nat.le_of_ble_eq_true rfl) rfl
set_option maxHeartbeats 4000000 in
set_option maxRecDepth 100000 in
theorem sM_fill0 {l : Launch} {G : zGP} {K : Nat} {S T : St} {th : Int32} {fo : Nat → Int64} {k : Nat} (hk : k < 8) (h14 : ¬ T 14 0 0 = 0) (h13 : T 13 0 0 = nI k) : Rn l G m_M_fill [.ref 45, .int (nI 0)] (hpA K S T th fo) (.inl (some (.int 1)), (hpA K S (flM T 0 k) 0 fo)) := by
  refine Rn.of (by decide) rfl rfl (Nat.le_of_ble_eq_true rfl) rfl ?_
  show Ev l G m_M_fill 0 [.ref 45, .int (nI 0), .double 0, .double 0, .double 0] [] (hpA K S T th fo) 0 0 _
  refine e_aload_n (pc := 0) d_M_fill_0 rfl ?_
  refine e_iload_n (pc := 1) d_M_fill_1 rfl ?_
  refine e_cV1 (pc := 2) s_M_fill_2 (sM_core (c := 0) (by decide)) rfl rfl rfl (Nat.le_of_ble_eq_true rfl) (Nat.le_of_ble_eq_true rfl) (Nat.le_of_ble_eq_true rfl) (zGo.v ?_)
  refine e_if_ne (pc := 5) (tgt := 10) d_M_fill_5 (by decide) (fun _ => ?_) (fun zz => absurd zz (by decide))
  refine e_aload_n (pc := 10) d_M_fill_10 rfl ?_
  refine e_get (pc := 11) s_M_fill_11 rfl rfl ?_
  refine e_iload_n (pc := 14) d_M_fill_14 rfl ?_
  refine e_zald (pc := 15) d_M_fill_15 rfl (vp_dec (by decide)) (fx1 (c := 0) (by decide)) ?_
  refine e_if_ne (pc := 16) (tgt := 21) d_M_fill_16 (by decide) (fun _ => ?_) (fun zz => absurd zz (h14))
  refine e_aload_n (pc := 21) d_M_fill_21 rfl ?_
  refine e_get (pc := 22) s_M_fill_22 rfl rfl ?_
  refine e_iload_n (pc := 25) d_M_fill_25 rfl ?_
  refine e_iald (pc := 26) d_M_fill_26 rfl (vp_dec (by decide)) ((fx1 (c := 0) (by decide)).trans h13) ?_
  refine e_istore_n (pc := 27) d_M_fill_27 (Nat.le_of_ble_eq_true rfl) ?_
  dsimp only [List.set]
  refine e_iconst (pc := 28) (v := 1) d_M_fill_28 (by decide) ?_
  refine e_istore_n (pc := 29) d_M_fill_29 (Nat.le_of_ble_eq_true rfl) ?_
  dsimp only [List.set]
  refine e_iconst (pc := 30) (v := 0) d_M_fill_30 (by decide) ?_
  refine e_istore (pc := 31) d_M_fill_31 (Nat.le_of_ble_eq_true rfl) ?_
  dsimp only [List.set]
  refine e_iload (pc := 33) d_M_fill_33 rfl ?_
  refine e_iconst (pc := 35) (v := 3) d_M_fill_35 (by decide) ?_
  refine e_icmp_ge (pc := 36) (tgt := 71) d_M_fill_36 (by decide) (fun zz => absurd zz (by decide)) (fun _ => ?_)
  refine e_iload_n (pc := 39) d_M_fill_39 rfl ?_
  refine e_if_eq (pc := 40) (tgt := 63) d_M_fill_40 (by decide) (fun zz => absurd zz (by decide)) (fun _ => ?_)
  refine e_iload (pc := 43) d_M_fill_43 rfl ?_
  refine e_iload_n (pc := 45) d_M_fill_45 rfl ?_
  refine e_icmp_eq (pc := 46) (tgt := 59) d_M_fill_46 (by decide) (fun _ => ?_) (fun zz => absurd (by decide) zz)
  refine e_iconst (pc := 59) (v := 1) d_M_fill_59 (by decide) ?_
  refine e_goto (pc := 60) (tgt := 64) d_M_fill_60 (by decide) ?_
  refine e_istore_n (pc := 64) d_M_fill_64 (Nat.le_of_ble_eq_true rfl) ?_
  dsimp only [List.set]
  refine e_iinc (pc := 65) d_M_fill_65 rfl (Nat.le_of_ble_eq_true rfl) ?_
  dsimp only [List.set]
  refine e_goto (pc := 68) (tgt := 33) d_M_fill_68 (by decide) ?_
  refine e_iload (pc := 33) d_M_fill_33 rfl ?_
  refine e_iconst (pc := 35) (v := 3) d_M_fill_35 (by decide) ?_
  refine e_icmp_ge (pc := 36) (tgt := 71) d_M_fill_36 (by decide) (fun zz => absurd zz (by decide)) (fun _ => ?_)
  refine e_iload_n (pc := 39) d_M_fill_39 rfl ?_
  refine e_if_eq (pc := 40) (tgt := 63) d_M_fill_40 (by decide) (fun zz => absurd zz (by decide)) (fun _ => ?_)
  refine e_iload (pc := 43) d_M_fill_43 rfl ?_
  refine e_iload_n (pc := 45) d_M_fill_45 rfl ?_
  refine e_icmp_eq (pc := 46) (tgt := 59) d_M_fill_46 (by decide) (fun zz => absurd zz (by decide)) (fun _ => ?_)
  refine e_aload_n (pc := 49) d_M_fill_49 rfl ?_
  refine e_iload (pc := 50) d_M_fill_50 rfl ?_
  refine e_topi (y := nI 1) (by decide) ?_
  refine e_iload_n (pc := 52) d_M_fill_52 rfl ?_
  refine e_cV2 (pc := 53) s_M_fill_53 (sM_has (c := 1) (by decide) hk) rfl rfl rfl (Nat.le_of_ble_eq_true rfl) (Nat.le_of_ble_eq_true rfl) (Nat.le_of_ble_eq_true rfl) (zGo.v ?_)
  refine e_if_ne (pc := 56) (tgt := 63) d_M_fill_56 (by decide) (fun hz1 => ?_) (fun hz1 => ?_)
  · replace hz1 := b1.mp hz1
    refine e_iconst (pc := 63) (v := 0) d_M_fill_63 (by decide) ?_
    refine e_istore_n (pc := 64) d_M_fill_64 (Nat.le_of_ble_eq_true rfl) ?_
    dsimp only [List.set]
    refine e_iinc (pc := 65) d_M_fill_65 rfl (Nat.le_of_ble_eq_true rfl) ?_
    dsimp only [List.set]
    refine e_goto (pc := 68) (tgt := 33) d_M_fill_68 (by decide) ?_
    refine e_iload (pc := 33) d_M_fill_33 rfl ?_
    refine e_iconst (pc := 35) (v := 3) d_M_fill_35 (by decide) ?_
    refine e_icmp_ge (pc := 36) (tgt := 71) d_M_fill_36 (by decide) (fun zz => absurd zz (by decide)) (fun _ => ?_)
    refine e_iload_n (pc := 39) d_M_fill_39 rfl ?_
    refine e_if_eq (pc := 40) (tgt := 63) d_M_fill_40 (by decide) (fun _ => ?_) (fun zz => absurd (by decide) zz)
    refine e_iconst (pc := 63) (v := 0) d_M_fill_63 (by decide) ?_
    refine e_istore_n (pc := 64) d_M_fill_64 (Nat.le_of_ble_eq_true rfl) ?_
    dsimp only [List.set]
    refine e_iinc (pc := 65) d_M_fill_65 rfl (Nat.le_of_ble_eq_true rfl) ?_
    dsimp only [List.set]
    refine e_goto (pc := 68) (tgt := 33) d_M_fill_68 (by decide) ?_
    refine e_iload (pc := 33) d_M_fill_33 rfl ?_
    refine e_iconst (pc := 35) (v := 3) d_M_fill_35 (by decide) ?_
    refine e_icmp_ge (pc := 36) (tgt := 71) d_M_fill_36 (by decide) (fun _ => ?_) (fun zz => absurd (by decide) zz)
    refine e_aload_n (pc := 71) d_M_fill_71 rfl ?_
    refine e_iload_n (pc := 72) d_M_fill_72 rfl ?_
    refine e_iload_n (pc := 73) d_M_fill_73 rfl ?_
    refine e_cV2 (pc := 74) s_M_fill_74 (sM_lineOf (c := 0) (by decide) hk) rfl rfl rfl (Nat.le_of_ble_eq_true rfl) (Nat.le_of_ble_eq_true rfl) (Nat.le_of_ble_eq_true rfl) (zGo.v ?_)
    refine e_istore (pc := 77) d_M_fill_77 (Nat.le_of_ble_eq_true rfl) ?_
    dsimp only [List.set]
    refine e_aload_n (pc := 79) d_M_fill_79 rfl ?_
    refine e_get (pc := 80) s_M_fill_80 rfl rfl ?_
    refine e_iload (pc := 83) d_M_fill_83 rfl ?_
    refine e_iload_n (pc := 85) d_M_fill_85 rfl ?_
    refine e_iast (pc := 86) d_M_fill_86 rfl (vp_in_nI (by omega) (by decide)) (vTg (c := 0) (nI_clamp (by omega)) (Nat.mod_lt _ (by decide))) ?_
    refine e_aload_n (pc := 87) d_M_fill_87 rfl ?_
    refine e_get (pc := 88) s_M_fill_88 rfl rfl ?_
    refine e_iload (pc := 91) d_M_fill_91 rfl ?_
    refine e_aload_n (pc := 93) d_M_fill_93 rfl ?_
    refine e_get (pc := 94) s_M_fill_94 rfl rfl ?_
    refine e_iload_n (pc := 97) d_M_fill_97 rfl ?_
    refine e_iald (pc := 98) d_M_fill_98 rfl (vp_dec (by decide)) ((fx1 (c := 0) (by decide)).trans (by rw [su_o _ _ (by decide)] : _ = T 15 0 0)) ?_
    refine e_iast (pc := 99) d_M_fill_99 rfl (vp_in_nI (by omega) (by decide)) (vVl (c := 0) (nI_clamp (by omega)) (Nat.mod_lt _ (by decide))) ?_
    refine e_aload_n (pc := 100) d_M_fill_100 rfl ?_
    refine e_get (pc := 101) s_M_fill_101 rfl rfl ?_
    refine e_iload (pc := 104) d_M_fill_104 rfl ?_
    refine e_aload_n (pc := 106) d_M_fill_106 rfl ?_
    refine e_get (pc := 107) s_M_fill_107 rfl rfl ?_
    refine e_iload_n (pc := 110) d_M_fill_110 rfl ?_
    refine e_iald (pc := 111) d_M_fill_111 rfl (vp_dec (by decide)) ((fx1 (c := 0) (by decide)).trans (by rw [su_o _ _ (by decide), su_o _ _ (by decide)] : _ = T 12 0 0)) ?_
    refine e_iconst (pc := 112) (v := 2) d_M_fill_112 (by decide) ?_
    refine e_icmp_eq (pc := 113) (tgt := 120) d_M_fill_113 (by decide) (fun hz2 => ?_) (fun hz2 => ?_)
    · refine e_iconst (pc := 120) (v := 2) d_M_fill_120 (by decide) ?_
      refine e_goto (pc := 121) (tgt := 125) d_M_fill_121 (by decide) ?_
      refine e_iast (pc := 125) d_M_fill_125 rfl (vp_in_nI (by omega) (by decide)) (vSt (c := 0) (nI_clamp (by omega)) (Nat.mod_lt _ (by decide))) ?_
      refine e_aload_n (pc := 126) d_M_fill_126 rfl ?_
      refine e_get (pc := 127) s_M_fill_127 rfl rfl ?_
      refine e_iload_n (pc := 130) d_M_fill_130 rfl ?_
      refine e_iconst (pc := 131) (v := 0) d_M_fill_131 (by decide) ?_
      refine e_iast (pc := 132) d_M_fill_132 rfl (vp_dec (by decide)) (vWk (c := 0) (by decide)) ?_
      refine e_aload_n (pc := 133) d_M_fill_133 rfl ?_
      refine e_get (pc := 134) s_M_fill_134 rfl rfl ?_
      refine e_iload_n (pc := 137) d_M_fill_137 rfl ?_
      refine e_iconst (pc := 138) (v := 0) d_M_fill_138 (by decide) ?_
      refine e_zast (pc := 139) d_M_fill_139 rfl (vp_dec (by decide)) (Or.inl rfl) (vWf (c := 0) (by decide)) ?_
      refine e_iconst (pc := 140) (v := 1) d_M_fill_140 (by decide) ?_
      exact e_iret (pc := 141) d_M_fill_141 rfl rfl (Nat.le_of_ble_eq_true rfl) (Nat.le_of_ble_eq_true rfl) (zN2 (flMe (by simp [flT, hz1, hz2])))
    · refine e_iload_n (pc := 116) d_M_fill_116 rfl ?_
      refine e_if_eq (pc := 117) (tgt := 124) d_M_fill_117 (by decide) (fun _ => ?_) (fun zz => absurd (by decide) zz)
      refine e_iconst (pc := 124) (v := 1) d_M_fill_124 (by decide) ?_
      refine e_iast (pc := 125) d_M_fill_125 rfl (vp_in_nI (by omega) (by decide)) (vSt (c := 0) (nI_clamp (by omega)) (Nat.mod_lt _ (by decide))) ?_
      refine e_aload_n (pc := 126) d_M_fill_126 rfl ?_
      refine e_get (pc := 127) s_M_fill_127 rfl rfl ?_
      refine e_iload_n (pc := 130) d_M_fill_130 rfl ?_
      refine e_iconst (pc := 131) (v := 0) d_M_fill_131 (by decide) ?_
      refine e_iast (pc := 132) d_M_fill_132 rfl (vp_dec (by decide)) (vWk (c := 0) (by decide)) ?_
      refine e_aload_n (pc := 133) d_M_fill_133 rfl ?_
      refine e_get (pc := 134) s_M_fill_134 rfl rfl ?_
      refine e_iload_n (pc := 137) d_M_fill_137 rfl ?_
      refine e_iconst (pc := 138) (v := 0) d_M_fill_138 (by decide) ?_
      refine e_zast (pc := 139) d_M_fill_139 rfl (vp_dec (by decide)) (Or.inl rfl) (vWf (c := 0) (by decide)) ?_
      refine e_iconst (pc := 140) (v := 1) d_M_fill_140 (by decide) ?_
      exact e_iret (pc := 141) d_M_fill_141 rfl rfl (Nat.le_of_ble_eq_true rfl) (Nat.le_of_ble_eq_true rfl) (zN2 (flMe (by simp [flT, hz1, hz2])))
  · replace hz1 := b0.mp hz1
    refine e_iconst (pc := 59) (v := 1) d_M_fill_59 (by decide) ?_
    refine e_goto (pc := 60) (tgt := 64) d_M_fill_60 (by decide) ?_
    refine e_istore_n (pc := 64) d_M_fill_64 (Nat.le_of_ble_eq_true rfl) ?_
    dsimp only [List.set]
    refine e_iinc (pc := 65) d_M_fill_65 rfl (Nat.le_of_ble_eq_true rfl) ?_
    dsimp only [List.set]
    refine e_goto (pc := 68) (tgt := 33) d_M_fill_68 (by decide) ?_
    refine e_iload (pc := 33) d_M_fill_33 rfl ?_
    refine e_iconst (pc := 35) (v := 3) d_M_fill_35 (by decide) ?_
    refine e_icmp_ge (pc := 36) (tgt := 71) d_M_fill_36 (by decide) (fun zz => absurd zz (by decide)) (fun _ => ?_)
    refine e_iload_n (pc := 39) d_M_fill_39 rfl ?_
    refine e_if_eq (pc := 40) (tgt := 63) d_M_fill_40 (by decide) (fun zz => absurd zz (by decide)) (fun _ => ?_)
    refine e_iload (pc := 43) d_M_fill_43 rfl ?_
    refine e_iload_n (pc := 45) d_M_fill_45 rfl ?_
    refine e_icmp_eq (pc := 46) (tgt := 59) d_M_fill_46 (by decide) (fun zz => absurd zz (by decide)) (fun _ => ?_)
    refine e_aload_n (pc := 49) d_M_fill_49 rfl ?_
    refine e_iload (pc := 50) d_M_fill_50 rfl ?_
    refine e_topi (y := nI 2) (by decide) ?_
    refine e_iload_n (pc := 52) d_M_fill_52 rfl ?_
    refine e_cV2 (pc := 53) s_M_fill_53 (sM_has (c := 2) (by decide) hk) rfl rfl rfl (Nat.le_of_ble_eq_true rfl) (Nat.le_of_ble_eq_true rfl) (Nat.le_of_ble_eq_true rfl) (zGo.v ?_)
    refine e_if_ne (pc := 56) (tgt := 63) d_M_fill_56 (by decide) (fun hz3 => ?_) (fun hz3 => ?_)
    · replace hz3 := b1.mp hz3
      refine e_iconst (pc := 63) (v := 0) d_M_fill_63 (by decide) ?_
      refine e_istore_n (pc := 64) d_M_fill_64 (Nat.le_of_ble_eq_true rfl) ?_
      dsimp only [List.set]
      refine e_iinc (pc := 65) d_M_fill_65 rfl (Nat.le_of_ble_eq_true rfl) ?_
      dsimp only [List.set]
      refine e_goto (pc := 68) (tgt := 33) d_M_fill_68 (by decide) ?_
      refine e_iload (pc := 33) d_M_fill_33 rfl ?_
      refine e_iconst (pc := 35) (v := 3) d_M_fill_35 (by decide) ?_
      refine e_icmp_ge (pc := 36) (tgt := 71) d_M_fill_36 (by decide) (fun _ => ?_) (fun zz => absurd (by decide) zz)
      refine e_aload_n (pc := 71) d_M_fill_71 rfl ?_
      refine e_iload_n (pc := 72) d_M_fill_72 rfl ?_
      refine e_iload_n (pc := 73) d_M_fill_73 rfl ?_
      refine e_cV2 (pc := 74) s_M_fill_74 (sM_lineOf (c := 0) (by decide) hk) rfl rfl rfl (Nat.le_of_ble_eq_true rfl) (Nat.le_of_ble_eq_true rfl) (Nat.le_of_ble_eq_true rfl) (zGo.v ?_)
      refine e_istore (pc := 77) d_M_fill_77 (Nat.le_of_ble_eq_true rfl) ?_
      dsimp only [List.set]
      refine e_aload_n (pc := 79) d_M_fill_79 rfl ?_
      refine e_get (pc := 80) s_M_fill_80 rfl rfl ?_
      refine e_iload (pc := 83) d_M_fill_83 rfl ?_
      refine e_iload_n (pc := 85) d_M_fill_85 rfl ?_
      refine e_iast (pc := 86) d_M_fill_86 rfl (vp_in_nI (by omega) (by decide)) (vTg (c := 0) (nI_clamp (by omega)) (Nat.mod_lt _ (by decide))) ?_
      refine e_aload_n (pc := 87) d_M_fill_87 rfl ?_
      refine e_get (pc := 88) s_M_fill_88 rfl rfl ?_
      refine e_iload (pc := 91) d_M_fill_91 rfl ?_
      refine e_aload_n (pc := 93) d_M_fill_93 rfl ?_
      refine e_get (pc := 94) s_M_fill_94 rfl rfl ?_
      refine e_iload_n (pc := 97) d_M_fill_97 rfl ?_
      refine e_iald (pc := 98) d_M_fill_98 rfl (vp_dec (by decide)) ((fx1 (c := 0) (by decide)).trans (by rw [su_o _ _ (by decide)] : _ = T 15 0 0)) ?_
      refine e_iast (pc := 99) d_M_fill_99 rfl (vp_in_nI (by omega) (by decide)) (vVl (c := 0) (nI_clamp (by omega)) (Nat.mod_lt _ (by decide))) ?_
      refine e_aload_n (pc := 100) d_M_fill_100 rfl ?_
      refine e_get (pc := 101) s_M_fill_101 rfl rfl ?_
      refine e_iload (pc := 104) d_M_fill_104 rfl ?_
      refine e_aload_n (pc := 106) d_M_fill_106 rfl ?_
      refine e_get (pc := 107) s_M_fill_107 rfl rfl ?_
      refine e_iload_n (pc := 110) d_M_fill_110 rfl ?_
      refine e_iald (pc := 111) d_M_fill_111 rfl (vp_dec (by decide)) ((fx1 (c := 0) (by decide)).trans (by rw [su_o _ _ (by decide), su_o _ _ (by decide)] : _ = T 12 0 0)) ?_
      refine e_iconst (pc := 112) (v := 2) d_M_fill_112 (by decide) ?_
      refine e_icmp_eq (pc := 113) (tgt := 120) d_M_fill_113 (by decide) (fun hz4 => ?_) (fun hz4 => ?_)
      · refine e_iconst (pc := 120) (v := 2) d_M_fill_120 (by decide) ?_
        refine e_goto (pc := 121) (tgt := 125) d_M_fill_121 (by decide) ?_
        refine e_iast (pc := 125) d_M_fill_125 rfl (vp_in_nI (by omega) (by decide)) (vSt (c := 0) (nI_clamp (by omega)) (Nat.mod_lt _ (by decide))) ?_
        refine e_aload_n (pc := 126) d_M_fill_126 rfl ?_
        refine e_get (pc := 127) s_M_fill_127 rfl rfl ?_
        refine e_iload_n (pc := 130) d_M_fill_130 rfl ?_
        refine e_iconst (pc := 131) (v := 0) d_M_fill_131 (by decide) ?_
        refine e_iast (pc := 132) d_M_fill_132 rfl (vp_dec (by decide)) (vWk (c := 0) (by decide)) ?_
        refine e_aload_n (pc := 133) d_M_fill_133 rfl ?_
        refine e_get (pc := 134) s_M_fill_134 rfl rfl ?_
        refine e_iload_n (pc := 137) d_M_fill_137 rfl ?_
        refine e_iconst (pc := 138) (v := 0) d_M_fill_138 (by decide) ?_
        refine e_zast (pc := 139) d_M_fill_139 rfl (vp_dec (by decide)) (Or.inl rfl) (vWf (c := 0) (by decide)) ?_
        refine e_iconst (pc := 140) (v := 1) d_M_fill_140 (by decide) ?_
        exact e_iret (pc := 141) d_M_fill_141 rfl rfl (Nat.le_of_ble_eq_true rfl) (Nat.le_of_ble_eq_true rfl) (zN2 (flMe (by simp [flT, hz1, hz3, hz4])))
      · refine e_iload_n (pc := 116) d_M_fill_116 rfl ?_
        refine e_if_eq (pc := 117) (tgt := 124) d_M_fill_117 (by decide) (fun _ => ?_) (fun zz => absurd (by decide) zz)
        refine e_iconst (pc := 124) (v := 1) d_M_fill_124 (by decide) ?_
        refine e_iast (pc := 125) d_M_fill_125 rfl (vp_in_nI (by omega) (by decide)) (vSt (c := 0) (nI_clamp (by omega)) (Nat.mod_lt _ (by decide))) ?_
        refine e_aload_n (pc := 126) d_M_fill_126 rfl ?_
        refine e_get (pc := 127) s_M_fill_127 rfl rfl ?_
        refine e_iload_n (pc := 130) d_M_fill_130 rfl ?_
        refine e_iconst (pc := 131) (v := 0) d_M_fill_131 (by decide) ?_
        refine e_iast (pc := 132) d_M_fill_132 rfl (vp_dec (by decide)) (vWk (c := 0) (by decide)) ?_
        refine e_aload_n (pc := 133) d_M_fill_133 rfl ?_
        refine e_get (pc := 134) s_M_fill_134 rfl rfl ?_
        refine e_iload_n (pc := 137) d_M_fill_137 rfl ?_
        refine e_iconst (pc := 138) (v := 0) d_M_fill_138 (by decide) ?_
        refine e_zast (pc := 139) d_M_fill_139 rfl (vp_dec (by decide)) (Or.inl rfl) (vWf (c := 0) (by decide)) ?_
        refine e_iconst (pc := 140) (v := 1) d_M_fill_140 (by decide) ?_
        exact e_iret (pc := 141) d_M_fill_141 rfl rfl (Nat.le_of_ble_eq_true rfl) (Nat.le_of_ble_eq_true rfl) (zN2 (flMe (by simp [flT, hz1, hz3, hz4])))
    · replace hz3 := b0.mp hz3
      refine e_iconst (pc := 59) (v := 1) d_M_fill_59 (by decide) ?_
      refine e_goto (pc := 60) (tgt := 64) d_M_fill_60 (by decide) ?_
      refine e_istore_n (pc := 64) d_M_fill_64 (Nat.le_of_ble_eq_true rfl) ?_
      dsimp only [List.set]
      refine e_iinc (pc := 65) d_M_fill_65 rfl (Nat.le_of_ble_eq_true rfl) ?_
      dsimp only [List.set]
      refine e_goto (pc := 68) (tgt := 33) d_M_fill_68 (by decide) ?_
      refine e_iload (pc := 33) d_M_fill_33 rfl ?_
      refine e_iconst (pc := 35) (v := 3) d_M_fill_35 (by decide) ?_
      refine e_icmp_ge (pc := 36) (tgt := 71) d_M_fill_36 (by decide) (fun _ => ?_) (fun zz => absurd (by decide) zz)
      refine e_aload_n (pc := 71) d_M_fill_71 rfl ?_
      refine e_iload_n (pc := 72) d_M_fill_72 rfl ?_
      refine e_iload_n (pc := 73) d_M_fill_73 rfl ?_
      refine e_cV2 (pc := 74) s_M_fill_74 (sM_lineOf (c := 0) (by decide) hk) rfl rfl rfl (Nat.le_of_ble_eq_true rfl) (Nat.le_of_ble_eq_true rfl) (Nat.le_of_ble_eq_true rfl) (zGo.v ?_)
      refine e_istore (pc := 77) d_M_fill_77 (Nat.le_of_ble_eq_true rfl) ?_
      dsimp only [List.set]
      refine e_aload_n (pc := 79) d_M_fill_79 rfl ?_
      refine e_get (pc := 80) s_M_fill_80 rfl rfl ?_
      refine e_iload (pc := 83) d_M_fill_83 rfl ?_
      refine e_iload_n (pc := 85) d_M_fill_85 rfl ?_
      refine e_iast (pc := 86) d_M_fill_86 rfl (vp_in_nI (by omega) (by decide)) (vTg (c := 0) (nI_clamp (by omega)) (Nat.mod_lt _ (by decide))) ?_
      refine e_aload_n (pc := 87) d_M_fill_87 rfl ?_
      refine e_get (pc := 88) s_M_fill_88 rfl rfl ?_
      refine e_iload (pc := 91) d_M_fill_91 rfl ?_
      refine e_aload_n (pc := 93) d_M_fill_93 rfl ?_
      refine e_get (pc := 94) s_M_fill_94 rfl rfl ?_
      refine e_iload_n (pc := 97) d_M_fill_97 rfl ?_
      refine e_iald (pc := 98) d_M_fill_98 rfl (vp_dec (by decide)) ((fx1 (c := 0) (by decide)).trans (by rw [su_o _ _ (by decide)] : _ = T 15 0 0)) ?_
      refine e_iast (pc := 99) d_M_fill_99 rfl (vp_in_nI (by omega) (by decide)) (vVl (c := 0) (nI_clamp (by omega)) (Nat.mod_lt _ (by decide))) ?_
      refine e_aload_n (pc := 100) d_M_fill_100 rfl ?_
      refine e_get (pc := 101) s_M_fill_101 rfl rfl ?_
      refine e_iload (pc := 104) d_M_fill_104 rfl ?_
      refine e_aload_n (pc := 106) d_M_fill_106 rfl ?_
      refine e_get (pc := 107) s_M_fill_107 rfl rfl ?_
      refine e_iload_n (pc := 110) d_M_fill_110 rfl ?_
      refine e_iald (pc := 111) d_M_fill_111 rfl (vp_dec (by decide)) ((fx1 (c := 0) (by decide)).trans (by rw [su_o _ _ (by decide), su_o _ _ (by decide)] : _ = T 12 0 0)) ?_
      refine e_iconst (pc := 112) (v := 2) d_M_fill_112 (by decide) ?_
      refine e_icmp_eq (pc := 113) (tgt := 120) d_M_fill_113 (by decide) (fun hz5 => ?_) (fun hz5 => ?_)
      · refine e_iconst (pc := 120) (v := 2) d_M_fill_120 (by decide) ?_
        refine e_goto (pc := 121) (tgt := 125) d_M_fill_121 (by decide) ?_
        refine e_iast (pc := 125) d_M_fill_125 rfl (vp_in_nI (by omega) (by decide)) (vSt (c := 0) (nI_clamp (by omega)) (Nat.mod_lt _ (by decide))) ?_
        refine e_aload_n (pc := 126) d_M_fill_126 rfl ?_
        refine e_get (pc := 127) s_M_fill_127 rfl rfl ?_
        refine e_iload_n (pc := 130) d_M_fill_130 rfl ?_
        refine e_iconst (pc := 131) (v := 0) d_M_fill_131 (by decide) ?_
        refine e_iast (pc := 132) d_M_fill_132 rfl (vp_dec (by decide)) (vWk (c := 0) (by decide)) ?_
        refine e_aload_n (pc := 133) d_M_fill_133 rfl ?_
        refine e_get (pc := 134) s_M_fill_134 rfl rfl ?_
        refine e_iload_n (pc := 137) d_M_fill_137 rfl ?_
        refine e_iconst (pc := 138) (v := 0) d_M_fill_138 (by decide) ?_
        refine e_zast (pc := 139) d_M_fill_139 rfl (vp_dec (by decide)) (Or.inl rfl) (vWf (c := 0) (by decide)) ?_
        refine e_iconst (pc := 140) (v := 1) d_M_fill_140 (by decide) ?_
        exact e_iret (pc := 141) d_M_fill_141 rfl rfl (Nat.le_of_ble_eq_true rfl) (Nat.le_of_ble_eq_true rfl) (zN2 (flMe (by simp [flT, hz1, hz3, hz5])))
      · refine e_iload_n (pc := 116) d_M_fill_116 rfl ?_
        refine e_if_eq (pc := 117) (tgt := 124) d_M_fill_117 (by decide) (fun zz => absurd zz (by decide)) (fun _ => ?_)
        refine e_iconst (pc := 120) (v := 2) d_M_fill_120 (by decide) ?_
        refine e_goto (pc := 121) (tgt := 125) d_M_fill_121 (by decide) ?_
        refine e_iast (pc := 125) d_M_fill_125 rfl (vp_in_nI (by omega) (by decide)) (vSt (c := 0) (nI_clamp (by omega)) (Nat.mod_lt _ (by decide))) ?_
        refine e_aload_n (pc := 126) d_M_fill_126 rfl ?_
        refine e_get (pc := 127) s_M_fill_127 rfl rfl ?_
        refine e_iload_n (pc := 130) d_M_fill_130 rfl ?_
        refine e_iconst (pc := 131) (v := 0) d_M_fill_131 (by decide) ?_
        refine e_iast (pc := 132) d_M_fill_132 rfl (vp_dec (by decide)) (vWk (c := 0) (by decide)) ?_
        refine e_aload_n (pc := 133) d_M_fill_133 rfl ?_
        refine e_get (pc := 134) s_M_fill_134 rfl rfl ?_
        refine e_iload_n (pc := 137) d_M_fill_137 rfl ?_
        refine e_iconst (pc := 138) (v := 0) d_M_fill_138 (by decide) ?_
        refine e_zast (pc := 139) d_M_fill_139 rfl (vp_dec (by decide)) (Or.inl rfl) (vWf (c := 0) (by decide)) ?_
        refine e_iconst (pc := 140) (v := 1) d_M_fill_140 (by decide) ?_
        exact e_iret (pc := 141) d_M_fill_141 rfl rfl (Nat.le_of_ble_eq_true rfl) (Nat.le_of_ble_eq_true rfl) (zN2 (flMe (by simp [flT, hz1, hz3, hz5])))
set_option maxHeartbeats 4000000 in
set_option maxRecDepth 100000 in
theorem sM_fill1 {l : Launch} {G : zGP} {K : Nat} {S T : St} {th : Int32} {fo : Nat → Int64} {k : Nat} (hk : k < 8) (h14 : ¬ T 14 1 0 = 0) (h13 : T 13 1 0 = nI k) : Rn l G m_M_fill [.ref 45, .int (nI 1)] (hpA K S T th fo) (.inl (some (.int 1)), (hpA K S (flM T 1 k) 0 fo)) := by
  refine Rn.of (by decide) rfl rfl (Nat.le_of_ble_eq_true rfl) rfl ?_
  show Ev l G m_M_fill 0 [.ref 45, .int (nI 1), .double 0, .double 0, .double 0] [] (hpA K S T th fo) 0 0 _
  refine e_aload_n (pc := 0) d_M_fill_0 rfl ?_
  refine e_iload_n (pc := 1) d_M_fill_1 rfl ?_
  refine e_cV1 (pc := 2) s_M_fill_2 (sM_core (c := 1) (by decide)) rfl rfl rfl (Nat.le_of_ble_eq_true rfl) (Nat.le_of_ble_eq_true rfl) (Nat.le_of_ble_eq_true rfl) (zGo.v ?_)
  refine e_if_ne (pc := 5) (tgt := 10) d_M_fill_5 (by decide) (fun _ => ?_) (fun zz => absurd zz (by decide))
  refine e_aload_n (pc := 10) d_M_fill_10 rfl ?_
  refine e_get (pc := 11) s_M_fill_11 rfl rfl ?_
  refine e_iload_n (pc := 14) d_M_fill_14 rfl ?_
  refine e_zald (pc := 15) d_M_fill_15 rfl (vp_dec (by decide)) (fx1 (c := 1) (by decide)) ?_
  refine e_if_ne (pc := 16) (tgt := 21) d_M_fill_16 (by decide) (fun _ => ?_) (fun zz => absurd zz (h14))
  refine e_aload_n (pc := 21) d_M_fill_21 rfl ?_
  refine e_get (pc := 22) s_M_fill_22 rfl rfl ?_
  refine e_iload_n (pc := 25) d_M_fill_25 rfl ?_
  refine e_iald (pc := 26) d_M_fill_26 rfl (vp_dec (by decide)) ((fx1 (c := 1) (by decide)).trans h13) ?_
  refine e_istore_n (pc := 27) d_M_fill_27 (Nat.le_of_ble_eq_true rfl) ?_
  dsimp only [List.set]
  refine e_iconst (pc := 28) (v := 1) d_M_fill_28 (by decide) ?_
  refine e_istore_n (pc := 29) d_M_fill_29 (Nat.le_of_ble_eq_true rfl) ?_
  dsimp only [List.set]
  refine e_iconst (pc := 30) (v := 0) d_M_fill_30 (by decide) ?_
  refine e_istore (pc := 31) d_M_fill_31 (Nat.le_of_ble_eq_true rfl) ?_
  dsimp only [List.set]
  refine e_iload (pc := 33) d_M_fill_33 rfl ?_
  refine e_iconst (pc := 35) (v := 3) d_M_fill_35 (by decide) ?_
  refine e_icmp_ge (pc := 36) (tgt := 71) d_M_fill_36 (by decide) (fun zz => absurd zz (by decide)) (fun _ => ?_)
  refine e_iload_n (pc := 39) d_M_fill_39 rfl ?_
  refine e_if_eq (pc := 40) (tgt := 63) d_M_fill_40 (by decide) (fun zz => absurd zz (by decide)) (fun _ => ?_)
  refine e_iload (pc := 43) d_M_fill_43 rfl ?_
  refine e_iload_n (pc := 45) d_M_fill_45 rfl ?_
  refine e_icmp_eq (pc := 46) (tgt := 59) d_M_fill_46 (by decide) (fun zz => absurd zz (by decide)) (fun _ => ?_)
  refine e_aload_n (pc := 49) d_M_fill_49 rfl ?_
  refine e_iload (pc := 50) d_M_fill_50 rfl ?_
  refine e_topi (y := nI 0) (by decide) ?_
  refine e_iload_n (pc := 52) d_M_fill_52 rfl ?_
  refine e_cV2 (pc := 53) s_M_fill_53 (sM_has (c := 0) (by decide) hk) rfl rfl rfl (Nat.le_of_ble_eq_true rfl) (Nat.le_of_ble_eq_true rfl) (Nat.le_of_ble_eq_true rfl) (zGo.v ?_)
  refine e_if_ne (pc := 56) (tgt := 63) d_M_fill_56 (by decide) (fun hz6 => ?_) (fun hz6 => ?_)
  · replace hz6 := b1.mp hz6
    refine e_iconst (pc := 63) (v := 0) d_M_fill_63 (by decide) ?_
    refine e_istore_n (pc := 64) d_M_fill_64 (Nat.le_of_ble_eq_true rfl) ?_
    dsimp only [List.set]
    refine e_iinc (pc := 65) d_M_fill_65 rfl (Nat.le_of_ble_eq_true rfl) ?_
    dsimp only [List.set]
    refine e_goto (pc := 68) (tgt := 33) d_M_fill_68 (by decide) ?_
    refine e_iload (pc := 33) d_M_fill_33 rfl ?_
    refine e_iconst (pc := 35) (v := 3) d_M_fill_35 (by decide) ?_
    refine e_icmp_ge (pc := 36) (tgt := 71) d_M_fill_36 (by decide) (fun zz => absurd zz (by decide)) (fun _ => ?_)
    refine e_iload_n (pc := 39) d_M_fill_39 rfl ?_
    refine e_if_eq (pc := 40) (tgt := 63) d_M_fill_40 (by decide) (fun _ => ?_) (fun zz => absurd (by decide) zz)
    refine e_iconst (pc := 63) (v := 0) d_M_fill_63 (by decide) ?_
    refine e_istore_n (pc := 64) d_M_fill_64 (Nat.le_of_ble_eq_true rfl) ?_
    dsimp only [List.set]
    refine e_iinc (pc := 65) d_M_fill_65 rfl (Nat.le_of_ble_eq_true rfl) ?_
    dsimp only [List.set]
    refine e_goto (pc := 68) (tgt := 33) d_M_fill_68 (by decide) ?_
    refine e_iload (pc := 33) d_M_fill_33 rfl ?_
    refine e_iconst (pc := 35) (v := 3) d_M_fill_35 (by decide) ?_
    refine e_icmp_ge (pc := 36) (tgt := 71) d_M_fill_36 (by decide) (fun zz => absurd zz (by decide)) (fun _ => ?_)
    refine e_iload_n (pc := 39) d_M_fill_39 rfl ?_
    refine e_if_eq (pc := 40) (tgt := 63) d_M_fill_40 (by decide) (fun _ => ?_) (fun zz => absurd (by decide) zz)
    refine e_iconst (pc := 63) (v := 0) d_M_fill_63 (by decide) ?_
    refine e_istore_n (pc := 64) d_M_fill_64 (Nat.le_of_ble_eq_true rfl) ?_
    dsimp only [List.set]
    refine e_iinc (pc := 65) d_M_fill_65 rfl (Nat.le_of_ble_eq_true rfl) ?_
    dsimp only [List.set]
    refine e_goto (pc := 68) (tgt := 33) d_M_fill_68 (by decide) ?_
    refine e_iload (pc := 33) d_M_fill_33 rfl ?_
    refine e_iconst (pc := 35) (v := 3) d_M_fill_35 (by decide) ?_
    refine e_icmp_ge (pc := 36) (tgt := 71) d_M_fill_36 (by decide) (fun _ => ?_) (fun zz => absurd (by decide) zz)
    refine e_aload_n (pc := 71) d_M_fill_71 rfl ?_
    refine e_iload_n (pc := 72) d_M_fill_72 rfl ?_
    refine e_iload_n (pc := 73) d_M_fill_73 rfl ?_
    refine e_cV2 (pc := 74) s_M_fill_74 (sM_lineOf (c := 1) (by decide) hk) rfl rfl rfl (Nat.le_of_ble_eq_true rfl) (Nat.le_of_ble_eq_true rfl) (Nat.le_of_ble_eq_true rfl) (zGo.v ?_)
    refine e_istore (pc := 77) d_M_fill_77 (Nat.le_of_ble_eq_true rfl) ?_
    dsimp only [List.set]
    refine e_aload_n (pc := 79) d_M_fill_79 rfl ?_
    refine e_get (pc := 80) s_M_fill_80 rfl rfl ?_
    refine e_iload (pc := 83) d_M_fill_83 rfl ?_
    refine e_iload_n (pc := 85) d_M_fill_85 rfl ?_
    refine e_iast (pc := 86) d_M_fill_86 rfl (vp_in_nI (by omega) (by decide)) (vTg (c := 1) (nI_clamp (by omega)) (Nat.mod_lt _ (by decide))) ?_
    refine e_aload_n (pc := 87) d_M_fill_87 rfl ?_
    refine e_get (pc := 88) s_M_fill_88 rfl rfl ?_
    refine e_iload (pc := 91) d_M_fill_91 rfl ?_
    refine e_aload_n (pc := 93) d_M_fill_93 rfl ?_
    refine e_get (pc := 94) s_M_fill_94 rfl rfl ?_
    refine e_iload_n (pc := 97) d_M_fill_97 rfl ?_
    refine e_iald (pc := 98) d_M_fill_98 rfl (vp_dec (by decide)) ((fx1 (c := 1) (by decide)).trans (by rw [su_o _ _ (by decide)] : _ = T 15 1 0)) ?_
    refine e_iast (pc := 99) d_M_fill_99 rfl (vp_in_nI (by omega) (by decide)) (vVl (c := 1) (nI_clamp (by omega)) (Nat.mod_lt _ (by decide))) ?_
    refine e_aload_n (pc := 100) d_M_fill_100 rfl ?_
    refine e_get (pc := 101) s_M_fill_101 rfl rfl ?_
    refine e_iload (pc := 104) d_M_fill_104 rfl ?_
    refine e_aload_n (pc := 106) d_M_fill_106 rfl ?_
    refine e_get (pc := 107) s_M_fill_107 rfl rfl ?_
    refine e_iload_n (pc := 110) d_M_fill_110 rfl ?_
    refine e_iald (pc := 111) d_M_fill_111 rfl (vp_dec (by decide)) ((fx1 (c := 1) (by decide)).trans (by rw [su_o _ _ (by decide), su_o _ _ (by decide)] : _ = T 12 1 0)) ?_
    refine e_iconst (pc := 112) (v := 2) d_M_fill_112 (by decide) ?_
    refine e_icmp_eq (pc := 113) (tgt := 120) d_M_fill_113 (by decide) (fun hz7 => ?_) (fun hz7 => ?_)
    · refine e_iconst (pc := 120) (v := 2) d_M_fill_120 (by decide) ?_
      refine e_goto (pc := 121) (tgt := 125) d_M_fill_121 (by decide) ?_
      refine e_iast (pc := 125) d_M_fill_125 rfl (vp_in_nI (by omega) (by decide)) (vSt (c := 1) (nI_clamp (by omega)) (Nat.mod_lt _ (by decide))) ?_
      refine e_aload_n (pc := 126) d_M_fill_126 rfl ?_
      refine e_get (pc := 127) s_M_fill_127 rfl rfl ?_
      refine e_iload_n (pc := 130) d_M_fill_130 rfl ?_
      refine e_iconst (pc := 131) (v := 0) d_M_fill_131 (by decide) ?_
      refine e_iast (pc := 132) d_M_fill_132 rfl (vp_dec (by decide)) (vWk (c := 1) (by decide)) ?_
      refine e_aload_n (pc := 133) d_M_fill_133 rfl ?_
      refine e_get (pc := 134) s_M_fill_134 rfl rfl ?_
      refine e_iload_n (pc := 137) d_M_fill_137 rfl ?_
      refine e_iconst (pc := 138) (v := 0) d_M_fill_138 (by decide) ?_
      refine e_zast (pc := 139) d_M_fill_139 rfl (vp_dec (by decide)) (Or.inl rfl) (vWf (c := 1) (by decide)) ?_
      refine e_iconst (pc := 140) (v := 1) d_M_fill_140 (by decide) ?_
      exact e_iret (pc := 141) d_M_fill_141 rfl rfl (Nat.le_of_ble_eq_true rfl) (Nat.le_of_ble_eq_true rfl) (zN2 (flMe (by simp [flT, hz6, hz7])))
    · refine e_iload_n (pc := 116) d_M_fill_116 rfl ?_
      refine e_if_eq (pc := 117) (tgt := 124) d_M_fill_117 (by decide) (fun _ => ?_) (fun zz => absurd (by decide) zz)
      refine e_iconst (pc := 124) (v := 1) d_M_fill_124 (by decide) ?_
      refine e_iast (pc := 125) d_M_fill_125 rfl (vp_in_nI (by omega) (by decide)) (vSt (c := 1) (nI_clamp (by omega)) (Nat.mod_lt _ (by decide))) ?_
      refine e_aload_n (pc := 126) d_M_fill_126 rfl ?_
      refine e_get (pc := 127) s_M_fill_127 rfl rfl ?_
      refine e_iload_n (pc := 130) d_M_fill_130 rfl ?_
      refine e_iconst (pc := 131) (v := 0) d_M_fill_131 (by decide) ?_
      refine e_iast (pc := 132) d_M_fill_132 rfl (vp_dec (by decide)) (vWk (c := 1) (by decide)) ?_
      refine e_aload_n (pc := 133) d_M_fill_133 rfl ?_
      refine e_get (pc := 134) s_M_fill_134 rfl rfl ?_
      refine e_iload_n (pc := 137) d_M_fill_137 rfl ?_
      refine e_iconst (pc := 138) (v := 0) d_M_fill_138 (by decide) ?_
      refine e_zast (pc := 139) d_M_fill_139 rfl (vp_dec (by decide)) (Or.inl rfl) (vWf (c := 1) (by decide)) ?_
      refine e_iconst (pc := 140) (v := 1) d_M_fill_140 (by decide) ?_
      exact e_iret (pc := 141) d_M_fill_141 rfl rfl (Nat.le_of_ble_eq_true rfl) (Nat.le_of_ble_eq_true rfl) (zN2 (flMe (by simp [flT, hz6, hz7])))
  · replace hz6 := b0.mp hz6
    refine e_iconst (pc := 59) (v := 1) d_M_fill_59 (by decide) ?_
    refine e_goto (pc := 60) (tgt := 64) d_M_fill_60 (by decide) ?_
    refine e_istore_n (pc := 64) d_M_fill_64 (Nat.le_of_ble_eq_true rfl) ?_
    dsimp only [List.set]
    refine e_iinc (pc := 65) d_M_fill_65 rfl (Nat.le_of_ble_eq_true rfl) ?_
    dsimp only [List.set]
    refine e_goto (pc := 68) (tgt := 33) d_M_fill_68 (by decide) ?_
    refine e_iload (pc := 33) d_M_fill_33 rfl ?_
    refine e_iconst (pc := 35) (v := 3) d_M_fill_35 (by decide) ?_
    refine e_icmp_ge (pc := 36) (tgt := 71) d_M_fill_36 (by decide) (fun zz => absurd zz (by decide)) (fun _ => ?_)
    refine e_iload_n (pc := 39) d_M_fill_39 rfl ?_
    refine e_if_eq (pc := 40) (tgt := 63) d_M_fill_40 (by decide) (fun zz => absurd zz (by decide)) (fun _ => ?_)
    refine e_iload (pc := 43) d_M_fill_43 rfl ?_
    refine e_iload_n (pc := 45) d_M_fill_45 rfl ?_
    refine e_icmp_eq (pc := 46) (tgt := 59) d_M_fill_46 (by decide) (fun _ => ?_) (fun zz => absurd (by decide) zz)
    refine e_iconst (pc := 59) (v := 1) d_M_fill_59 (by decide) ?_
    refine e_goto (pc := 60) (tgt := 64) d_M_fill_60 (by decide) ?_
    refine e_istore_n (pc := 64) d_M_fill_64 (Nat.le_of_ble_eq_true rfl) ?_
    dsimp only [List.set]
    refine e_iinc (pc := 65) d_M_fill_65 rfl (Nat.le_of_ble_eq_true rfl) ?_
    dsimp only [List.set]
    refine e_goto (pc := 68) (tgt := 33) d_M_fill_68 (by decide) ?_
    refine e_iload (pc := 33) d_M_fill_33 rfl ?_
    refine e_iconst (pc := 35) (v := 3) d_M_fill_35 (by decide) ?_
    refine e_icmp_ge (pc := 36) (tgt := 71) d_M_fill_36 (by decide) (fun zz => absurd zz (by decide)) (fun _ => ?_)
    refine e_iload_n (pc := 39) d_M_fill_39 rfl ?_
    refine e_if_eq (pc := 40) (tgt := 63) d_M_fill_40 (by decide) (fun zz => absurd zz (by decide)) (fun _ => ?_)
    refine e_iload (pc := 43) d_M_fill_43 rfl ?_
    refine e_iload_n (pc := 45) d_M_fill_45 rfl ?_
    refine e_icmp_eq (pc := 46) (tgt := 59) d_M_fill_46 (by decide) (fun zz => absurd zz (by decide)) (fun _ => ?_)
    refine e_aload_n (pc := 49) d_M_fill_49 rfl ?_
    refine e_iload (pc := 50) d_M_fill_50 rfl ?_
    refine e_topi (y := nI 2) (by decide) ?_
    refine e_iload_n (pc := 52) d_M_fill_52 rfl ?_
    refine e_cV2 (pc := 53) s_M_fill_53 (sM_has (c := 2) (by decide) hk) rfl rfl rfl (Nat.le_of_ble_eq_true rfl) (Nat.le_of_ble_eq_true rfl) (Nat.le_of_ble_eq_true rfl) (zGo.v ?_)
    refine e_if_ne (pc := 56) (tgt := 63) d_M_fill_56 (by decide) (fun hz8 => ?_) (fun hz8 => ?_)
    · replace hz8 := b1.mp hz8
      refine e_iconst (pc := 63) (v := 0) d_M_fill_63 (by decide) ?_
      refine e_istore_n (pc := 64) d_M_fill_64 (Nat.le_of_ble_eq_true rfl) ?_
      dsimp only [List.set]
      refine e_iinc (pc := 65) d_M_fill_65 rfl (Nat.le_of_ble_eq_true rfl) ?_
      dsimp only [List.set]
      refine e_goto (pc := 68) (tgt := 33) d_M_fill_68 (by decide) ?_
      refine e_iload (pc := 33) d_M_fill_33 rfl ?_
      refine e_iconst (pc := 35) (v := 3) d_M_fill_35 (by decide) ?_
      refine e_icmp_ge (pc := 36) (tgt := 71) d_M_fill_36 (by decide) (fun _ => ?_) (fun zz => absurd (by decide) zz)
      refine e_aload_n (pc := 71) d_M_fill_71 rfl ?_
      refine e_iload_n (pc := 72) d_M_fill_72 rfl ?_
      refine e_iload_n (pc := 73) d_M_fill_73 rfl ?_
      refine e_cV2 (pc := 74) s_M_fill_74 (sM_lineOf (c := 1) (by decide) hk) rfl rfl rfl (Nat.le_of_ble_eq_true rfl) (Nat.le_of_ble_eq_true rfl) (Nat.le_of_ble_eq_true rfl) (zGo.v ?_)
      refine e_istore (pc := 77) d_M_fill_77 (Nat.le_of_ble_eq_true rfl) ?_
      dsimp only [List.set]
      refine e_aload_n (pc := 79) d_M_fill_79 rfl ?_
      refine e_get (pc := 80) s_M_fill_80 rfl rfl ?_
      refine e_iload (pc := 83) d_M_fill_83 rfl ?_
      refine e_iload_n (pc := 85) d_M_fill_85 rfl ?_
      refine e_iast (pc := 86) d_M_fill_86 rfl (vp_in_nI (by omega) (by decide)) (vTg (c := 1) (nI_clamp (by omega)) (Nat.mod_lt _ (by decide))) ?_
      refine e_aload_n (pc := 87) d_M_fill_87 rfl ?_
      refine e_get (pc := 88) s_M_fill_88 rfl rfl ?_
      refine e_iload (pc := 91) d_M_fill_91 rfl ?_
      refine e_aload_n (pc := 93) d_M_fill_93 rfl ?_
      refine e_get (pc := 94) s_M_fill_94 rfl rfl ?_
      refine e_iload_n (pc := 97) d_M_fill_97 rfl ?_
      refine e_iald (pc := 98) d_M_fill_98 rfl (vp_dec (by decide)) ((fx1 (c := 1) (by decide)).trans (by rw [su_o _ _ (by decide)] : _ = T 15 1 0)) ?_
      refine e_iast (pc := 99) d_M_fill_99 rfl (vp_in_nI (by omega) (by decide)) (vVl (c := 1) (nI_clamp (by omega)) (Nat.mod_lt _ (by decide))) ?_
      refine e_aload_n (pc := 100) d_M_fill_100 rfl ?_
      refine e_get (pc := 101) s_M_fill_101 rfl rfl ?_
      refine e_iload (pc := 104) d_M_fill_104 rfl ?_
      refine e_aload_n (pc := 106) d_M_fill_106 rfl ?_
      refine e_get (pc := 107) s_M_fill_107 rfl rfl ?_
      refine e_iload_n (pc := 110) d_M_fill_110 rfl ?_
      refine e_iald (pc := 111) d_M_fill_111 rfl (vp_dec (by decide)) ((fx1 (c := 1) (by decide)).trans (by rw [su_o _ _ (by decide), su_o _ _ (by decide)] : _ = T 12 1 0)) ?_
      refine e_iconst (pc := 112) (v := 2) d_M_fill_112 (by decide) ?_
      refine e_icmp_eq (pc := 113) (tgt := 120) d_M_fill_113 (by decide) (fun hz9 => ?_) (fun hz9 => ?_)
      · refine e_iconst (pc := 120) (v := 2) d_M_fill_120 (by decide) ?_
        refine e_goto (pc := 121) (tgt := 125) d_M_fill_121 (by decide) ?_
        refine e_iast (pc := 125) d_M_fill_125 rfl (vp_in_nI (by omega) (by decide)) (vSt (c := 1) (nI_clamp (by omega)) (Nat.mod_lt _ (by decide))) ?_
        refine e_aload_n (pc := 126) d_M_fill_126 rfl ?_
        refine e_get (pc := 127) s_M_fill_127 rfl rfl ?_
        refine e_iload_n (pc := 130) d_M_fill_130 rfl ?_
        refine e_iconst (pc := 131) (v := 0) d_M_fill_131 (by decide) ?_
        refine e_iast (pc := 132) d_M_fill_132 rfl (vp_dec (by decide)) (vWk (c := 1) (by decide)) ?_
        refine e_aload_n (pc := 133) d_M_fill_133 rfl ?_
        refine e_get (pc := 134) s_M_fill_134 rfl rfl ?_
        refine e_iload_n (pc := 137) d_M_fill_137 rfl ?_
        refine e_iconst (pc := 138) (v := 0) d_M_fill_138 (by decide) ?_
        refine e_zast (pc := 139) d_M_fill_139 rfl (vp_dec (by decide)) (Or.inl rfl) (vWf (c := 1) (by decide)) ?_
        refine e_iconst (pc := 140) (v := 1) d_M_fill_140 (by decide) ?_
        exact e_iret (pc := 141) d_M_fill_141 rfl rfl (Nat.le_of_ble_eq_true rfl) (Nat.le_of_ble_eq_true rfl) (zN2 (flMe (by simp [flT, hz6, hz8, hz9])))
      · refine e_iload_n (pc := 116) d_M_fill_116 rfl ?_
        refine e_if_eq (pc := 117) (tgt := 124) d_M_fill_117 (by decide) (fun _ => ?_) (fun zz => absurd (by decide) zz)
        refine e_iconst (pc := 124) (v := 1) d_M_fill_124 (by decide) ?_
        refine e_iast (pc := 125) d_M_fill_125 rfl (vp_in_nI (by omega) (by decide)) (vSt (c := 1) (nI_clamp (by omega)) (Nat.mod_lt _ (by decide))) ?_
        refine e_aload_n (pc := 126) d_M_fill_126 rfl ?_
        refine e_get (pc := 127) s_M_fill_127 rfl rfl ?_
        refine e_iload_n (pc := 130) d_M_fill_130 rfl ?_
        refine e_iconst (pc := 131) (v := 0) d_M_fill_131 (by decide) ?_
        refine e_iast (pc := 132) d_M_fill_132 rfl (vp_dec (by decide)) (vWk (c := 1) (by decide)) ?_
        refine e_aload_n (pc := 133) d_M_fill_133 rfl ?_
        refine e_get (pc := 134) s_M_fill_134 rfl rfl ?_
        refine e_iload_n (pc := 137) d_M_fill_137 rfl ?_
        refine e_iconst (pc := 138) (v := 0) d_M_fill_138 (by decide) ?_
        refine e_zast (pc := 139) d_M_fill_139 rfl (vp_dec (by decide)) (Or.inl rfl) (vWf (c := 1) (by decide)) ?_
        refine e_iconst (pc := 140) (v := 1) d_M_fill_140 (by decide) ?_
        exact e_iret (pc := 141) d_M_fill_141 rfl rfl (Nat.le_of_ble_eq_true rfl) (Nat.le_of_ble_eq_true rfl) (zN2 (flMe (by simp [flT, hz6, hz8, hz9])))
    · replace hz8 := b0.mp hz8
      refine e_iconst (pc := 59) (v := 1) d_M_fill_59 (by decide) ?_
      refine e_goto (pc := 60) (tgt := 64) d_M_fill_60 (by decide) ?_
      refine e_istore_n (pc := 64) d_M_fill_64 (Nat.le_of_ble_eq_true rfl) ?_
      dsimp only [List.set]
      refine e_iinc (pc := 65) d_M_fill_65 rfl (Nat.le_of_ble_eq_true rfl) ?_
      dsimp only [List.set]
      refine e_goto (pc := 68) (tgt := 33) d_M_fill_68 (by decide) ?_
      refine e_iload (pc := 33) d_M_fill_33 rfl ?_
      refine e_iconst (pc := 35) (v := 3) d_M_fill_35 (by decide) ?_
      refine e_icmp_ge (pc := 36) (tgt := 71) d_M_fill_36 (by decide) (fun _ => ?_) (fun zz => absurd (by decide) zz)
      refine e_aload_n (pc := 71) d_M_fill_71 rfl ?_
      refine e_iload_n (pc := 72) d_M_fill_72 rfl ?_
      refine e_iload_n (pc := 73) d_M_fill_73 rfl ?_
      refine e_cV2 (pc := 74) s_M_fill_74 (sM_lineOf (c := 1) (by decide) hk) rfl rfl rfl (Nat.le_of_ble_eq_true rfl) (Nat.le_of_ble_eq_true rfl) (Nat.le_of_ble_eq_true rfl) (zGo.v ?_)
      refine e_istore (pc := 77) d_M_fill_77 (Nat.le_of_ble_eq_true rfl) ?_
      dsimp only [List.set]
      refine e_aload_n (pc := 79) d_M_fill_79 rfl ?_
      refine e_get (pc := 80) s_M_fill_80 rfl rfl ?_
      refine e_iload (pc := 83) d_M_fill_83 rfl ?_
      refine e_iload_n (pc := 85) d_M_fill_85 rfl ?_
      refine e_iast (pc := 86) d_M_fill_86 rfl (vp_in_nI (by omega) (by decide)) (vTg (c := 1) (nI_clamp (by omega)) (Nat.mod_lt _ (by decide))) ?_
      refine e_aload_n (pc := 87) d_M_fill_87 rfl ?_
      refine e_get (pc := 88) s_M_fill_88 rfl rfl ?_
      refine e_iload (pc := 91) d_M_fill_91 rfl ?_
      refine e_aload_n (pc := 93) d_M_fill_93 rfl ?_
      refine e_get (pc := 94) s_M_fill_94 rfl rfl ?_
      refine e_iload_n (pc := 97) d_M_fill_97 rfl ?_
      refine e_iald (pc := 98) d_M_fill_98 rfl (vp_dec (by decide)) ((fx1 (c := 1) (by decide)).trans (by rw [su_o _ _ (by decide)] : _ = T 15 1 0)) ?_
      refine e_iast (pc := 99) d_M_fill_99 rfl (vp_in_nI (by omega) (by decide)) (vVl (c := 1) (nI_clamp (by omega)) (Nat.mod_lt _ (by decide))) ?_
      refine e_aload_n (pc := 100) d_M_fill_100 rfl ?_
      refine e_get (pc := 101) s_M_fill_101 rfl rfl ?_
      refine e_iload (pc := 104) d_M_fill_104 rfl ?_
      refine e_aload_n (pc := 106) d_M_fill_106 rfl ?_
      refine e_get (pc := 107) s_M_fill_107 rfl rfl ?_
      refine e_iload_n (pc := 110) d_M_fill_110 rfl ?_
      refine e_iald (pc := 111) d_M_fill_111 rfl (vp_dec (by decide)) ((fx1 (c := 1) (by decide)).trans (by rw [su_o _ _ (by decide), su_o _ _ (by decide)] : _ = T 12 1 0)) ?_
      refine e_iconst (pc := 112) (v := 2) d_M_fill_112 (by decide) ?_
      refine e_icmp_eq (pc := 113) (tgt := 120) d_M_fill_113 (by decide) (fun hz10 => ?_) (fun hz10 => ?_)
      · refine e_iconst (pc := 120) (v := 2) d_M_fill_120 (by decide) ?_
        refine e_goto (pc := 121) (tgt := 125) d_M_fill_121 (by decide) ?_
        refine e_iast (pc := 125) d_M_fill_125 rfl (vp_in_nI (by omega) (by decide)) (vSt (c := 1) (nI_clamp (by omega)) (Nat.mod_lt _ (by decide))) ?_
        refine e_aload_n (pc := 126) d_M_fill_126 rfl ?_
        refine e_get (pc := 127) s_M_fill_127 rfl rfl ?_
        refine e_iload_n (pc := 130) d_M_fill_130 rfl ?_
        refine e_iconst (pc := 131) (v := 0) d_M_fill_131 (by decide) ?_
        refine e_iast (pc := 132) d_M_fill_132 rfl (vp_dec (by decide)) (vWk (c := 1) (by decide)) ?_
        refine e_aload_n (pc := 133) d_M_fill_133 rfl ?_
        refine e_get (pc := 134) s_M_fill_134 rfl rfl ?_
        refine e_iload_n (pc := 137) d_M_fill_137 rfl ?_
        refine e_iconst (pc := 138) (v := 0) d_M_fill_138 (by decide) ?_
        refine e_zast (pc := 139) d_M_fill_139 rfl (vp_dec (by decide)) (Or.inl rfl) (vWf (c := 1) (by decide)) ?_
        refine e_iconst (pc := 140) (v := 1) d_M_fill_140 (by decide) ?_
        exact e_iret (pc := 141) d_M_fill_141 rfl rfl (Nat.le_of_ble_eq_true rfl) (Nat.le_of_ble_eq_true rfl) (zN2 (flMe (by simp [flT, hz6, hz8, hz10])))
      · refine e_iload_n (pc := 116) d_M_fill_116 rfl ?_
        refine e_if_eq (pc := 117) (tgt := 124) d_M_fill_117 (by decide) (fun zz => absurd zz (by decide)) (fun _ => ?_)
        refine e_iconst (pc := 120) (v := 2) d_M_fill_120 (by decide) ?_
        refine e_goto (pc := 121) (tgt := 125) d_M_fill_121 (by decide) ?_
        refine e_iast (pc := 125) d_M_fill_125 rfl (vp_in_nI (by omega) (by decide)) (vSt (c := 1) (nI_clamp (by omega)) (Nat.mod_lt _ (by decide))) ?_
        refine e_aload_n (pc := 126) d_M_fill_126 rfl ?_
        refine e_get (pc := 127) s_M_fill_127 rfl rfl ?_
        refine e_iload_n (pc := 130) d_M_fill_130 rfl ?_
        refine e_iconst (pc := 131) (v := 0) d_M_fill_131 (by decide) ?_
        refine e_iast (pc := 132) d_M_fill_132 rfl (vp_dec (by decide)) (vWk (c := 1) (by decide)) ?_
        refine e_aload_n (pc := 133) d_M_fill_133 rfl ?_
        refine e_get (pc := 134) s_M_fill_134 rfl rfl ?_
        refine e_iload_n (pc := 137) d_M_fill_137 rfl ?_
        refine e_iconst (pc := 138) (v := 0) d_M_fill_138 (by decide) ?_
        refine e_zast (pc := 139) d_M_fill_139 rfl (vp_dec (by decide)) (Or.inl rfl) (vWf (c := 1) (by decide)) ?_
        refine e_iconst (pc := 140) (v := 1) d_M_fill_140 (by decide) ?_
        exact e_iret (pc := 141) d_M_fill_141 rfl rfl (Nat.le_of_ble_eq_true rfl) (Nat.le_of_ble_eq_true rfl) (zN2 (flMe (by simp [flT, hz6, hz8, hz10])))
set_option maxHeartbeats 4000000 in
set_option maxRecDepth 100000 in
theorem sM_fill2 {l : Launch} {G : zGP} {K : Nat} {S T : St} {th : Int32} {fo : Nat → Int64} {k : Nat} (hk : k < 8) (h14 : ¬ T 14 2 0 = 0) (h13 : T 13 2 0 = nI k) : Rn l G m_M_fill [.ref 45, .int (nI 2)] (hpA K S T th fo) (.inl (some (.int 1)), (hpA K S (flM T 2 k) 0 fo)) := by
  refine Rn.of (by decide) rfl rfl (Nat.le_of_ble_eq_true rfl) rfl ?_
  show Ev l G m_M_fill 0 [.ref 45, .int (nI 2), .double 0, .double 0, .double 0] [] (hpA K S T th fo) 0 0 _
  refine e_aload_n (pc := 0) d_M_fill_0 rfl ?_
  refine e_iload_n (pc := 1) d_M_fill_1 rfl ?_
  refine e_cV1 (pc := 2) s_M_fill_2 (sM_core (c := 2) (by decide)) rfl rfl rfl (Nat.le_of_ble_eq_true rfl) (Nat.le_of_ble_eq_true rfl) (Nat.le_of_ble_eq_true rfl) (zGo.v ?_)
  refine e_if_ne (pc := 5) (tgt := 10) d_M_fill_5 (by decide) (fun _ => ?_) (fun zz => absurd zz (by decide))
  refine e_aload_n (pc := 10) d_M_fill_10 rfl ?_
  refine e_get (pc := 11) s_M_fill_11 rfl rfl ?_
  refine e_iload_n (pc := 14) d_M_fill_14 rfl ?_
  refine e_zald (pc := 15) d_M_fill_15 rfl (vp_dec (by decide)) (fx1 (c := 2) (by decide)) ?_
  refine e_if_ne (pc := 16) (tgt := 21) d_M_fill_16 (by decide) (fun _ => ?_) (fun zz => absurd zz (h14))
  refine e_aload_n (pc := 21) d_M_fill_21 rfl ?_
  refine e_get (pc := 22) s_M_fill_22 rfl rfl ?_
  refine e_iload_n (pc := 25) d_M_fill_25 rfl ?_
  refine e_iald (pc := 26) d_M_fill_26 rfl (vp_dec (by decide)) ((fx1 (c := 2) (by decide)).trans h13) ?_
  refine e_istore_n (pc := 27) d_M_fill_27 (Nat.le_of_ble_eq_true rfl) ?_
  dsimp only [List.set]
  refine e_iconst (pc := 28) (v := 1) d_M_fill_28 (by decide) ?_
  refine e_istore_n (pc := 29) d_M_fill_29 (Nat.le_of_ble_eq_true rfl) ?_
  dsimp only [List.set]
  refine e_iconst (pc := 30) (v := 0) d_M_fill_30 (by decide) ?_
  refine e_istore (pc := 31) d_M_fill_31 (Nat.le_of_ble_eq_true rfl) ?_
  dsimp only [List.set]
  refine e_iload (pc := 33) d_M_fill_33 rfl ?_
  refine e_iconst (pc := 35) (v := 3) d_M_fill_35 (by decide) ?_
  refine e_icmp_ge (pc := 36) (tgt := 71) d_M_fill_36 (by decide) (fun zz => absurd zz (by decide)) (fun _ => ?_)
  refine e_iload_n (pc := 39) d_M_fill_39 rfl ?_
  refine e_if_eq (pc := 40) (tgt := 63) d_M_fill_40 (by decide) (fun zz => absurd zz (by decide)) (fun _ => ?_)
  refine e_iload (pc := 43) d_M_fill_43 rfl ?_
  refine e_iload_n (pc := 45) d_M_fill_45 rfl ?_
  refine e_icmp_eq (pc := 46) (tgt := 59) d_M_fill_46 (by decide) (fun zz => absurd zz (by decide)) (fun _ => ?_)
  refine e_aload_n (pc := 49) d_M_fill_49 rfl ?_
  refine e_iload (pc := 50) d_M_fill_50 rfl ?_
  refine e_topi (y := nI 0) (by decide) ?_
  refine e_iload_n (pc := 52) d_M_fill_52 rfl ?_
  refine e_cV2 (pc := 53) s_M_fill_53 (sM_has (c := 0) (by decide) hk) rfl rfl rfl (Nat.le_of_ble_eq_true rfl) (Nat.le_of_ble_eq_true rfl) (Nat.le_of_ble_eq_true rfl) (zGo.v ?_)
  refine e_if_ne (pc := 56) (tgt := 63) d_M_fill_56 (by decide) (fun hz11 => ?_) (fun hz11 => ?_)
  · replace hz11 := b1.mp hz11
    refine e_iconst (pc := 63) (v := 0) d_M_fill_63 (by decide) ?_
    refine e_istore_n (pc := 64) d_M_fill_64 (Nat.le_of_ble_eq_true rfl) ?_
    dsimp only [List.set]
    refine e_iinc (pc := 65) d_M_fill_65 rfl (Nat.le_of_ble_eq_true rfl) ?_
    dsimp only [List.set]
    refine e_goto (pc := 68) (tgt := 33) d_M_fill_68 (by decide) ?_
    refine e_iload (pc := 33) d_M_fill_33 rfl ?_
    refine e_iconst (pc := 35) (v := 3) d_M_fill_35 (by decide) ?_
    refine e_icmp_ge (pc := 36) (tgt := 71) d_M_fill_36 (by decide) (fun zz => absurd zz (by decide)) (fun _ => ?_)
    refine e_iload_n (pc := 39) d_M_fill_39 rfl ?_
    refine e_if_eq (pc := 40) (tgt := 63) d_M_fill_40 (by decide) (fun _ => ?_) (fun zz => absurd (by decide) zz)
    refine e_iconst (pc := 63) (v := 0) d_M_fill_63 (by decide) ?_
    refine e_istore_n (pc := 64) d_M_fill_64 (Nat.le_of_ble_eq_true rfl) ?_
    dsimp only [List.set]
    refine e_iinc (pc := 65) d_M_fill_65 rfl (Nat.le_of_ble_eq_true rfl) ?_
    dsimp only [List.set]
    refine e_goto (pc := 68) (tgt := 33) d_M_fill_68 (by decide) ?_
    refine e_iload (pc := 33) d_M_fill_33 rfl ?_
    refine e_iconst (pc := 35) (v := 3) d_M_fill_35 (by decide) ?_
    refine e_icmp_ge (pc := 36) (tgt := 71) d_M_fill_36 (by decide) (fun zz => absurd zz (by decide)) (fun _ => ?_)
    refine e_iload_n (pc := 39) d_M_fill_39 rfl ?_
    refine e_if_eq (pc := 40) (tgt := 63) d_M_fill_40 (by decide) (fun _ => ?_) (fun zz => absurd (by decide) zz)
    refine e_iconst (pc := 63) (v := 0) d_M_fill_63 (by decide) ?_
    refine e_istore_n (pc := 64) d_M_fill_64 (Nat.le_of_ble_eq_true rfl) ?_
    dsimp only [List.set]
    refine e_iinc (pc := 65) d_M_fill_65 rfl (Nat.le_of_ble_eq_true rfl) ?_
    dsimp only [List.set]
    refine e_goto (pc := 68) (tgt := 33) d_M_fill_68 (by decide) ?_
    refine e_iload (pc := 33) d_M_fill_33 rfl ?_
    refine e_iconst (pc := 35) (v := 3) d_M_fill_35 (by decide) ?_
    refine e_icmp_ge (pc := 36) (tgt := 71) d_M_fill_36 (by decide) (fun _ => ?_) (fun zz => absurd (by decide) zz)
    refine e_aload_n (pc := 71) d_M_fill_71 rfl ?_
    refine e_iload_n (pc := 72) d_M_fill_72 rfl ?_
    refine e_iload_n (pc := 73) d_M_fill_73 rfl ?_
    refine e_cV2 (pc := 74) s_M_fill_74 (sM_lineOf (c := 2) (by decide) hk) rfl rfl rfl (Nat.le_of_ble_eq_true rfl) (Nat.le_of_ble_eq_true rfl) (Nat.le_of_ble_eq_true rfl) (zGo.v ?_)
    refine e_istore (pc := 77) d_M_fill_77 (Nat.le_of_ble_eq_true rfl) ?_
    dsimp only [List.set]
    refine e_aload_n (pc := 79) d_M_fill_79 rfl ?_
    refine e_get (pc := 80) s_M_fill_80 rfl rfl ?_
    refine e_iload (pc := 83) d_M_fill_83 rfl ?_
    refine e_iload_n (pc := 85) d_M_fill_85 rfl ?_
    refine e_iast (pc := 86) d_M_fill_86 rfl (vp_in_nI (by omega) (by decide)) (vTg (c := 2) (nI_clamp (by omega)) (Nat.mod_lt _ (by decide))) ?_
    refine e_aload_n (pc := 87) d_M_fill_87 rfl ?_
    refine e_get (pc := 88) s_M_fill_88 rfl rfl ?_
    refine e_iload (pc := 91) d_M_fill_91 rfl ?_
    refine e_aload_n (pc := 93) d_M_fill_93 rfl ?_
    refine e_get (pc := 94) s_M_fill_94 rfl rfl ?_
    refine e_iload_n (pc := 97) d_M_fill_97 rfl ?_
    refine e_iald (pc := 98) d_M_fill_98 rfl (vp_dec (by decide)) ((fx1 (c := 2) (by decide)).trans (by rw [su_o _ _ (by decide)] : _ = T 15 2 0)) ?_
    refine e_iast (pc := 99) d_M_fill_99 rfl (vp_in_nI (by omega) (by decide)) (vVl (c := 2) (nI_clamp (by omega)) (Nat.mod_lt _ (by decide))) ?_
    refine e_aload_n (pc := 100) d_M_fill_100 rfl ?_
    refine e_get (pc := 101) s_M_fill_101 rfl rfl ?_
    refine e_iload (pc := 104) d_M_fill_104 rfl ?_
    refine e_aload_n (pc := 106) d_M_fill_106 rfl ?_
    refine e_get (pc := 107) s_M_fill_107 rfl rfl ?_
    refine e_iload_n (pc := 110) d_M_fill_110 rfl ?_
    refine e_iald (pc := 111) d_M_fill_111 rfl (vp_dec (by decide)) ((fx1 (c := 2) (by decide)).trans (by rw [su_o _ _ (by decide), su_o _ _ (by decide)] : _ = T 12 2 0)) ?_
    refine e_iconst (pc := 112) (v := 2) d_M_fill_112 (by decide) ?_
    refine e_icmp_eq (pc := 113) (tgt := 120) d_M_fill_113 (by decide) (fun hz12 => ?_) (fun hz12 => ?_)
    · refine e_iconst (pc := 120) (v := 2) d_M_fill_120 (by decide) ?_
      refine e_goto (pc := 121) (tgt := 125) d_M_fill_121 (by decide) ?_
      refine e_iast (pc := 125) d_M_fill_125 rfl (vp_in_nI (by omega) (by decide)) (vSt (c := 2) (nI_clamp (by omega)) (Nat.mod_lt _ (by decide))) ?_
      refine e_aload_n (pc := 126) d_M_fill_126 rfl ?_
      refine e_get (pc := 127) s_M_fill_127 rfl rfl ?_
      refine e_iload_n (pc := 130) d_M_fill_130 rfl ?_
      refine e_iconst (pc := 131) (v := 0) d_M_fill_131 (by decide) ?_
      refine e_iast (pc := 132) d_M_fill_132 rfl (vp_dec (by decide)) (vWk (c := 2) (by decide)) ?_
      refine e_aload_n (pc := 133) d_M_fill_133 rfl ?_
      refine e_get (pc := 134) s_M_fill_134 rfl rfl ?_
      refine e_iload_n (pc := 137) d_M_fill_137 rfl ?_
      refine e_iconst (pc := 138) (v := 0) d_M_fill_138 (by decide) ?_
      refine e_zast (pc := 139) d_M_fill_139 rfl (vp_dec (by decide)) (Or.inl rfl) (vWf (c := 2) (by decide)) ?_
      refine e_iconst (pc := 140) (v := 1) d_M_fill_140 (by decide) ?_
      exact e_iret (pc := 141) d_M_fill_141 rfl rfl (Nat.le_of_ble_eq_true rfl) (Nat.le_of_ble_eq_true rfl) (zN2 (flMe (by simp [flT, hz11, hz12])))
    · refine e_iload_n (pc := 116) d_M_fill_116 rfl ?_
      refine e_if_eq (pc := 117) (tgt := 124) d_M_fill_117 (by decide) (fun _ => ?_) (fun zz => absurd (by decide) zz)
      refine e_iconst (pc := 124) (v := 1) d_M_fill_124 (by decide) ?_
      refine e_iast (pc := 125) d_M_fill_125 rfl (vp_in_nI (by omega) (by decide)) (vSt (c := 2) (nI_clamp (by omega)) (Nat.mod_lt _ (by decide))) ?_
      refine e_aload_n (pc := 126) d_M_fill_126 rfl ?_
      refine e_get (pc := 127) s_M_fill_127 rfl rfl ?_
      refine e_iload_n (pc := 130) d_M_fill_130 rfl ?_
      refine e_iconst (pc := 131) (v := 0) d_M_fill_131 (by decide) ?_
      refine e_iast (pc := 132) d_M_fill_132 rfl (vp_dec (by decide)) (vWk (c := 2) (by decide)) ?_
      refine e_aload_n (pc := 133) d_M_fill_133 rfl ?_
      refine e_get (pc := 134) s_M_fill_134 rfl rfl ?_
      refine e_iload_n (pc := 137) d_M_fill_137 rfl ?_
      refine e_iconst (pc := 138) (v := 0) d_M_fill_138 (by decide) ?_
      refine e_zast (pc := 139) d_M_fill_139 rfl (vp_dec (by decide)) (Or.inl rfl) (vWf (c := 2) (by decide)) ?_
      refine e_iconst (pc := 140) (v := 1) d_M_fill_140 (by decide) ?_
      exact e_iret (pc := 141) d_M_fill_141 rfl rfl (Nat.le_of_ble_eq_true rfl) (Nat.le_of_ble_eq_true rfl) (zN2 (flMe (by simp [flT, hz11, hz12])))
  · replace hz11 := b0.mp hz11
    refine e_iconst (pc := 59) (v := 1) d_M_fill_59 (by decide) ?_
    refine e_goto (pc := 60) (tgt := 64) d_M_fill_60 (by decide) ?_
    refine e_istore_n (pc := 64) d_M_fill_64 (Nat.le_of_ble_eq_true rfl) ?_
    dsimp only [List.set]
    refine e_iinc (pc := 65) d_M_fill_65 rfl (Nat.le_of_ble_eq_true rfl) ?_
    dsimp only [List.set]
    refine e_goto (pc := 68) (tgt := 33) d_M_fill_68 (by decide) ?_
    refine e_iload (pc := 33) d_M_fill_33 rfl ?_
    refine e_iconst (pc := 35) (v := 3) d_M_fill_35 (by decide) ?_
    refine e_icmp_ge (pc := 36) (tgt := 71) d_M_fill_36 (by decide) (fun zz => absurd zz (by decide)) (fun _ => ?_)
    refine e_iload_n (pc := 39) d_M_fill_39 rfl ?_
    refine e_if_eq (pc := 40) (tgt := 63) d_M_fill_40 (by decide) (fun zz => absurd zz (by decide)) (fun _ => ?_)
    refine e_iload (pc := 43) d_M_fill_43 rfl ?_
    refine e_iload_n (pc := 45) d_M_fill_45 rfl ?_
    refine e_icmp_eq (pc := 46) (tgt := 59) d_M_fill_46 (by decide) (fun zz => absurd zz (by decide)) (fun _ => ?_)
    refine e_aload_n (pc := 49) d_M_fill_49 rfl ?_
    refine e_iload (pc := 50) d_M_fill_50 rfl ?_
    refine e_topi (y := nI 1) (by decide) ?_
    refine e_iload_n (pc := 52) d_M_fill_52 rfl ?_
    refine e_cV2 (pc := 53) s_M_fill_53 (sM_has (c := 1) (by decide) hk) rfl rfl rfl (Nat.le_of_ble_eq_true rfl) (Nat.le_of_ble_eq_true rfl) (Nat.le_of_ble_eq_true rfl) (zGo.v ?_)
    refine e_if_ne (pc := 56) (tgt := 63) d_M_fill_56 (by decide) (fun hz13 => ?_) (fun hz13 => ?_)
    · replace hz13 := b1.mp hz13
      refine e_iconst (pc := 63) (v := 0) d_M_fill_63 (by decide) ?_
      refine e_istore_n (pc := 64) d_M_fill_64 (Nat.le_of_ble_eq_true rfl) ?_
      dsimp only [List.set]
      refine e_iinc (pc := 65) d_M_fill_65 rfl (Nat.le_of_ble_eq_true rfl) ?_
      dsimp only [List.set]
      refine e_goto (pc := 68) (tgt := 33) d_M_fill_68 (by decide) ?_
      refine e_iload (pc := 33) d_M_fill_33 rfl ?_
      refine e_iconst (pc := 35) (v := 3) d_M_fill_35 (by decide) ?_
      refine e_icmp_ge (pc := 36) (tgt := 71) d_M_fill_36 (by decide) (fun zz => absurd zz (by decide)) (fun _ => ?_)
      refine e_iload_n (pc := 39) d_M_fill_39 rfl ?_
      refine e_if_eq (pc := 40) (tgt := 63) d_M_fill_40 (by decide) (fun _ => ?_) (fun zz => absurd (by decide) zz)
      refine e_iconst (pc := 63) (v := 0) d_M_fill_63 (by decide) ?_
      refine e_istore_n (pc := 64) d_M_fill_64 (Nat.le_of_ble_eq_true rfl) ?_
      dsimp only [List.set]
      refine e_iinc (pc := 65) d_M_fill_65 rfl (Nat.le_of_ble_eq_true rfl) ?_
      dsimp only [List.set]
      refine e_goto (pc := 68) (tgt := 33) d_M_fill_68 (by decide) ?_
      refine e_iload (pc := 33) d_M_fill_33 rfl ?_
      refine e_iconst (pc := 35) (v := 3) d_M_fill_35 (by decide) ?_
      refine e_icmp_ge (pc := 36) (tgt := 71) d_M_fill_36 (by decide) (fun _ => ?_) (fun zz => absurd (by decide) zz)
      refine e_aload_n (pc := 71) d_M_fill_71 rfl ?_
      refine e_iload_n (pc := 72) d_M_fill_72 rfl ?_
      refine e_iload_n (pc := 73) d_M_fill_73 rfl ?_
      refine e_cV2 (pc := 74) s_M_fill_74 (sM_lineOf (c := 2) (by decide) hk) rfl rfl rfl (Nat.le_of_ble_eq_true rfl) (Nat.le_of_ble_eq_true rfl) (Nat.le_of_ble_eq_true rfl) (zGo.v ?_)
      refine e_istore (pc := 77) d_M_fill_77 (Nat.le_of_ble_eq_true rfl) ?_
      dsimp only [List.set]
      refine e_aload_n (pc := 79) d_M_fill_79 rfl ?_
      refine e_get (pc := 80) s_M_fill_80 rfl rfl ?_
      refine e_iload (pc := 83) d_M_fill_83 rfl ?_
      refine e_iload_n (pc := 85) d_M_fill_85 rfl ?_
      refine e_iast (pc := 86) d_M_fill_86 rfl (vp_in_nI (by omega) (by decide)) (vTg (c := 2) (nI_clamp (by omega)) (Nat.mod_lt _ (by decide))) ?_
      refine e_aload_n (pc := 87) d_M_fill_87 rfl ?_
      refine e_get (pc := 88) s_M_fill_88 rfl rfl ?_
      refine e_iload (pc := 91) d_M_fill_91 rfl ?_
      refine e_aload_n (pc := 93) d_M_fill_93 rfl ?_
      refine e_get (pc := 94) s_M_fill_94 rfl rfl ?_
      refine e_iload_n (pc := 97) d_M_fill_97 rfl ?_
      refine e_iald (pc := 98) d_M_fill_98 rfl (vp_dec (by decide)) ((fx1 (c := 2) (by decide)).trans (by rw [su_o _ _ (by decide)] : _ = T 15 2 0)) ?_
      refine e_iast (pc := 99) d_M_fill_99 rfl (vp_in_nI (by omega) (by decide)) (vVl (c := 2) (nI_clamp (by omega)) (Nat.mod_lt _ (by decide))) ?_
      refine e_aload_n (pc := 100) d_M_fill_100 rfl ?_
      refine e_get (pc := 101) s_M_fill_101 rfl rfl ?_
      refine e_iload (pc := 104) d_M_fill_104 rfl ?_
      refine e_aload_n (pc := 106) d_M_fill_106 rfl ?_
      refine e_get (pc := 107) s_M_fill_107 rfl rfl ?_
      refine e_iload_n (pc := 110) d_M_fill_110 rfl ?_
      refine e_iald (pc := 111) d_M_fill_111 rfl (vp_dec (by decide)) ((fx1 (c := 2) (by decide)).trans (by rw [su_o _ _ (by decide), su_o _ _ (by decide)] : _ = T 12 2 0)) ?_
      refine e_iconst (pc := 112) (v := 2) d_M_fill_112 (by decide) ?_
      refine e_icmp_eq (pc := 113) (tgt := 120) d_M_fill_113 (by decide) (fun hz14 => ?_) (fun hz14 => ?_)
      · refine e_iconst (pc := 120) (v := 2) d_M_fill_120 (by decide) ?_
        refine e_goto (pc := 121) (tgt := 125) d_M_fill_121 (by decide) ?_
        refine e_iast (pc := 125) d_M_fill_125 rfl (vp_in_nI (by omega) (by decide)) (vSt (c := 2) (nI_clamp (by omega)) (Nat.mod_lt _ (by decide))) ?_
        refine e_aload_n (pc := 126) d_M_fill_126 rfl ?_
        refine e_get (pc := 127) s_M_fill_127 rfl rfl ?_
        refine e_iload_n (pc := 130) d_M_fill_130 rfl ?_
        refine e_iconst (pc := 131) (v := 0) d_M_fill_131 (by decide) ?_
        refine e_iast (pc := 132) d_M_fill_132 rfl (vp_dec (by decide)) (vWk (c := 2) (by decide)) ?_
        refine e_aload_n (pc := 133) d_M_fill_133 rfl ?_
        refine e_get (pc := 134) s_M_fill_134 rfl rfl ?_
        refine e_iload_n (pc := 137) d_M_fill_137 rfl ?_
        refine e_iconst (pc := 138) (v := 0) d_M_fill_138 (by decide) ?_
        refine e_zast (pc := 139) d_M_fill_139 rfl (vp_dec (by decide)) (Or.inl rfl) (vWf (c := 2) (by decide)) ?_
        refine e_iconst (pc := 140) (v := 1) d_M_fill_140 (by decide) ?_
        exact e_iret (pc := 141) d_M_fill_141 rfl rfl (Nat.le_of_ble_eq_true rfl) (Nat.le_of_ble_eq_true rfl) (zN2 (flMe (by simp [flT, hz11, hz13, hz14])))
      · refine e_iload_n (pc := 116) d_M_fill_116 rfl ?_
        refine e_if_eq (pc := 117) (tgt := 124) d_M_fill_117 (by decide) (fun _ => ?_) (fun zz => absurd (by decide) zz)
        refine e_iconst (pc := 124) (v := 1) d_M_fill_124 (by decide) ?_
        refine e_iast (pc := 125) d_M_fill_125 rfl (vp_in_nI (by omega) (by decide)) (vSt (c := 2) (nI_clamp (by omega)) (Nat.mod_lt _ (by decide))) ?_
        refine e_aload_n (pc := 126) d_M_fill_126 rfl ?_
        refine e_get (pc := 127) s_M_fill_127 rfl rfl ?_
        refine e_iload_n (pc := 130) d_M_fill_130 rfl ?_
        refine e_iconst (pc := 131) (v := 0) d_M_fill_131 (by decide) ?_
        refine e_iast (pc := 132) d_M_fill_132 rfl (vp_dec (by decide)) (vWk (c := 2) (by decide)) ?_
        refine e_aload_n (pc := 133) d_M_fill_133 rfl ?_
        refine e_get (pc := 134) s_M_fill_134 rfl rfl ?_
        refine e_iload_n (pc := 137) d_M_fill_137 rfl ?_
        refine e_iconst (pc := 138) (v := 0) d_M_fill_138 (by decide) ?_
        refine e_zast (pc := 139) d_M_fill_139 rfl (vp_dec (by decide)) (Or.inl rfl) (vWf (c := 2) (by decide)) ?_
        refine e_iconst (pc := 140) (v := 1) d_M_fill_140 (by decide) ?_
        exact e_iret (pc := 141) d_M_fill_141 rfl rfl (Nat.le_of_ble_eq_true rfl) (Nat.le_of_ble_eq_true rfl) (zN2 (flMe (by simp [flT, hz11, hz13, hz14])))
    · replace hz13 := b0.mp hz13
      refine e_iconst (pc := 59) (v := 1) d_M_fill_59 (by decide) ?_
      refine e_goto (pc := 60) (tgt := 64) d_M_fill_60 (by decide) ?_
      refine e_istore_n (pc := 64) d_M_fill_64 (Nat.le_of_ble_eq_true rfl) ?_
      dsimp only [List.set]
      refine e_iinc (pc := 65) d_M_fill_65 rfl (Nat.le_of_ble_eq_true rfl) ?_
      dsimp only [List.set]
      refine e_goto (pc := 68) (tgt := 33) d_M_fill_68 (by decide) ?_
      refine e_iload (pc := 33) d_M_fill_33 rfl ?_
      refine e_iconst (pc := 35) (v := 3) d_M_fill_35 (by decide) ?_
      refine e_icmp_ge (pc := 36) (tgt := 71) d_M_fill_36 (by decide) (fun zz => absurd zz (by decide)) (fun _ => ?_)
      refine e_iload_n (pc := 39) d_M_fill_39 rfl ?_
      refine e_if_eq (pc := 40) (tgt := 63) d_M_fill_40 (by decide) (fun zz => absurd zz (by decide)) (fun _ => ?_)
      refine e_iload (pc := 43) d_M_fill_43 rfl ?_
      refine e_iload_n (pc := 45) d_M_fill_45 rfl ?_
      refine e_icmp_eq (pc := 46) (tgt := 59) d_M_fill_46 (by decide) (fun _ => ?_) (fun zz => absurd (by decide) zz)
      refine e_iconst (pc := 59) (v := 1) d_M_fill_59 (by decide) ?_
      refine e_goto (pc := 60) (tgt := 64) d_M_fill_60 (by decide) ?_
      refine e_istore_n (pc := 64) d_M_fill_64 (Nat.le_of_ble_eq_true rfl) ?_
      dsimp only [List.set]
      refine e_iinc (pc := 65) d_M_fill_65 rfl (Nat.le_of_ble_eq_true rfl) ?_
      dsimp only [List.set]
      refine e_goto (pc := 68) (tgt := 33) d_M_fill_68 (by decide) ?_
      refine e_iload (pc := 33) d_M_fill_33 rfl ?_
      refine e_iconst (pc := 35) (v := 3) d_M_fill_35 (by decide) ?_
      refine e_icmp_ge (pc := 36) (tgt := 71) d_M_fill_36 (by decide) (fun _ => ?_) (fun zz => absurd (by decide) zz)
      refine e_aload_n (pc := 71) d_M_fill_71 rfl ?_
      refine e_iload_n (pc := 72) d_M_fill_72 rfl ?_
      refine e_iload_n (pc := 73) d_M_fill_73 rfl ?_
      refine e_cV2 (pc := 74) s_M_fill_74 (sM_lineOf (c := 2) (by decide) hk) rfl rfl rfl (Nat.le_of_ble_eq_true rfl) (Nat.le_of_ble_eq_true rfl) (Nat.le_of_ble_eq_true rfl) (zGo.v ?_)
      refine e_istore (pc := 77) d_M_fill_77 (Nat.le_of_ble_eq_true rfl) ?_
      dsimp only [List.set]
      refine e_aload_n (pc := 79) d_M_fill_79 rfl ?_
      refine e_get (pc := 80) s_M_fill_80 rfl rfl ?_
      refine e_iload (pc := 83) d_M_fill_83 rfl ?_
      refine e_iload_n (pc := 85) d_M_fill_85 rfl ?_
      refine e_iast (pc := 86) d_M_fill_86 rfl (vp_in_nI (by omega) (by decide)) (vTg (c := 2) (nI_clamp (by omega)) (Nat.mod_lt _ (by decide))) ?_
      refine e_aload_n (pc := 87) d_M_fill_87 rfl ?_
      refine e_get (pc := 88) s_M_fill_88 rfl rfl ?_
      refine e_iload (pc := 91) d_M_fill_91 rfl ?_
      refine e_aload_n (pc := 93) d_M_fill_93 rfl ?_
      refine e_get (pc := 94) s_M_fill_94 rfl rfl ?_
      refine e_iload_n (pc := 97) d_M_fill_97 rfl ?_
      refine e_iald (pc := 98) d_M_fill_98 rfl (vp_dec (by decide)) ((fx1 (c := 2) (by decide)).trans (by rw [su_o _ _ (by decide)] : _ = T 15 2 0)) ?_
      refine e_iast (pc := 99) d_M_fill_99 rfl (vp_in_nI (by omega) (by decide)) (vVl (c := 2) (nI_clamp (by omega)) (Nat.mod_lt _ (by decide))) ?_
      refine e_aload_n (pc := 100) d_M_fill_100 rfl ?_
      refine e_get (pc := 101) s_M_fill_101 rfl rfl ?_
      refine e_iload (pc := 104) d_M_fill_104 rfl ?_
      refine e_aload_n (pc := 106) d_M_fill_106 rfl ?_
      refine e_get (pc := 107) s_M_fill_107 rfl rfl ?_
      refine e_iload_n (pc := 110) d_M_fill_110 rfl ?_
      refine e_iald (pc := 111) d_M_fill_111 rfl (vp_dec (by decide)) ((fx1 (c := 2) (by decide)).trans (by rw [su_o _ _ (by decide), su_o _ _ (by decide)] : _ = T 12 2 0)) ?_
      refine e_iconst (pc := 112) (v := 2) d_M_fill_112 (by decide) ?_
      refine e_icmp_eq (pc := 113) (tgt := 120) d_M_fill_113 (by decide) (fun hz15 => ?_) (fun hz15 => ?_)
      · refine e_iconst (pc := 120) (v := 2) d_M_fill_120 (by decide) ?_
        refine e_goto (pc := 121) (tgt := 125) d_M_fill_121 (by decide) ?_
        refine e_iast (pc := 125) d_M_fill_125 rfl (vp_in_nI (by omega) (by decide)) (vSt (c := 2) (nI_clamp (by omega)) (Nat.mod_lt _ (by decide))) ?_
        refine e_aload_n (pc := 126) d_M_fill_126 rfl ?_
        refine e_get (pc := 127) s_M_fill_127 rfl rfl ?_
        refine e_iload_n (pc := 130) d_M_fill_130 rfl ?_
        refine e_iconst (pc := 131) (v := 0) d_M_fill_131 (by decide) ?_
        refine e_iast (pc := 132) d_M_fill_132 rfl (vp_dec (by decide)) (vWk (c := 2) (by decide)) ?_
        refine e_aload_n (pc := 133) d_M_fill_133 rfl ?_
        refine e_get (pc := 134) s_M_fill_134 rfl rfl ?_
        refine e_iload_n (pc := 137) d_M_fill_137 rfl ?_
        refine e_iconst (pc := 138) (v := 0) d_M_fill_138 (by decide) ?_
        refine e_zast (pc := 139) d_M_fill_139 rfl (vp_dec (by decide)) (Or.inl rfl) (vWf (c := 2) (by decide)) ?_
        refine e_iconst (pc := 140) (v := 1) d_M_fill_140 (by decide) ?_
        exact e_iret (pc := 141) d_M_fill_141 rfl rfl (Nat.le_of_ble_eq_true rfl) (Nat.le_of_ble_eq_true rfl) (zN2 (flMe (by simp [flT, hz11, hz13, hz15])))
      · refine e_iload_n (pc := 116) d_M_fill_116 rfl ?_
        refine e_if_eq (pc := 117) (tgt := 124) d_M_fill_117 (by decide) (fun zz => absurd zz (by decide)) (fun _ => ?_)
        refine e_iconst (pc := 120) (v := 2) d_M_fill_120 (by decide) ?_
        refine e_goto (pc := 121) (tgt := 125) d_M_fill_121 (by decide) ?_
        refine e_iast (pc := 125) d_M_fill_125 rfl (vp_in_nI (by omega) (by decide)) (vSt (c := 2) (nI_clamp (by omega)) (Nat.mod_lt _ (by decide))) ?_
        refine e_aload_n (pc := 126) d_M_fill_126 rfl ?_
        refine e_get (pc := 127) s_M_fill_127 rfl rfl ?_
        refine e_iload_n (pc := 130) d_M_fill_130 rfl ?_
        refine e_iconst (pc := 131) (v := 0) d_M_fill_131 (by decide) ?_
        refine e_iast (pc := 132) d_M_fill_132 rfl (vp_dec (by decide)) (vWk (c := 2) (by decide)) ?_
        refine e_aload_n (pc := 133) d_M_fill_133 rfl ?_
        refine e_get (pc := 134) s_M_fill_134 rfl rfl ?_
        refine e_iload_n (pc := 137) d_M_fill_137 rfl ?_
        refine e_iconst (pc := 138) (v := 0) d_M_fill_138 (by decide) ?_
        refine e_zast (pc := 139) d_M_fill_139 rfl (vp_dec (by decide)) (Or.inl rfl) (vWf (c := 2) (by decide)) ?_
        refine e_iconst (pc := 140) (v := 1) d_M_fill_140 (by decide) ?_
        exact e_iret (pc := 141) d_M_fill_141 rfl rfl (Nat.le_of_ble_eq_true rfl) (Nat.le_of_ble_eq_true rfl) (zN2 (flMe (by simp [flT, hz11, hz13, hz15])))
set_option maxHeartbeats 4000000 in
set_option maxRecDepth 100000 in
theorem sY_poke {l : Launch} {G : zGP} {K : Nat} {S T : St} {th : Int32} {fo : Nat → Int64} {x v : Int32} (hx : ¬ (0 ≤ x ∧ x < 8)) : Rn l G m_M_poke [.ref 45, .int x, .int v] (hpA K S T th fo) (.inl none, (hpA K S T 1 fo)) := by
  refine Rn.of (by decide) rfl rfl (Nat.le_of_ble_eq_true rfl) rfl ?_
  show Ev l G m_M_poke 0 [.ref 45, .int x, .int v, .double 0, .double 0] [] (hpA K S T th fo) 0 0 _
  refine e_iconst (pc := 0) (v := 0) d_M_poke_0 (by decide) ?_
  refine e_istore_n (pc := 1) d_M_poke_1 (Nat.le_of_ble_eq_true rfl) ?_
  dsimp only [List.set]
  refine e_iconst (pc := 2) (v := 0) d_M_poke_2 (by decide) ?_
  refine e_istore (pc := 3) d_M_poke_3 (Nat.le_of_ble_eq_true rfl) ?_
  dsimp only [List.set]
  refine e_iload (pc := 5) d_M_poke_5 rfl ?_
  refine e_iconst (pc := 7) (v := 3) d_M_poke_7 (by decide) ?_
  refine e_icmp_ge (pc := 8) (tgt := 68) d_M_poke_8 (by decide) (fun zz => absurd zz (by decide)) (fun _ => ?_)
  refine e_iload_n (pc := 11) d_M_poke_11 rfl ?_
  refine e_if_lt (pc := 12) (tgt := 68) d_M_poke_12 (by decide) (fun hz16 => ?_) (fun hz16 => ?_)
  · refine e_aload_n (pc := 68) d_M_poke_68 rfl ?_
    refine e_iload_n (pc := 69) d_M_poke_69 rfl ?_
    refine e_if_lt (pc := 70) (tgt := 79) d_M_poke_70 (by decide) (fun hz17 => ?_) (fun hz17 => ?_)
    · refine e_iconst (pc := 79) (v := 1) d_M_poke_79 (by decide) ?_
      refine e_goto (pc := 80) (tgt := 92) d_M_poke_80 (by decide) ?_
      refine e_put (pc := 92) s_M_poke_92 rfl (Nat.le_of_ble_eq_true rfl) zFit.int wTh ?_
      refine e_aload_n (pc := 95) d_M_poke_95 rfl ?_
      refine e_get (pc := 96) s_M_poke_96 rfl rfl ?_
      refine e_if_ne (pc := 99) (tgt := 109) d_M_poke_99 (by decide) (fun _ => ?_) (fun zz => absurd zz (by decide))
      exact e_vret (pc := 109) d_M_poke_109 rfl (Nat.le_of_ble_eq_true rfl) (Nat.le_of_ble_eq_true rfl) (by simp [hz16, hz17])
    · refine e_iload_n (pc := 73) d_M_poke_73 rfl ?_
      refine e_bipush (pc := 74) (v := 7) d_M_poke_74 (by decide) ?_
      refine e_icmp_le (pc := 76) (tgt := 83) d_M_poke_76 (by decide) (fun hz18 => ?_) (fun hz18 => ?_)
      · exact absurd ⟨Int32.not_lt.mp (by assumption), le7.mp (by assumption)⟩ hx
      · refine e_iconst (pc := 79) (v := 1) d_M_poke_79 (by decide) ?_
        refine e_goto (pc := 80) (tgt := 92) d_M_poke_80 (by decide) ?_
        refine e_put (pc := 92) s_M_poke_92 rfl (Nat.le_of_ble_eq_true rfl) zFit.int wTh ?_
        refine e_aload_n (pc := 95) d_M_poke_95 rfl ?_
        refine e_get (pc := 96) s_M_poke_96 rfl rfl ?_
        refine e_if_ne (pc := 99) (tgt := 109) d_M_poke_99 (by decide) (fun _ => ?_) (fun zz => absurd zz (by decide))
        exact e_vret (pc := 109) d_M_poke_109 rfl (Nat.le_of_ble_eq_true rfl) (Nat.le_of_ble_eq_true rfl) (by simp [hz16, hz17, hz18])
  · refine e_iload_n (pc := 15) d_M_poke_15 rfl ?_
    refine e_bipush (pc := 16) (v := 8) d_M_poke_16 (by decide) ?_
    refine e_icmp_ge (pc := 18) (tgt := 68) d_M_poke_18 (by decide) (fun hz19 => ?_) (fun hz19 => ?_)
    · refine e_aload_n (pc := 68) d_M_poke_68 rfl ?_
      refine e_iload_n (pc := 69) d_M_poke_69 rfl ?_
      refine e_if_lt (pc := 70) (tgt := 79) d_M_poke_70 (by decide) (fun hz20 => ?_) (fun hz20 => ?_)
      · refine e_iconst (pc := 79) (v := 1) d_M_poke_79 (by decide) ?_
        refine e_goto (pc := 80) (tgt := 92) d_M_poke_80 (by decide) ?_
        refine e_put (pc := 92) s_M_poke_92 rfl (Nat.le_of_ble_eq_true rfl) zFit.int wTh ?_
        refine e_aload_n (pc := 95) d_M_poke_95 rfl ?_
        refine e_get (pc := 96) s_M_poke_96 rfl rfl ?_
        refine e_if_ne (pc := 99) (tgt := 109) d_M_poke_99 (by decide) (fun _ => ?_) (fun zz => absurd zz (by decide))
        exact e_vret (pc := 109) d_M_poke_109 rfl (Nat.le_of_ble_eq_true rfl) (Nat.le_of_ble_eq_true rfl) (by simp [hz16, hz19, hz20])
      · refine e_iload_n (pc := 73) d_M_poke_73 rfl ?_
        refine e_bipush (pc := 74) (v := 7) d_M_poke_74 (by decide) ?_
        refine e_icmp_le (pc := 76) (tgt := 83) d_M_poke_76 (by decide) (fun hz21 => ?_) (fun hz21 => ?_)
        · exact absurd ⟨Int32.not_lt.mp (by assumption), le7.mp (by assumption)⟩ hx
        · refine e_iconst (pc := 79) (v := 1) d_M_poke_79 (by decide) ?_
          refine e_goto (pc := 80) (tgt := 92) d_M_poke_80 (by decide) ?_
          refine e_put (pc := 92) s_M_poke_92 rfl (Nat.le_of_ble_eq_true rfl) zFit.int wTh ?_
          refine e_aload_n (pc := 95) d_M_poke_95 rfl ?_
          refine e_get (pc := 96) s_M_poke_96 rfl rfl ?_
          refine e_if_ne (pc := 99) (tgt := 109) d_M_poke_99 (by decide) (fun _ => ?_) (fun zz => absurd zz (by decide))
          exact e_vret (pc := 109) d_M_poke_109 rfl (Nat.le_of_ble_eq_true rfl) (Nat.le_of_ble_eq_true rfl) (by simp [hz16, hz19, hz20, hz21])
    · exact absurd ⟨Int32.not_lt.mp (by assumption), Int32.not_le.mp (by assumption)⟩ hx
set_option maxHeartbeats 4000000 in
set_option maxRecDepth 100000 in
theorem sM_poke {l : Launch} {G : zGP} {K : Nat} {S T : St} {th : Int32} {fo : Nat → Int64} {k : Nat} {v : Int32} (hk : k < 8) (hu : ¬ useS T k) : Rn l G m_M_poke [.ref 45, .int (nI k), .int v] (hpA K S T th fo) (.inl none, (hpA K S (su T 16 0 k v) 0 fo)) := by
  refine Rn.of (by decide) rfl rfl (Nat.le_of_ble_eq_true rfl) rfl ?_
  show Ev l G m_M_poke 0 [.ref 45, .int (nI k), .int v, .double 0, .double 0] [] (hpA K S T th fo) 0 0 _
  refine e_iconst (pc := 0) (v := 0) d_M_poke_0 (by decide) ?_
  refine e_istore_n (pc := 1) d_M_poke_1 (Nat.le_of_ble_eq_true rfl) ?_
  dsimp only [List.set]
  refine e_iconst (pc := 2) (v := 0) d_M_poke_2 (by decide) ?_
  refine e_istore (pc := 3) d_M_poke_3 (Nat.le_of_ble_eq_true rfl) ?_
  dsimp only [List.set]
  refine e_iload (pc := 5) d_M_poke_5 rfl ?_
  refine e_iconst (pc := 7) (v := 3) d_M_poke_7 (by decide) ?_
  refine e_icmp_ge (pc := 8) (tgt := 68) d_M_poke_8 (by decide) (fun zz => absurd zz (by decide)) (fun _ => ?_)
  refine e_iload_n (pc := 11) d_M_poke_11 rfl ?_
  refine e_if_lt (pc := 12) (tgt := 68) d_M_poke_12 (by decide) (fun zz => absurd zz (nI_pos (by omega))) (fun _ => ?_)
  refine e_iload_n (pc := 15) d_M_poke_15 rfl ?_
  refine e_bipush (pc := 16) (v := 8) d_M_poke_16 (by decide) ?_
  refine e_icmp_ge (pc := 18) (tgt := 68) d_M_poke_18 (by decide) (fun zz => absurd zz (nI_ge (b := 8) hk (by decide))) (fun _ => ?_)
  refine e_iload_n (pc := 21) d_M_poke_21 rfl ?_
  refine e_if_ne (pc := 22) (tgt := 56) d_M_poke_22 (by decide) (fun zz => absurd (by decide) zz) (fun _ => ?_)
  refine e_aload_n (pc := 25) d_M_poke_25 rfl ?_
  refine e_iload (pc := 26) d_M_poke_26 rfl ?_
  refine e_topi (y := nI 0) (by decide) ?_
  refine e_iload_n (pc := 28) d_M_poke_28 rfl ?_
  refine e_cV2 (pc := 29) s_M_poke_29 (sM_has (c := 0) (by decide) hk) rfl rfl rfl (Nat.le_of_ble_eq_true rfl) (Nat.le_of_ble_eq_true rfl) (Nat.le_of_ble_eq_true rfl) (zGo.v ?_)
  refine e_if_ne (pc := 32) (tgt := 56) d_M_poke_32 (by decide) (fun hz22 => ?_) (fun hz22 => ?_)
  · replace hz22 := b1.mp hz22
    exact absurd (show useS T k by first | exact Or.inl (by assumption) | exact Or.inr (Or.inr (Or.inl (by assumption))) | exact Or.inr (Or.inr (Or.inr (Or.inr (Or.inl (by assumption))))) | simp [useS, flyS, hz22]) hu
  · replace hz22 := b0.mp hz22
    refine e_aload_n (pc := 35) d_M_poke_35 rfl ?_
    refine e_get (pc := 36) s_M_poke_36 rfl rfl ?_
    refine e_iload (pc := 39) d_M_poke_39 rfl ?_
    refine e_zald (pc := 41) d_M_poke_41 rfl (vp_dec (by decide)) (fx1 (c := 0) (by decide)) ?_
    refine e_if_eq (pc := 42) (tgt := 60) d_M_poke_42 (by decide) (fun hz23 => ?_) (fun hz23 => ?_)
    · refine e_iconst (pc := 60) (v := 0) d_M_poke_60 (by decide) ?_
      refine e_istore_n (pc := 61) d_M_poke_61 (Nat.le_of_ble_eq_true rfl) ?_
      dsimp only [List.set]
      refine e_iinc (pc := 62) d_M_poke_62 rfl (Nat.le_of_ble_eq_true rfl) ?_
      dsimp only [List.set]
      refine e_goto (pc := 65) (tgt := 5) d_M_poke_65 (by decide) ?_
      refine e_iload (pc := 5) d_M_poke_5 rfl ?_
      refine e_iconst (pc := 7) (v := 3) d_M_poke_7 (by decide) ?_
      refine e_icmp_ge (pc := 8) (tgt := 68) d_M_poke_8 (by decide) (fun zz => absurd zz (by decide)) (fun _ => ?_)
      refine e_iload_n (pc := 11) d_M_poke_11 rfl ?_
      refine e_if_lt (pc := 12) (tgt := 68) d_M_poke_12 (by decide) (fun zz => absurd zz (nI_pos (by omega))) (fun _ => ?_)
      refine e_iload_n (pc := 15) d_M_poke_15 rfl ?_
      refine e_bipush (pc := 16) (v := 8) d_M_poke_16 (by decide) ?_
      refine e_icmp_ge (pc := 18) (tgt := 68) d_M_poke_18 (by decide) (fun zz => absurd zz (nI_ge (b := 8) hk (by decide))) (fun _ => ?_)
      refine e_iload_n (pc := 21) d_M_poke_21 rfl ?_
      refine e_if_ne (pc := 22) (tgt := 56) d_M_poke_22 (by decide) (fun zz => absurd (by decide) zz) (fun _ => ?_)
      refine e_aload_n (pc := 25) d_M_poke_25 rfl ?_
      refine e_iload (pc := 26) d_M_poke_26 rfl ?_
      refine e_topi (y := nI 1) (by decide) ?_
      refine e_iload_n (pc := 28) d_M_poke_28 rfl ?_
      refine e_cV2 (pc := 29) s_M_poke_29 (sM_has (c := 1) (by decide) hk) rfl rfl rfl (Nat.le_of_ble_eq_true rfl) (Nat.le_of_ble_eq_true rfl) (Nat.le_of_ble_eq_true rfl) (zGo.v ?_)
      refine e_if_ne (pc := 32) (tgt := 56) d_M_poke_32 (by decide) (fun hz24 => ?_) (fun hz24 => ?_)
      · replace hz24 := b1.mp hz24
        exact absurd (show useS T k by first | exact Or.inl (by assumption) | exact Or.inr (Or.inr (Or.inl (by assumption))) | exact Or.inr (Or.inr (Or.inr (Or.inr (Or.inl (by assumption))))) | simp [useS, flyS, hz22, hz23, hz24]) hu
      · replace hz24 := b0.mp hz24
        refine e_aload_n (pc := 35) d_M_poke_35 rfl ?_
        refine e_get (pc := 36) s_M_poke_36 rfl rfl ?_
        refine e_iload (pc := 39) d_M_poke_39 rfl ?_
        refine e_zald (pc := 41) d_M_poke_41 rfl (vp_dec (by decide)) (fx1 (c := 1) (by decide)) ?_
        refine e_if_eq (pc := 42) (tgt := 60) d_M_poke_42 (by decide) (fun hz25 => ?_) (fun hz25 => ?_)
        · refine e_iconst (pc := 60) (v := 0) d_M_poke_60 (by decide) ?_
          refine e_istore_n (pc := 61) d_M_poke_61 (Nat.le_of_ble_eq_true rfl) ?_
          dsimp only [List.set]
          refine e_iinc (pc := 62) d_M_poke_62 rfl (Nat.le_of_ble_eq_true rfl) ?_
          dsimp only [List.set]
          refine e_goto (pc := 65) (tgt := 5) d_M_poke_65 (by decide) ?_
          refine e_iload (pc := 5) d_M_poke_5 rfl ?_
          refine e_iconst (pc := 7) (v := 3) d_M_poke_7 (by decide) ?_
          refine e_icmp_ge (pc := 8) (tgt := 68) d_M_poke_8 (by decide) (fun zz => absurd zz (by decide)) (fun _ => ?_)
          refine e_iload_n (pc := 11) d_M_poke_11 rfl ?_
          refine e_if_lt (pc := 12) (tgt := 68) d_M_poke_12 (by decide) (fun zz => absurd zz (nI_pos (by omega))) (fun _ => ?_)
          refine e_iload_n (pc := 15) d_M_poke_15 rfl ?_
          refine e_bipush (pc := 16) (v := 8) d_M_poke_16 (by decide) ?_
          refine e_icmp_ge (pc := 18) (tgt := 68) d_M_poke_18 (by decide) (fun zz => absurd zz (nI_ge (b := 8) hk (by decide))) (fun _ => ?_)
          refine e_iload_n (pc := 21) d_M_poke_21 rfl ?_
          refine e_if_ne (pc := 22) (tgt := 56) d_M_poke_22 (by decide) (fun zz => absurd (by decide) zz) (fun _ => ?_)
          refine e_aload_n (pc := 25) d_M_poke_25 rfl ?_
          refine e_iload (pc := 26) d_M_poke_26 rfl ?_
          refine e_topi (y := nI 2) (by decide) ?_
          refine e_iload_n (pc := 28) d_M_poke_28 rfl ?_
          refine e_cV2 (pc := 29) s_M_poke_29 (sM_has (c := 2) (by decide) hk) rfl rfl rfl (Nat.le_of_ble_eq_true rfl) (Nat.le_of_ble_eq_true rfl) (Nat.le_of_ble_eq_true rfl) (zGo.v ?_)
          refine e_if_ne (pc := 32) (tgt := 56) d_M_poke_32 (by decide) (fun hz26 => ?_) (fun hz26 => ?_)
          · replace hz26 := b1.mp hz26
            exact absurd (show useS T k by first | exact Or.inl (by assumption) | exact Or.inr (Or.inr (Or.inl (by assumption))) | exact Or.inr (Or.inr (Or.inr (Or.inr (Or.inl (by assumption))))) | simp [useS, flyS, hz22, hz23, hz24, hz25, hz26]) hu
          · replace hz26 := b0.mp hz26
            refine e_aload_n (pc := 35) d_M_poke_35 rfl ?_
            refine e_get (pc := 36) s_M_poke_36 rfl rfl ?_
            refine e_iload (pc := 39) d_M_poke_39 rfl ?_
            refine e_zald (pc := 41) d_M_poke_41 rfl (vp_dec (by decide)) (fx1 (c := 2) (by decide)) ?_
            refine e_if_eq (pc := 42) (tgt := 60) d_M_poke_42 (by decide) (fun hz27 => ?_) (fun hz27 => ?_)
            · refine e_iconst (pc := 60) (v := 0) d_M_poke_60 (by decide) ?_
              refine e_istore_n (pc := 61) d_M_poke_61 (Nat.le_of_ble_eq_true rfl) ?_
              dsimp only [List.set]
              refine e_iinc (pc := 62) d_M_poke_62 rfl (Nat.le_of_ble_eq_true rfl) ?_
              dsimp only [List.set]
              refine e_goto (pc := 65) (tgt := 5) d_M_poke_65 (by decide) ?_
              refine e_iload (pc := 5) d_M_poke_5 rfl ?_
              refine e_iconst (pc := 7) (v := 3) d_M_poke_7 (by decide) ?_
              refine e_icmp_ge (pc := 8) (tgt := 68) d_M_poke_8 (by decide) (fun _ => ?_) (fun zz => absurd (by decide) zz)
              refine e_aload_n (pc := 68) d_M_poke_68 rfl ?_
              refine e_iload_n (pc := 69) d_M_poke_69 rfl ?_
              refine e_if_lt (pc := 70) (tgt := 79) d_M_poke_70 (by decide) (fun zz => absurd zz (nI_pos (by omega))) (fun _ => ?_)
              refine e_iload_n (pc := 73) d_M_poke_73 rfl ?_
              refine e_bipush (pc := 74) (v := 7) d_M_poke_74 (by decide) ?_
              refine e_icmp_le (pc := 76) (tgt := 83) d_M_poke_76 (by decide) (fun _ => ?_) (fun zz => absurd (le7.mpr (nI_lt (b := 8) hk (by decide))) zz)
              refine e_iload_n (pc := 83) d_M_poke_83 rfl ?_
              refine e_if_eq (pc := 84) (tgt := 91) d_M_poke_84 (by decide) (fun _ => ?_) (fun zz => absurd (by decide) zz)
              refine e_iconst (pc := 91) (v := 0) d_M_poke_91 (by decide) ?_
              refine e_put (pc := 92) s_M_poke_92 rfl (Nat.le_of_ble_eq_true rfl) zFit.int wTh ?_
              refine e_aload_n (pc := 95) d_M_poke_95 rfl ?_
              refine e_get (pc := 96) s_M_poke_96 rfl rfl ?_
              refine e_if_ne (pc := 99) (tgt := 109) d_M_poke_99 (by decide) (fun zz => absurd (by decide) zz) (fun _ => ?_)
              refine e_aload_n (pc := 102) d_M_poke_102 rfl ?_
              refine e_get (pc := 103) s_M_poke_103 rfl rfl ?_
              refine e_iload_n (pc := 106) d_M_poke_106 rfl ?_
              refine e_iload_n (pc := 107) d_M_poke_107 rfl ?_
              refine e_iast (pc := 108) d_M_poke_108 rfl (vp_in_nI hk (by decide)) (vMem (nI_clamp (by omega))) ?_
              exact e_vret (pc := 109) d_M_poke_109 rfl (Nat.le_of_ble_eq_true rfl) (Nat.le_of_ble_eq_true rfl) rfl
            · refine e_aload_n (pc := 45) d_M_poke_45 rfl ?_
              refine e_get (pc := 46) s_M_poke_46 rfl rfl ?_
              refine e_iload (pc := 49) d_M_poke_49 rfl ?_
              refine e_iald (pc := 51) d_M_poke_51 rfl (vp_dec (by decide)) (fx1 (c := 2) (by decide)) ?_
              refine e_iload_n (pc := 52) d_M_poke_52 rfl ?_
              refine e_icmp_ne (pc := 53) (tgt := 60) d_M_poke_53 (by decide) (fun hz28 => ?_) (fun hz28 => ?_)
              · refine e_iconst (pc := 60) (v := 0) d_M_poke_60 (by decide) ?_
                refine e_istore_n (pc := 61) d_M_poke_61 (Nat.le_of_ble_eq_true rfl) ?_
                dsimp only [List.set]
                refine e_iinc (pc := 62) d_M_poke_62 rfl (Nat.le_of_ble_eq_true rfl) ?_
                dsimp only [List.set]
                refine e_goto (pc := 65) (tgt := 5) d_M_poke_65 (by decide) ?_
                refine e_iload (pc := 5) d_M_poke_5 rfl ?_
                refine e_iconst (pc := 7) (v := 3) d_M_poke_7 (by decide) ?_
                refine e_icmp_ge (pc := 8) (tgt := 68) d_M_poke_8 (by decide) (fun _ => ?_) (fun zz => absurd (by decide) zz)
                refine e_aload_n (pc := 68) d_M_poke_68 rfl ?_
                refine e_iload_n (pc := 69) d_M_poke_69 rfl ?_
                refine e_if_lt (pc := 70) (tgt := 79) d_M_poke_70 (by decide) (fun zz => absurd zz (nI_pos (by omega))) (fun _ => ?_)
                refine e_iload_n (pc := 73) d_M_poke_73 rfl ?_
                refine e_bipush (pc := 74) (v := 7) d_M_poke_74 (by decide) ?_
                refine e_icmp_le (pc := 76) (tgt := 83) d_M_poke_76 (by decide) (fun _ => ?_) (fun zz => absurd (le7.mpr (nI_lt (b := 8) hk (by decide))) zz)
                refine e_iload_n (pc := 83) d_M_poke_83 rfl ?_
                refine e_if_eq (pc := 84) (tgt := 91) d_M_poke_84 (by decide) (fun _ => ?_) (fun zz => absurd (by decide) zz)
                refine e_iconst (pc := 91) (v := 0) d_M_poke_91 (by decide) ?_
                refine e_put (pc := 92) s_M_poke_92 rfl (Nat.le_of_ble_eq_true rfl) zFit.int wTh ?_
                refine e_aload_n (pc := 95) d_M_poke_95 rfl ?_
                refine e_get (pc := 96) s_M_poke_96 rfl rfl ?_
                refine e_if_ne (pc := 99) (tgt := 109) d_M_poke_99 (by decide) (fun zz => absurd (by decide) zz) (fun _ => ?_)
                refine e_aload_n (pc := 102) d_M_poke_102 rfl ?_
                refine e_get (pc := 103) s_M_poke_103 rfl rfl ?_
                refine e_iload_n (pc := 106) d_M_poke_106 rfl ?_
                refine e_iload_n (pc := 107) d_M_poke_107 rfl ?_
                refine e_iast (pc := 108) d_M_poke_108 rfl (vp_in_nI hk (by decide)) (vMem (nI_clamp (by omega))) ?_
                exact e_vret (pc := 109) d_M_poke_109 rfl (Nat.le_of_ble_eq_true rfl) (Nat.le_of_ble_eq_true rfl) rfl
              · exact absurd (show useS T k by first | exact Or.inl (by assumption) | exact Or.inr (Or.inr (Or.inl (by assumption))) | exact Or.inr (Or.inr (Or.inr (Or.inr (Or.inl (by assumption))))) | simp [useS, flyS, hz22, hz23, hz24, hz25, hz26, hz27, hz28]) hu
        · refine e_aload_n (pc := 45) d_M_poke_45 rfl ?_
          refine e_get (pc := 46) s_M_poke_46 rfl rfl ?_
          refine e_iload (pc := 49) d_M_poke_49 rfl ?_
          refine e_iald (pc := 51) d_M_poke_51 rfl (vp_dec (by decide)) (fx1 (c := 1) (by decide)) ?_
          refine e_iload_n (pc := 52) d_M_poke_52 rfl ?_
          refine e_icmp_ne (pc := 53) (tgt := 60) d_M_poke_53 (by decide) (fun hz29 => ?_) (fun hz29 => ?_)
          · refine e_iconst (pc := 60) (v := 0) d_M_poke_60 (by decide) ?_
            refine e_istore_n (pc := 61) d_M_poke_61 (Nat.le_of_ble_eq_true rfl) ?_
            dsimp only [List.set]
            refine e_iinc (pc := 62) d_M_poke_62 rfl (Nat.le_of_ble_eq_true rfl) ?_
            dsimp only [List.set]
            refine e_goto (pc := 65) (tgt := 5) d_M_poke_65 (by decide) ?_
            refine e_iload (pc := 5) d_M_poke_5 rfl ?_
            refine e_iconst (pc := 7) (v := 3) d_M_poke_7 (by decide) ?_
            refine e_icmp_ge (pc := 8) (tgt := 68) d_M_poke_8 (by decide) (fun zz => absurd zz (by decide)) (fun _ => ?_)
            refine e_iload_n (pc := 11) d_M_poke_11 rfl ?_
            refine e_if_lt (pc := 12) (tgt := 68) d_M_poke_12 (by decide) (fun zz => absurd zz (nI_pos (by omega))) (fun _ => ?_)
            refine e_iload_n (pc := 15) d_M_poke_15 rfl ?_
            refine e_bipush (pc := 16) (v := 8) d_M_poke_16 (by decide) ?_
            refine e_icmp_ge (pc := 18) (tgt := 68) d_M_poke_18 (by decide) (fun zz => absurd zz (nI_ge (b := 8) hk (by decide))) (fun _ => ?_)
            refine e_iload_n (pc := 21) d_M_poke_21 rfl ?_
            refine e_if_ne (pc := 22) (tgt := 56) d_M_poke_22 (by decide) (fun zz => absurd (by decide) zz) (fun _ => ?_)
            refine e_aload_n (pc := 25) d_M_poke_25 rfl ?_
            refine e_iload (pc := 26) d_M_poke_26 rfl ?_
            refine e_topi (y := nI 2) (by decide) ?_
            refine e_iload_n (pc := 28) d_M_poke_28 rfl ?_
            refine e_cV2 (pc := 29) s_M_poke_29 (sM_has (c := 2) (by decide) hk) rfl rfl rfl (Nat.le_of_ble_eq_true rfl) (Nat.le_of_ble_eq_true rfl) (Nat.le_of_ble_eq_true rfl) (zGo.v ?_)
            refine e_if_ne (pc := 32) (tgt := 56) d_M_poke_32 (by decide) (fun hz30 => ?_) (fun hz30 => ?_)
            · replace hz30 := b1.mp hz30
              exact absurd (show useS T k by first | exact Or.inl (by assumption) | exact Or.inr (Or.inr (Or.inl (by assumption))) | exact Or.inr (Or.inr (Or.inr (Or.inr (Or.inl (by assumption))))) | simp [useS, flyS, hz22, hz23, hz24, hz25, hz29, hz30]) hu
            · replace hz30 := b0.mp hz30
              refine e_aload_n (pc := 35) d_M_poke_35 rfl ?_
              refine e_get (pc := 36) s_M_poke_36 rfl rfl ?_
              refine e_iload (pc := 39) d_M_poke_39 rfl ?_
              refine e_zald (pc := 41) d_M_poke_41 rfl (vp_dec (by decide)) (fx1 (c := 2) (by decide)) ?_
              refine e_if_eq (pc := 42) (tgt := 60) d_M_poke_42 (by decide) (fun hz31 => ?_) (fun hz31 => ?_)
              · refine e_iconst (pc := 60) (v := 0) d_M_poke_60 (by decide) ?_
                refine e_istore_n (pc := 61) d_M_poke_61 (Nat.le_of_ble_eq_true rfl) ?_
                dsimp only [List.set]
                refine e_iinc (pc := 62) d_M_poke_62 rfl (Nat.le_of_ble_eq_true rfl) ?_
                dsimp only [List.set]
                refine e_goto (pc := 65) (tgt := 5) d_M_poke_65 (by decide) ?_
                refine e_iload (pc := 5) d_M_poke_5 rfl ?_
                refine e_iconst (pc := 7) (v := 3) d_M_poke_7 (by decide) ?_
                refine e_icmp_ge (pc := 8) (tgt := 68) d_M_poke_8 (by decide) (fun _ => ?_) (fun zz => absurd (by decide) zz)
                refine e_aload_n (pc := 68) d_M_poke_68 rfl ?_
                refine e_iload_n (pc := 69) d_M_poke_69 rfl ?_
                refine e_if_lt (pc := 70) (tgt := 79) d_M_poke_70 (by decide) (fun zz => absurd zz (nI_pos (by omega))) (fun _ => ?_)
                refine e_iload_n (pc := 73) d_M_poke_73 rfl ?_
                refine e_bipush (pc := 74) (v := 7) d_M_poke_74 (by decide) ?_
                refine e_icmp_le (pc := 76) (tgt := 83) d_M_poke_76 (by decide) (fun _ => ?_) (fun zz => absurd (le7.mpr (nI_lt (b := 8) hk (by decide))) zz)
                refine e_iload_n (pc := 83) d_M_poke_83 rfl ?_
                refine e_if_eq (pc := 84) (tgt := 91) d_M_poke_84 (by decide) (fun _ => ?_) (fun zz => absurd (by decide) zz)
                refine e_iconst (pc := 91) (v := 0) d_M_poke_91 (by decide) ?_
                refine e_put (pc := 92) s_M_poke_92 rfl (Nat.le_of_ble_eq_true rfl) zFit.int wTh ?_
                refine e_aload_n (pc := 95) d_M_poke_95 rfl ?_
                refine e_get (pc := 96) s_M_poke_96 rfl rfl ?_
                refine e_if_ne (pc := 99) (tgt := 109) d_M_poke_99 (by decide) (fun zz => absurd (by decide) zz) (fun _ => ?_)
                refine e_aload_n (pc := 102) d_M_poke_102 rfl ?_
                refine e_get (pc := 103) s_M_poke_103 rfl rfl ?_
                refine e_iload_n (pc := 106) d_M_poke_106 rfl ?_
                refine e_iload_n (pc := 107) d_M_poke_107 rfl ?_
                refine e_iast (pc := 108) d_M_poke_108 rfl (vp_in_nI hk (by decide)) (vMem (nI_clamp (by omega))) ?_
                exact e_vret (pc := 109) d_M_poke_109 rfl (Nat.le_of_ble_eq_true rfl) (Nat.le_of_ble_eq_true rfl) rfl
              · refine e_aload_n (pc := 45) d_M_poke_45 rfl ?_
                refine e_get (pc := 46) s_M_poke_46 rfl rfl ?_
                refine e_iload (pc := 49) d_M_poke_49 rfl ?_
                refine e_iald (pc := 51) d_M_poke_51 rfl (vp_dec (by decide)) (fx1 (c := 2) (by decide)) ?_
                refine e_iload_n (pc := 52) d_M_poke_52 rfl ?_
                refine e_icmp_ne (pc := 53) (tgt := 60) d_M_poke_53 (by decide) (fun hz32 => ?_) (fun hz32 => ?_)
                · refine e_iconst (pc := 60) (v := 0) d_M_poke_60 (by decide) ?_
                  refine e_istore_n (pc := 61) d_M_poke_61 (Nat.le_of_ble_eq_true rfl) ?_
                  dsimp only [List.set]
                  refine e_iinc (pc := 62) d_M_poke_62 rfl (Nat.le_of_ble_eq_true rfl) ?_
                  dsimp only [List.set]
                  refine e_goto (pc := 65) (tgt := 5) d_M_poke_65 (by decide) ?_
                  refine e_iload (pc := 5) d_M_poke_5 rfl ?_
                  refine e_iconst (pc := 7) (v := 3) d_M_poke_7 (by decide) ?_
                  refine e_icmp_ge (pc := 8) (tgt := 68) d_M_poke_8 (by decide) (fun _ => ?_) (fun zz => absurd (by decide) zz)
                  refine e_aload_n (pc := 68) d_M_poke_68 rfl ?_
                  refine e_iload_n (pc := 69) d_M_poke_69 rfl ?_
                  refine e_if_lt (pc := 70) (tgt := 79) d_M_poke_70 (by decide) (fun zz => absurd zz (nI_pos (by omega))) (fun _ => ?_)
                  refine e_iload_n (pc := 73) d_M_poke_73 rfl ?_
                  refine e_bipush (pc := 74) (v := 7) d_M_poke_74 (by decide) ?_
                  refine e_icmp_le (pc := 76) (tgt := 83) d_M_poke_76 (by decide) (fun _ => ?_) (fun zz => absurd (le7.mpr (nI_lt (b := 8) hk (by decide))) zz)
                  refine e_iload_n (pc := 83) d_M_poke_83 rfl ?_
                  refine e_if_eq (pc := 84) (tgt := 91) d_M_poke_84 (by decide) (fun _ => ?_) (fun zz => absurd (by decide) zz)
                  refine e_iconst (pc := 91) (v := 0) d_M_poke_91 (by decide) ?_
                  refine e_put (pc := 92) s_M_poke_92 rfl (Nat.le_of_ble_eq_true rfl) zFit.int wTh ?_
                  refine e_aload_n (pc := 95) d_M_poke_95 rfl ?_
                  refine e_get (pc := 96) s_M_poke_96 rfl rfl ?_
                  refine e_if_ne (pc := 99) (tgt := 109) d_M_poke_99 (by decide) (fun zz => absurd (by decide) zz) (fun _ => ?_)
                  refine e_aload_n (pc := 102) d_M_poke_102 rfl ?_
                  refine e_get (pc := 103) s_M_poke_103 rfl rfl ?_
                  refine e_iload_n (pc := 106) d_M_poke_106 rfl ?_
                  refine e_iload_n (pc := 107) d_M_poke_107 rfl ?_
                  refine e_iast (pc := 108) d_M_poke_108 rfl (vp_in_nI hk (by decide)) (vMem (nI_clamp (by omega))) ?_
                  exact e_vret (pc := 109) d_M_poke_109 rfl (Nat.le_of_ble_eq_true rfl) (Nat.le_of_ble_eq_true rfl) rfl
                · exact absurd (show useS T k by first | exact Or.inl (by assumption) | exact Or.inr (Or.inr (Or.inl (by assumption))) | exact Or.inr (Or.inr (Or.inr (Or.inr (Or.inl (by assumption))))) | simp [useS, flyS, hz22, hz23, hz24, hz25, hz29, hz30, hz31, hz32]) hu
          · exact absurd (show useS T k by first | exact Or.inl (by assumption) | exact Or.inr (Or.inr (Or.inl (by assumption))) | exact Or.inr (Or.inr (Or.inr (Or.inr (Or.inl (by assumption))))) | simp [useS, flyS, hz22, hz23, hz24, hz25, hz29]) hu
    · refine e_aload_n (pc := 45) d_M_poke_45 rfl ?_
      refine e_get (pc := 46) s_M_poke_46 rfl rfl ?_
      refine e_iload (pc := 49) d_M_poke_49 rfl ?_
      refine e_iald (pc := 51) d_M_poke_51 rfl (vp_dec (by decide)) (fx1 (c := 0) (by decide)) ?_
      refine e_iload_n (pc := 52) d_M_poke_52 rfl ?_
      refine e_icmp_ne (pc := 53) (tgt := 60) d_M_poke_53 (by decide) (fun hz33 => ?_) (fun hz33 => ?_)
      · refine e_iconst (pc := 60) (v := 0) d_M_poke_60 (by decide) ?_
        refine e_istore_n (pc := 61) d_M_poke_61 (Nat.le_of_ble_eq_true rfl) ?_
        dsimp only [List.set]
        refine e_iinc (pc := 62) d_M_poke_62 rfl (Nat.le_of_ble_eq_true rfl) ?_
        dsimp only [List.set]
        refine e_goto (pc := 65) (tgt := 5) d_M_poke_65 (by decide) ?_
        refine e_iload (pc := 5) d_M_poke_5 rfl ?_
        refine e_iconst (pc := 7) (v := 3) d_M_poke_7 (by decide) ?_
        refine e_icmp_ge (pc := 8) (tgt := 68) d_M_poke_8 (by decide) (fun zz => absurd zz (by decide)) (fun _ => ?_)
        refine e_iload_n (pc := 11) d_M_poke_11 rfl ?_
        refine e_if_lt (pc := 12) (tgt := 68) d_M_poke_12 (by decide) (fun zz => absurd zz (nI_pos (by omega))) (fun _ => ?_)
        refine e_iload_n (pc := 15) d_M_poke_15 rfl ?_
        refine e_bipush (pc := 16) (v := 8) d_M_poke_16 (by decide) ?_
        refine e_icmp_ge (pc := 18) (tgt := 68) d_M_poke_18 (by decide) (fun zz => absurd zz (nI_ge (b := 8) hk (by decide))) (fun _ => ?_)
        refine e_iload_n (pc := 21) d_M_poke_21 rfl ?_
        refine e_if_ne (pc := 22) (tgt := 56) d_M_poke_22 (by decide) (fun zz => absurd (by decide) zz) (fun _ => ?_)
        refine e_aload_n (pc := 25) d_M_poke_25 rfl ?_
        refine e_iload (pc := 26) d_M_poke_26 rfl ?_
        refine e_topi (y := nI 1) (by decide) ?_
        refine e_iload_n (pc := 28) d_M_poke_28 rfl ?_
        refine e_cV2 (pc := 29) s_M_poke_29 (sM_has (c := 1) (by decide) hk) rfl rfl rfl (Nat.le_of_ble_eq_true rfl) (Nat.le_of_ble_eq_true rfl) (Nat.le_of_ble_eq_true rfl) (zGo.v ?_)
        refine e_if_ne (pc := 32) (tgt := 56) d_M_poke_32 (by decide) (fun hz34 => ?_) (fun hz34 => ?_)
        · replace hz34 := b1.mp hz34
          exact absurd (show useS T k by first | exact Or.inl (by assumption) | exact Or.inr (Or.inr (Or.inl (by assumption))) | exact Or.inr (Or.inr (Or.inr (Or.inr (Or.inl (by assumption))))) | simp [useS, flyS, hz22, hz23, hz33, hz34]) hu
        · replace hz34 := b0.mp hz34
          refine e_aload_n (pc := 35) d_M_poke_35 rfl ?_
          refine e_get (pc := 36) s_M_poke_36 rfl rfl ?_
          refine e_iload (pc := 39) d_M_poke_39 rfl ?_
          refine e_zald (pc := 41) d_M_poke_41 rfl (vp_dec (by decide)) (fx1 (c := 1) (by decide)) ?_
          refine e_if_eq (pc := 42) (tgt := 60) d_M_poke_42 (by decide) (fun hz35 => ?_) (fun hz35 => ?_)
          · refine e_iconst (pc := 60) (v := 0) d_M_poke_60 (by decide) ?_
            refine e_istore_n (pc := 61) d_M_poke_61 (Nat.le_of_ble_eq_true rfl) ?_
            dsimp only [List.set]
            refine e_iinc (pc := 62) d_M_poke_62 rfl (Nat.le_of_ble_eq_true rfl) ?_
            dsimp only [List.set]
            refine e_goto (pc := 65) (tgt := 5) d_M_poke_65 (by decide) ?_
            refine e_iload (pc := 5) d_M_poke_5 rfl ?_
            refine e_iconst (pc := 7) (v := 3) d_M_poke_7 (by decide) ?_
            refine e_icmp_ge (pc := 8) (tgt := 68) d_M_poke_8 (by decide) (fun zz => absurd zz (by decide)) (fun _ => ?_)
            refine e_iload_n (pc := 11) d_M_poke_11 rfl ?_
            refine e_if_lt (pc := 12) (tgt := 68) d_M_poke_12 (by decide) (fun zz => absurd zz (nI_pos (by omega))) (fun _ => ?_)
            refine e_iload_n (pc := 15) d_M_poke_15 rfl ?_
            refine e_bipush (pc := 16) (v := 8) d_M_poke_16 (by decide) ?_
            refine e_icmp_ge (pc := 18) (tgt := 68) d_M_poke_18 (by decide) (fun zz => absurd zz (nI_ge (b := 8) hk (by decide))) (fun _ => ?_)
            refine e_iload_n (pc := 21) d_M_poke_21 rfl ?_
            refine e_if_ne (pc := 22) (tgt := 56) d_M_poke_22 (by decide) (fun zz => absurd (by decide) zz) (fun _ => ?_)
            refine e_aload_n (pc := 25) d_M_poke_25 rfl ?_
            refine e_iload (pc := 26) d_M_poke_26 rfl ?_
            refine e_topi (y := nI 2) (by decide) ?_
            refine e_iload_n (pc := 28) d_M_poke_28 rfl ?_
            refine e_cV2 (pc := 29) s_M_poke_29 (sM_has (c := 2) (by decide) hk) rfl rfl rfl (Nat.le_of_ble_eq_true rfl) (Nat.le_of_ble_eq_true rfl) (Nat.le_of_ble_eq_true rfl) (zGo.v ?_)
            refine e_if_ne (pc := 32) (tgt := 56) d_M_poke_32 (by decide) (fun hz36 => ?_) (fun hz36 => ?_)
            · replace hz36 := b1.mp hz36
              exact absurd (show useS T k by first | exact Or.inl (by assumption) | exact Or.inr (Or.inr (Or.inl (by assumption))) | exact Or.inr (Or.inr (Or.inr (Or.inr (Or.inl (by assumption))))) | simp [useS, flyS, hz22, hz23, hz33, hz34, hz35, hz36]) hu
            · replace hz36 := b0.mp hz36
              refine e_aload_n (pc := 35) d_M_poke_35 rfl ?_
              refine e_get (pc := 36) s_M_poke_36 rfl rfl ?_
              refine e_iload (pc := 39) d_M_poke_39 rfl ?_
              refine e_zald (pc := 41) d_M_poke_41 rfl (vp_dec (by decide)) (fx1 (c := 2) (by decide)) ?_
              refine e_if_eq (pc := 42) (tgt := 60) d_M_poke_42 (by decide) (fun hz37 => ?_) (fun hz37 => ?_)
              · refine e_iconst (pc := 60) (v := 0) d_M_poke_60 (by decide) ?_
                refine e_istore_n (pc := 61) d_M_poke_61 (Nat.le_of_ble_eq_true rfl) ?_
                dsimp only [List.set]
                refine e_iinc (pc := 62) d_M_poke_62 rfl (Nat.le_of_ble_eq_true rfl) ?_
                dsimp only [List.set]
                refine e_goto (pc := 65) (tgt := 5) d_M_poke_65 (by decide) ?_
                refine e_iload (pc := 5) d_M_poke_5 rfl ?_
                refine e_iconst (pc := 7) (v := 3) d_M_poke_7 (by decide) ?_
                refine e_icmp_ge (pc := 8) (tgt := 68) d_M_poke_8 (by decide) (fun _ => ?_) (fun zz => absurd (by decide) zz)
                refine e_aload_n (pc := 68) d_M_poke_68 rfl ?_
                refine e_iload_n (pc := 69) d_M_poke_69 rfl ?_
                refine e_if_lt (pc := 70) (tgt := 79) d_M_poke_70 (by decide) (fun zz => absurd zz (nI_pos (by omega))) (fun _ => ?_)
                refine e_iload_n (pc := 73) d_M_poke_73 rfl ?_
                refine e_bipush (pc := 74) (v := 7) d_M_poke_74 (by decide) ?_
                refine e_icmp_le (pc := 76) (tgt := 83) d_M_poke_76 (by decide) (fun _ => ?_) (fun zz => absurd (le7.mpr (nI_lt (b := 8) hk (by decide))) zz)
                refine e_iload_n (pc := 83) d_M_poke_83 rfl ?_
                refine e_if_eq (pc := 84) (tgt := 91) d_M_poke_84 (by decide) (fun _ => ?_) (fun zz => absurd (by decide) zz)
                refine e_iconst (pc := 91) (v := 0) d_M_poke_91 (by decide) ?_
                refine e_put (pc := 92) s_M_poke_92 rfl (Nat.le_of_ble_eq_true rfl) zFit.int wTh ?_
                refine e_aload_n (pc := 95) d_M_poke_95 rfl ?_
                refine e_get (pc := 96) s_M_poke_96 rfl rfl ?_
                refine e_if_ne (pc := 99) (tgt := 109) d_M_poke_99 (by decide) (fun zz => absurd (by decide) zz) (fun _ => ?_)
                refine e_aload_n (pc := 102) d_M_poke_102 rfl ?_
                refine e_get (pc := 103) s_M_poke_103 rfl rfl ?_
                refine e_iload_n (pc := 106) d_M_poke_106 rfl ?_
                refine e_iload_n (pc := 107) d_M_poke_107 rfl ?_
                refine e_iast (pc := 108) d_M_poke_108 rfl (vp_in_nI hk (by decide)) (vMem (nI_clamp (by omega))) ?_
                exact e_vret (pc := 109) d_M_poke_109 rfl (Nat.le_of_ble_eq_true rfl) (Nat.le_of_ble_eq_true rfl) rfl
              · refine e_aload_n (pc := 45) d_M_poke_45 rfl ?_
                refine e_get (pc := 46) s_M_poke_46 rfl rfl ?_
                refine e_iload (pc := 49) d_M_poke_49 rfl ?_
                refine e_iald (pc := 51) d_M_poke_51 rfl (vp_dec (by decide)) (fx1 (c := 2) (by decide)) ?_
                refine e_iload_n (pc := 52) d_M_poke_52 rfl ?_
                refine e_icmp_ne (pc := 53) (tgt := 60) d_M_poke_53 (by decide) (fun hz38 => ?_) (fun hz38 => ?_)
                · refine e_iconst (pc := 60) (v := 0) d_M_poke_60 (by decide) ?_
                  refine e_istore_n (pc := 61) d_M_poke_61 (Nat.le_of_ble_eq_true rfl) ?_
                  dsimp only [List.set]
                  refine e_iinc (pc := 62) d_M_poke_62 rfl (Nat.le_of_ble_eq_true rfl) ?_
                  dsimp only [List.set]
                  refine e_goto (pc := 65) (tgt := 5) d_M_poke_65 (by decide) ?_
                  refine e_iload (pc := 5) d_M_poke_5 rfl ?_
                  refine e_iconst (pc := 7) (v := 3) d_M_poke_7 (by decide) ?_
                  refine e_icmp_ge (pc := 8) (tgt := 68) d_M_poke_8 (by decide) (fun _ => ?_) (fun zz => absurd (by decide) zz)
                  refine e_aload_n (pc := 68) d_M_poke_68 rfl ?_
                  refine e_iload_n (pc := 69) d_M_poke_69 rfl ?_
                  refine e_if_lt (pc := 70) (tgt := 79) d_M_poke_70 (by decide) (fun zz => absurd zz (nI_pos (by omega))) (fun _ => ?_)
                  refine e_iload_n (pc := 73) d_M_poke_73 rfl ?_
                  refine e_bipush (pc := 74) (v := 7) d_M_poke_74 (by decide) ?_
                  refine e_icmp_le (pc := 76) (tgt := 83) d_M_poke_76 (by decide) (fun _ => ?_) (fun zz => absurd (le7.mpr (nI_lt (b := 8) hk (by decide))) zz)
                  refine e_iload_n (pc := 83) d_M_poke_83 rfl ?_
                  refine e_if_eq (pc := 84) (tgt := 91) d_M_poke_84 (by decide) (fun _ => ?_) (fun zz => absurd (by decide) zz)
                  refine e_iconst (pc := 91) (v := 0) d_M_poke_91 (by decide) ?_
                  refine e_put (pc := 92) s_M_poke_92 rfl (Nat.le_of_ble_eq_true rfl) zFit.int wTh ?_
                  refine e_aload_n (pc := 95) d_M_poke_95 rfl ?_
                  refine e_get (pc := 96) s_M_poke_96 rfl rfl ?_
                  refine e_if_ne (pc := 99) (tgt := 109) d_M_poke_99 (by decide) (fun zz => absurd (by decide) zz) (fun _ => ?_)
                  refine e_aload_n (pc := 102) d_M_poke_102 rfl ?_
                  refine e_get (pc := 103) s_M_poke_103 rfl rfl ?_
                  refine e_iload_n (pc := 106) d_M_poke_106 rfl ?_
                  refine e_iload_n (pc := 107) d_M_poke_107 rfl ?_
                  refine e_iast (pc := 108) d_M_poke_108 rfl (vp_in_nI hk (by decide)) (vMem (nI_clamp (by omega))) ?_
                  exact e_vret (pc := 109) d_M_poke_109 rfl (Nat.le_of_ble_eq_true rfl) (Nat.le_of_ble_eq_true rfl) rfl
                · exact absurd (show useS T k by first | exact Or.inl (by assumption) | exact Or.inr (Or.inr (Or.inl (by assumption))) | exact Or.inr (Or.inr (Or.inr (Or.inr (Or.inl (by assumption))))) | simp [useS, flyS, hz22, hz23, hz33, hz34, hz35, hz36, hz37, hz38]) hu
          · refine e_aload_n (pc := 45) d_M_poke_45 rfl ?_
            refine e_get (pc := 46) s_M_poke_46 rfl rfl ?_
            refine e_iload (pc := 49) d_M_poke_49 rfl ?_
            refine e_iald (pc := 51) d_M_poke_51 rfl (vp_dec (by decide)) (fx1 (c := 1) (by decide)) ?_
            refine e_iload_n (pc := 52) d_M_poke_52 rfl ?_
            refine e_icmp_ne (pc := 53) (tgt := 60) d_M_poke_53 (by decide) (fun hz39 => ?_) (fun hz39 => ?_)
            · refine e_iconst (pc := 60) (v := 0) d_M_poke_60 (by decide) ?_
              refine e_istore_n (pc := 61) d_M_poke_61 (Nat.le_of_ble_eq_true rfl) ?_
              dsimp only [List.set]
              refine e_iinc (pc := 62) d_M_poke_62 rfl (Nat.le_of_ble_eq_true rfl) ?_
              dsimp only [List.set]
              refine e_goto (pc := 65) (tgt := 5) d_M_poke_65 (by decide) ?_
              refine e_iload (pc := 5) d_M_poke_5 rfl ?_
              refine e_iconst (pc := 7) (v := 3) d_M_poke_7 (by decide) ?_
              refine e_icmp_ge (pc := 8) (tgt := 68) d_M_poke_8 (by decide) (fun zz => absurd zz (by decide)) (fun _ => ?_)
              refine e_iload_n (pc := 11) d_M_poke_11 rfl ?_
              refine e_if_lt (pc := 12) (tgt := 68) d_M_poke_12 (by decide) (fun zz => absurd zz (nI_pos (by omega))) (fun _ => ?_)
              refine e_iload_n (pc := 15) d_M_poke_15 rfl ?_
              refine e_bipush (pc := 16) (v := 8) d_M_poke_16 (by decide) ?_
              refine e_icmp_ge (pc := 18) (tgt := 68) d_M_poke_18 (by decide) (fun zz => absurd zz (nI_ge (b := 8) hk (by decide))) (fun _ => ?_)
              refine e_iload_n (pc := 21) d_M_poke_21 rfl ?_
              refine e_if_ne (pc := 22) (tgt := 56) d_M_poke_22 (by decide) (fun zz => absurd (by decide) zz) (fun _ => ?_)
              refine e_aload_n (pc := 25) d_M_poke_25 rfl ?_
              refine e_iload (pc := 26) d_M_poke_26 rfl ?_
              refine e_topi (y := nI 2) (by decide) ?_
              refine e_iload_n (pc := 28) d_M_poke_28 rfl ?_
              refine e_cV2 (pc := 29) s_M_poke_29 (sM_has (c := 2) (by decide) hk) rfl rfl rfl (Nat.le_of_ble_eq_true rfl) (Nat.le_of_ble_eq_true rfl) (Nat.le_of_ble_eq_true rfl) (zGo.v ?_)
              refine e_if_ne (pc := 32) (tgt := 56) d_M_poke_32 (by decide) (fun hz40 => ?_) (fun hz40 => ?_)
              · replace hz40 := b1.mp hz40
                exact absurd (show useS T k by first | exact Or.inl (by assumption) | exact Or.inr (Or.inr (Or.inl (by assumption))) | exact Or.inr (Or.inr (Or.inr (Or.inr (Or.inl (by assumption))))) | simp [useS, flyS, hz22, hz23, hz33, hz34, hz35, hz39, hz40]) hu
              · replace hz40 := b0.mp hz40
                refine e_aload_n (pc := 35) d_M_poke_35 rfl ?_
                refine e_get (pc := 36) s_M_poke_36 rfl rfl ?_
                refine e_iload (pc := 39) d_M_poke_39 rfl ?_
                refine e_zald (pc := 41) d_M_poke_41 rfl (vp_dec (by decide)) (fx1 (c := 2) (by decide)) ?_
                refine e_if_eq (pc := 42) (tgt := 60) d_M_poke_42 (by decide) (fun hz41 => ?_) (fun hz41 => ?_)
                · refine e_iconst (pc := 60) (v := 0) d_M_poke_60 (by decide) ?_
                  refine e_istore_n (pc := 61) d_M_poke_61 (Nat.le_of_ble_eq_true rfl) ?_
                  dsimp only [List.set]
                  refine e_iinc (pc := 62) d_M_poke_62 rfl (Nat.le_of_ble_eq_true rfl) ?_
                  dsimp only [List.set]
                  refine e_goto (pc := 65) (tgt := 5) d_M_poke_65 (by decide) ?_
                  refine e_iload (pc := 5) d_M_poke_5 rfl ?_
                  refine e_iconst (pc := 7) (v := 3) d_M_poke_7 (by decide) ?_
                  refine e_icmp_ge (pc := 8) (tgt := 68) d_M_poke_8 (by decide) (fun _ => ?_) (fun zz => absurd (by decide) zz)
                  refine e_aload_n (pc := 68) d_M_poke_68 rfl ?_
                  refine e_iload_n (pc := 69) d_M_poke_69 rfl ?_
                  refine e_if_lt (pc := 70) (tgt := 79) d_M_poke_70 (by decide) (fun zz => absurd zz (nI_pos (by omega))) (fun _ => ?_)
                  refine e_iload_n (pc := 73) d_M_poke_73 rfl ?_
                  refine e_bipush (pc := 74) (v := 7) d_M_poke_74 (by decide) ?_
                  refine e_icmp_le (pc := 76) (tgt := 83) d_M_poke_76 (by decide) (fun _ => ?_) (fun zz => absurd (le7.mpr (nI_lt (b := 8) hk (by decide))) zz)
                  refine e_iload_n (pc := 83) d_M_poke_83 rfl ?_
                  refine e_if_eq (pc := 84) (tgt := 91) d_M_poke_84 (by decide) (fun _ => ?_) (fun zz => absurd (by decide) zz)
                  refine e_iconst (pc := 91) (v := 0) d_M_poke_91 (by decide) ?_
                  refine e_put (pc := 92) s_M_poke_92 rfl (Nat.le_of_ble_eq_true rfl) zFit.int wTh ?_
                  refine e_aload_n (pc := 95) d_M_poke_95 rfl ?_
                  refine e_get (pc := 96) s_M_poke_96 rfl rfl ?_
                  refine e_if_ne (pc := 99) (tgt := 109) d_M_poke_99 (by decide) (fun zz => absurd (by decide) zz) (fun _ => ?_)
                  refine e_aload_n (pc := 102) d_M_poke_102 rfl ?_
                  refine e_get (pc := 103) s_M_poke_103 rfl rfl ?_
                  refine e_iload_n (pc := 106) d_M_poke_106 rfl ?_
                  refine e_iload_n (pc := 107) d_M_poke_107 rfl ?_
                  refine e_iast (pc := 108) d_M_poke_108 rfl (vp_in_nI hk (by decide)) (vMem (nI_clamp (by omega))) ?_
                  exact e_vret (pc := 109) d_M_poke_109 rfl (Nat.le_of_ble_eq_true rfl) (Nat.le_of_ble_eq_true rfl) rfl
                · refine e_aload_n (pc := 45) d_M_poke_45 rfl ?_
                  refine e_get (pc := 46) s_M_poke_46 rfl rfl ?_
                  refine e_iload (pc := 49) d_M_poke_49 rfl ?_
                  refine e_iald (pc := 51) d_M_poke_51 rfl (vp_dec (by decide)) (fx1 (c := 2) (by decide)) ?_
                  refine e_iload_n (pc := 52) d_M_poke_52 rfl ?_
                  refine e_icmp_ne (pc := 53) (tgt := 60) d_M_poke_53 (by decide) (fun hz42 => ?_) (fun hz42 => ?_)
                  · refine e_iconst (pc := 60) (v := 0) d_M_poke_60 (by decide) ?_
                    refine e_istore_n (pc := 61) d_M_poke_61 (Nat.le_of_ble_eq_true rfl) ?_
                    dsimp only [List.set]
                    refine e_iinc (pc := 62) d_M_poke_62 rfl (Nat.le_of_ble_eq_true rfl) ?_
                    dsimp only [List.set]
                    refine e_goto (pc := 65) (tgt := 5) d_M_poke_65 (by decide) ?_
                    refine e_iload (pc := 5) d_M_poke_5 rfl ?_
                    refine e_iconst (pc := 7) (v := 3) d_M_poke_7 (by decide) ?_
                    refine e_icmp_ge (pc := 8) (tgt := 68) d_M_poke_8 (by decide) (fun _ => ?_) (fun zz => absurd (by decide) zz)
                    refine e_aload_n (pc := 68) d_M_poke_68 rfl ?_
                    refine e_iload_n (pc := 69) d_M_poke_69 rfl ?_
                    refine e_if_lt (pc := 70) (tgt := 79) d_M_poke_70 (by decide) (fun zz => absurd zz (nI_pos (by omega))) (fun _ => ?_)
                    refine e_iload_n (pc := 73) d_M_poke_73 rfl ?_
                    refine e_bipush (pc := 74) (v := 7) d_M_poke_74 (by decide) ?_
                    refine e_icmp_le (pc := 76) (tgt := 83) d_M_poke_76 (by decide) (fun _ => ?_) (fun zz => absurd (le7.mpr (nI_lt (b := 8) hk (by decide))) zz)
                    refine e_iload_n (pc := 83) d_M_poke_83 rfl ?_
                    refine e_if_eq (pc := 84) (tgt := 91) d_M_poke_84 (by decide) (fun _ => ?_) (fun zz => absurd (by decide) zz)
                    refine e_iconst (pc := 91) (v := 0) d_M_poke_91 (by decide) ?_
                    refine e_put (pc := 92) s_M_poke_92 rfl (Nat.le_of_ble_eq_true rfl) zFit.int wTh ?_
                    refine e_aload_n (pc := 95) d_M_poke_95 rfl ?_
                    refine e_get (pc := 96) s_M_poke_96 rfl rfl ?_
                    refine e_if_ne (pc := 99) (tgt := 109) d_M_poke_99 (by decide) (fun zz => absurd (by decide) zz) (fun _ => ?_)
                    refine e_aload_n (pc := 102) d_M_poke_102 rfl ?_
                    refine e_get (pc := 103) s_M_poke_103 rfl rfl ?_
                    refine e_iload_n (pc := 106) d_M_poke_106 rfl ?_
                    refine e_iload_n (pc := 107) d_M_poke_107 rfl ?_
                    refine e_iast (pc := 108) d_M_poke_108 rfl (vp_in_nI hk (by decide)) (vMem (nI_clamp (by omega))) ?_
                    exact e_vret (pc := 109) d_M_poke_109 rfl (Nat.le_of_ble_eq_true rfl) (Nat.le_of_ble_eq_true rfl) rfl
                  · exact absurd (show useS T k by first | exact Or.inl (by assumption) | exact Or.inr (Or.inr (Or.inl (by assumption))) | exact Or.inr (Or.inr (Or.inr (Or.inr (Or.inl (by assumption))))) | simp [useS, flyS, hz22, hz23, hz33, hz34, hz35, hz39, hz40, hz41, hz42]) hu
            · exact absurd (show useS T k by first | exact Or.inl (by assumption) | exact Or.inr (Or.inr (Or.inl (by assumption))) | exact Or.inr (Or.inr (Or.inr (Or.inr (Or.inl (by assumption))))) | simp [useS, flyS, hz22, hz23, hz33, hz34, hz35, hz39]) hu
      · exact absurd (show useS T k by first | exact Or.inl (by assumption) | exact Or.inr (Or.inr (Or.inl (by assumption))) | exact Or.inr (Or.inr (Or.inr (Or.inr (Or.inl (by assumption))))) | simp [useS, flyS, hz22, hz23, hz33]) hu
set_option maxHeartbeats 4000000 in
set_option maxRecDepth 100000 in
theorem sM_pokeX {l : Launch} {G : zGP} {K : Nat} {S T : St} {th : Int32} {fo : Nat → Int64} {k : Nat} {v : Int32} (hk : k < 8) (hu : useS T k) : Rn l G m_M_poke [.ref 45, .int (nI k), .int v] (hpA K S T th fo) (.inl none, (hpA K S T 2 fo)) := by
  refine Rn.of (by decide) rfl rfl (Nat.le_of_ble_eq_true rfl) rfl ?_
  show Ev l G m_M_poke 0 [.ref 45, .int (nI k), .int v, .double 0, .double 0] [] (hpA K S T th fo) 0 0 _
  refine e_iconst (pc := 0) (v := 0) d_M_poke_0 (by decide) ?_
  refine e_istore_n (pc := 1) d_M_poke_1 (Nat.le_of_ble_eq_true rfl) ?_
  dsimp only [List.set]
  refine e_iconst (pc := 2) (v := 0) d_M_poke_2 (by decide) ?_
  refine e_istore (pc := 3) d_M_poke_3 (Nat.le_of_ble_eq_true rfl) ?_
  dsimp only [List.set]
  refine e_iload (pc := 5) d_M_poke_5 rfl ?_
  refine e_iconst (pc := 7) (v := 3) d_M_poke_7 (by decide) ?_
  refine e_icmp_ge (pc := 8) (tgt := 68) d_M_poke_8 (by decide) (fun zz => absurd zz (by decide)) (fun _ => ?_)
  refine e_iload_n (pc := 11) d_M_poke_11 rfl ?_
  refine e_if_lt (pc := 12) (tgt := 68) d_M_poke_12 (by decide) (fun zz => absurd zz (nI_pos (by omega))) (fun _ => ?_)
  refine e_iload_n (pc := 15) d_M_poke_15 rfl ?_
  refine e_bipush (pc := 16) (v := 8) d_M_poke_16 (by decide) ?_
  refine e_icmp_ge (pc := 18) (tgt := 68) d_M_poke_18 (by decide) (fun zz => absurd zz (nI_ge (b := 8) hk (by decide))) (fun _ => ?_)
  refine e_iload_n (pc := 21) d_M_poke_21 rfl ?_
  refine e_if_ne (pc := 22) (tgt := 56) d_M_poke_22 (by decide) (fun zz => absurd (by decide) zz) (fun _ => ?_)
  refine e_aload_n (pc := 25) d_M_poke_25 rfl ?_
  refine e_iload (pc := 26) d_M_poke_26 rfl ?_
  refine e_topi (y := nI 0) (by decide) ?_
  refine e_iload_n (pc := 28) d_M_poke_28 rfl ?_
  refine e_cV2 (pc := 29) s_M_poke_29 (sM_has (c := 0) (by decide) hk) rfl rfl rfl (Nat.le_of_ble_eq_true rfl) (Nat.le_of_ble_eq_true rfl) (Nat.le_of_ble_eq_true rfl) (zGo.v ?_)
  refine e_if_ne (pc := 32) (tgt := 56) d_M_poke_32 (by decide) (fun hz43 => ?_) (fun hz43 => ?_)
  · replace hz43 := b1.mp hz43
    refine e_iconst (pc := 56) (v := 1) d_M_poke_56 (by decide) ?_
    refine e_goto (pc := 57) (tgt := 61) d_M_poke_57 (by decide) ?_
    refine e_istore_n (pc := 61) d_M_poke_61 (Nat.le_of_ble_eq_true rfl) ?_
    dsimp only [List.set]
    refine e_iinc (pc := 62) d_M_poke_62 rfl (Nat.le_of_ble_eq_true rfl) ?_
    dsimp only [List.set]
    refine e_goto (pc := 65) (tgt := 5) d_M_poke_65 (by decide) ?_
    refine e_iload (pc := 5) d_M_poke_5 rfl ?_
    refine e_iconst (pc := 7) (v := 3) d_M_poke_7 (by decide) ?_
    refine e_icmp_ge (pc := 8) (tgt := 68) d_M_poke_8 (by decide) (fun zz => absurd zz (by decide)) (fun _ => ?_)
    refine e_iload_n (pc := 11) d_M_poke_11 rfl ?_
    refine e_if_lt (pc := 12) (tgt := 68) d_M_poke_12 (by decide) (fun zz => absurd zz (nI_pos (by omega))) (fun _ => ?_)
    refine e_iload_n (pc := 15) d_M_poke_15 rfl ?_
    refine e_bipush (pc := 16) (v := 8) d_M_poke_16 (by decide) ?_
    refine e_icmp_ge (pc := 18) (tgt := 68) d_M_poke_18 (by decide) (fun zz => absurd zz (nI_ge (b := 8) hk (by decide))) (fun _ => ?_)
    refine e_iload_n (pc := 21) d_M_poke_21 rfl ?_
    refine e_if_ne (pc := 22) (tgt := 56) d_M_poke_22 (by decide) (fun _ => ?_) (fun zz => absurd zz (by decide))
    refine e_iconst (pc := 56) (v := 1) d_M_poke_56 (by decide) ?_
    refine e_goto (pc := 57) (tgt := 61) d_M_poke_57 (by decide) ?_
    refine e_istore_n (pc := 61) d_M_poke_61 (Nat.le_of_ble_eq_true rfl) ?_
    dsimp only [List.set]
    refine e_iinc (pc := 62) d_M_poke_62 rfl (Nat.le_of_ble_eq_true rfl) ?_
    dsimp only [List.set]
    refine e_goto (pc := 65) (tgt := 5) d_M_poke_65 (by decide) ?_
    refine e_iload (pc := 5) d_M_poke_5 rfl ?_
    refine e_iconst (pc := 7) (v := 3) d_M_poke_7 (by decide) ?_
    refine e_icmp_ge (pc := 8) (tgt := 68) d_M_poke_8 (by decide) (fun zz => absurd zz (by decide)) (fun _ => ?_)
    refine e_iload_n (pc := 11) d_M_poke_11 rfl ?_
    refine e_if_lt (pc := 12) (tgt := 68) d_M_poke_12 (by decide) (fun zz => absurd zz (nI_pos (by omega))) (fun _ => ?_)
    refine e_iload_n (pc := 15) d_M_poke_15 rfl ?_
    refine e_bipush (pc := 16) (v := 8) d_M_poke_16 (by decide) ?_
    refine e_icmp_ge (pc := 18) (tgt := 68) d_M_poke_18 (by decide) (fun zz => absurd zz (nI_ge (b := 8) hk (by decide))) (fun _ => ?_)
    refine e_iload_n (pc := 21) d_M_poke_21 rfl ?_
    refine e_if_ne (pc := 22) (tgt := 56) d_M_poke_22 (by decide) (fun _ => ?_) (fun zz => absurd zz (by decide))
    refine e_iconst (pc := 56) (v := 1) d_M_poke_56 (by decide) ?_
    refine e_goto (pc := 57) (tgt := 61) d_M_poke_57 (by decide) ?_
    refine e_istore_n (pc := 61) d_M_poke_61 (Nat.le_of_ble_eq_true rfl) ?_
    dsimp only [List.set]
    refine e_iinc (pc := 62) d_M_poke_62 rfl (Nat.le_of_ble_eq_true rfl) ?_
    dsimp only [List.set]
    refine e_goto (pc := 65) (tgt := 5) d_M_poke_65 (by decide) ?_
    refine e_iload (pc := 5) d_M_poke_5 rfl ?_
    refine e_iconst (pc := 7) (v := 3) d_M_poke_7 (by decide) ?_
    refine e_icmp_ge (pc := 8) (tgt := 68) d_M_poke_8 (by decide) (fun _ => ?_) (fun zz => absurd (by decide) zz)
    refine e_aload_n (pc := 68) d_M_poke_68 rfl ?_
    refine e_iload_n (pc := 69) d_M_poke_69 rfl ?_
    refine e_if_lt (pc := 70) (tgt := 79) d_M_poke_70 (by decide) (fun zz => absurd zz (nI_pos (by omega))) (fun _ => ?_)
    refine e_iload_n (pc := 73) d_M_poke_73 rfl ?_
    refine e_bipush (pc := 74) (v := 7) d_M_poke_74 (by decide) ?_
    refine e_icmp_le (pc := 76) (tgt := 83) d_M_poke_76 (by decide) (fun _ => ?_) (fun zz => absurd (le7.mpr (nI_lt (b := 8) hk (by decide))) zz)
    refine e_iload_n (pc := 83) d_M_poke_83 rfl ?_
    refine e_if_eq (pc := 84) (tgt := 91) d_M_poke_84 (by decide) (fun zz => absurd zz (by decide)) (fun _ => ?_)
    refine e_iconst (pc := 87) (v := 2) d_M_poke_87 (by decide) ?_
    refine e_goto (pc := 88) (tgt := 92) d_M_poke_88 (by decide) ?_
    refine e_put (pc := 92) s_M_poke_92 rfl (Nat.le_of_ble_eq_true rfl) zFit.int wTh ?_
    refine e_aload_n (pc := 95) d_M_poke_95 rfl ?_
    refine e_get (pc := 96) s_M_poke_96 rfl rfl ?_
    refine e_if_ne (pc := 99) (tgt := 109) d_M_poke_99 (by decide) (fun _ => ?_) (fun zz => absurd zz (by decide))
    exact e_vret (pc := 109) d_M_poke_109 rfl (Nat.le_of_ble_eq_true rfl) (Nat.le_of_ble_eq_true rfl) rfl
  · replace hz43 := b0.mp hz43
    refine e_aload_n (pc := 35) d_M_poke_35 rfl ?_
    refine e_get (pc := 36) s_M_poke_36 rfl rfl ?_
    refine e_iload (pc := 39) d_M_poke_39 rfl ?_
    refine e_zald (pc := 41) d_M_poke_41 rfl (vp_dec (by decide)) (fx1 (c := 0) (by decide)) ?_
    refine e_if_eq (pc := 42) (tgt := 60) d_M_poke_42 (by decide) (fun hz44 => ?_) (fun hz44 => ?_)
    · refine e_iconst (pc := 60) (v := 0) d_M_poke_60 (by decide) ?_
      refine e_istore_n (pc := 61) d_M_poke_61 (Nat.le_of_ble_eq_true rfl) ?_
      dsimp only [List.set]
      refine e_iinc (pc := 62) d_M_poke_62 rfl (Nat.le_of_ble_eq_true rfl) ?_
      dsimp only [List.set]
      refine e_goto (pc := 65) (tgt := 5) d_M_poke_65 (by decide) ?_
      refine e_iload (pc := 5) d_M_poke_5 rfl ?_
      refine e_iconst (pc := 7) (v := 3) d_M_poke_7 (by decide) ?_
      refine e_icmp_ge (pc := 8) (tgt := 68) d_M_poke_8 (by decide) (fun zz => absurd zz (by decide)) (fun _ => ?_)
      refine e_iload_n (pc := 11) d_M_poke_11 rfl ?_
      refine e_if_lt (pc := 12) (tgt := 68) d_M_poke_12 (by decide) (fun zz => absurd zz (nI_pos (by omega))) (fun _ => ?_)
      refine e_iload_n (pc := 15) d_M_poke_15 rfl ?_
      refine e_bipush (pc := 16) (v := 8) d_M_poke_16 (by decide) ?_
      refine e_icmp_ge (pc := 18) (tgt := 68) d_M_poke_18 (by decide) (fun zz => absurd zz (nI_ge (b := 8) hk (by decide))) (fun _ => ?_)
      refine e_iload_n (pc := 21) d_M_poke_21 rfl ?_
      refine e_if_ne (pc := 22) (tgt := 56) d_M_poke_22 (by decide) (fun zz => absurd (by decide) zz) (fun _ => ?_)
      refine e_aload_n (pc := 25) d_M_poke_25 rfl ?_
      refine e_iload (pc := 26) d_M_poke_26 rfl ?_
      refine e_topi (y := nI 1) (by decide) ?_
      refine e_iload_n (pc := 28) d_M_poke_28 rfl ?_
      refine e_cV2 (pc := 29) s_M_poke_29 (sM_has (c := 1) (by decide) hk) rfl rfl rfl (Nat.le_of_ble_eq_true rfl) (Nat.le_of_ble_eq_true rfl) (Nat.le_of_ble_eq_true rfl) (zGo.v ?_)
      refine e_if_ne (pc := 32) (tgt := 56) d_M_poke_32 (by decide) (fun hz45 => ?_) (fun hz45 => ?_)
      · replace hz45 := b1.mp hz45
        refine e_iconst (pc := 56) (v := 1) d_M_poke_56 (by decide) ?_
        refine e_goto (pc := 57) (tgt := 61) d_M_poke_57 (by decide) ?_
        refine e_istore_n (pc := 61) d_M_poke_61 (Nat.le_of_ble_eq_true rfl) ?_
        dsimp only [List.set]
        refine e_iinc (pc := 62) d_M_poke_62 rfl (Nat.le_of_ble_eq_true rfl) ?_
        dsimp only [List.set]
        refine e_goto (pc := 65) (tgt := 5) d_M_poke_65 (by decide) ?_
        refine e_iload (pc := 5) d_M_poke_5 rfl ?_
        refine e_iconst (pc := 7) (v := 3) d_M_poke_7 (by decide) ?_
        refine e_icmp_ge (pc := 8) (tgt := 68) d_M_poke_8 (by decide) (fun zz => absurd zz (by decide)) (fun _ => ?_)
        refine e_iload_n (pc := 11) d_M_poke_11 rfl ?_
        refine e_if_lt (pc := 12) (tgt := 68) d_M_poke_12 (by decide) (fun zz => absurd zz (nI_pos (by omega))) (fun _ => ?_)
        refine e_iload_n (pc := 15) d_M_poke_15 rfl ?_
        refine e_bipush (pc := 16) (v := 8) d_M_poke_16 (by decide) ?_
        refine e_icmp_ge (pc := 18) (tgt := 68) d_M_poke_18 (by decide) (fun zz => absurd zz (nI_ge (b := 8) hk (by decide))) (fun _ => ?_)
        refine e_iload_n (pc := 21) d_M_poke_21 rfl ?_
        refine e_if_ne (pc := 22) (tgt := 56) d_M_poke_22 (by decide) (fun _ => ?_) (fun zz => absurd zz (by decide))
        refine e_iconst (pc := 56) (v := 1) d_M_poke_56 (by decide) ?_
        refine e_goto (pc := 57) (tgt := 61) d_M_poke_57 (by decide) ?_
        refine e_istore_n (pc := 61) d_M_poke_61 (Nat.le_of_ble_eq_true rfl) ?_
        dsimp only [List.set]
        refine e_iinc (pc := 62) d_M_poke_62 rfl (Nat.le_of_ble_eq_true rfl) ?_
        dsimp only [List.set]
        refine e_goto (pc := 65) (tgt := 5) d_M_poke_65 (by decide) ?_
        refine e_iload (pc := 5) d_M_poke_5 rfl ?_
        refine e_iconst (pc := 7) (v := 3) d_M_poke_7 (by decide) ?_
        refine e_icmp_ge (pc := 8) (tgt := 68) d_M_poke_8 (by decide) (fun _ => ?_) (fun zz => absurd (by decide) zz)
        refine e_aload_n (pc := 68) d_M_poke_68 rfl ?_
        refine e_iload_n (pc := 69) d_M_poke_69 rfl ?_
        refine e_if_lt (pc := 70) (tgt := 79) d_M_poke_70 (by decide) (fun zz => absurd zz (nI_pos (by omega))) (fun _ => ?_)
        refine e_iload_n (pc := 73) d_M_poke_73 rfl ?_
        refine e_bipush (pc := 74) (v := 7) d_M_poke_74 (by decide) ?_
        refine e_icmp_le (pc := 76) (tgt := 83) d_M_poke_76 (by decide) (fun _ => ?_) (fun zz => absurd (le7.mpr (nI_lt (b := 8) hk (by decide))) zz)
        refine e_iload_n (pc := 83) d_M_poke_83 rfl ?_
        refine e_if_eq (pc := 84) (tgt := 91) d_M_poke_84 (by decide) (fun zz => absurd zz (by decide)) (fun _ => ?_)
        refine e_iconst (pc := 87) (v := 2) d_M_poke_87 (by decide) ?_
        refine e_goto (pc := 88) (tgt := 92) d_M_poke_88 (by decide) ?_
        refine e_put (pc := 92) s_M_poke_92 rfl (Nat.le_of_ble_eq_true rfl) zFit.int wTh ?_
        refine e_aload_n (pc := 95) d_M_poke_95 rfl ?_
        refine e_get (pc := 96) s_M_poke_96 rfl rfl ?_
        refine e_if_ne (pc := 99) (tgt := 109) d_M_poke_99 (by decide) (fun _ => ?_) (fun zz => absurd zz (by decide))
        exact e_vret (pc := 109) d_M_poke_109 rfl (Nat.le_of_ble_eq_true rfl) (Nat.le_of_ble_eq_true rfl) rfl
      · replace hz45 := b0.mp hz45
        refine e_aload_n (pc := 35) d_M_poke_35 rfl ?_
        refine e_get (pc := 36) s_M_poke_36 rfl rfl ?_
        refine e_iload (pc := 39) d_M_poke_39 rfl ?_
        refine e_zald (pc := 41) d_M_poke_41 rfl (vp_dec (by decide)) (fx1 (c := 1) (by decide)) ?_
        refine e_if_eq (pc := 42) (tgt := 60) d_M_poke_42 (by decide) (fun hz46 => ?_) (fun hz46 => ?_)
        · refine e_iconst (pc := 60) (v := 0) d_M_poke_60 (by decide) ?_
          refine e_istore_n (pc := 61) d_M_poke_61 (Nat.le_of_ble_eq_true rfl) ?_
          dsimp only [List.set]
          refine e_iinc (pc := 62) d_M_poke_62 rfl (Nat.le_of_ble_eq_true rfl) ?_
          dsimp only [List.set]
          refine e_goto (pc := 65) (tgt := 5) d_M_poke_65 (by decide) ?_
          refine e_iload (pc := 5) d_M_poke_5 rfl ?_
          refine e_iconst (pc := 7) (v := 3) d_M_poke_7 (by decide) ?_
          refine e_icmp_ge (pc := 8) (tgt := 68) d_M_poke_8 (by decide) (fun zz => absurd zz (by decide)) (fun _ => ?_)
          refine e_iload_n (pc := 11) d_M_poke_11 rfl ?_
          refine e_if_lt (pc := 12) (tgt := 68) d_M_poke_12 (by decide) (fun zz => absurd zz (nI_pos (by omega))) (fun _ => ?_)
          refine e_iload_n (pc := 15) d_M_poke_15 rfl ?_
          refine e_bipush (pc := 16) (v := 8) d_M_poke_16 (by decide) ?_
          refine e_icmp_ge (pc := 18) (tgt := 68) d_M_poke_18 (by decide) (fun zz => absurd zz (nI_ge (b := 8) hk (by decide))) (fun _ => ?_)
          refine e_iload_n (pc := 21) d_M_poke_21 rfl ?_
          refine e_if_ne (pc := 22) (tgt := 56) d_M_poke_22 (by decide) (fun zz => absurd (by decide) zz) (fun _ => ?_)
          refine e_aload_n (pc := 25) d_M_poke_25 rfl ?_
          refine e_iload (pc := 26) d_M_poke_26 rfl ?_
          refine e_topi (y := nI 2) (by decide) ?_
          refine e_iload_n (pc := 28) d_M_poke_28 rfl ?_
          refine e_cV2 (pc := 29) s_M_poke_29 (sM_has (c := 2) (by decide) hk) rfl rfl rfl (Nat.le_of_ble_eq_true rfl) (Nat.le_of_ble_eq_true rfl) (Nat.le_of_ble_eq_true rfl) (zGo.v ?_)
          refine e_if_ne (pc := 32) (tgt := 56) d_M_poke_32 (by decide) (fun hz47 => ?_) (fun hz47 => ?_)
          · replace hz47 := b1.mp hz47
            refine e_iconst (pc := 56) (v := 1) d_M_poke_56 (by decide) ?_
            refine e_goto (pc := 57) (tgt := 61) d_M_poke_57 (by decide) ?_
            refine e_istore_n (pc := 61) d_M_poke_61 (Nat.le_of_ble_eq_true rfl) ?_
            dsimp only [List.set]
            refine e_iinc (pc := 62) d_M_poke_62 rfl (Nat.le_of_ble_eq_true rfl) ?_
            dsimp only [List.set]
            refine e_goto (pc := 65) (tgt := 5) d_M_poke_65 (by decide) ?_
            refine e_iload (pc := 5) d_M_poke_5 rfl ?_
            refine e_iconst (pc := 7) (v := 3) d_M_poke_7 (by decide) ?_
            refine e_icmp_ge (pc := 8) (tgt := 68) d_M_poke_8 (by decide) (fun _ => ?_) (fun zz => absurd (by decide) zz)
            refine e_aload_n (pc := 68) d_M_poke_68 rfl ?_
            refine e_iload_n (pc := 69) d_M_poke_69 rfl ?_
            refine e_if_lt (pc := 70) (tgt := 79) d_M_poke_70 (by decide) (fun zz => absurd zz (nI_pos (by omega))) (fun _ => ?_)
            refine e_iload_n (pc := 73) d_M_poke_73 rfl ?_
            refine e_bipush (pc := 74) (v := 7) d_M_poke_74 (by decide) ?_
            refine e_icmp_le (pc := 76) (tgt := 83) d_M_poke_76 (by decide) (fun _ => ?_) (fun zz => absurd (le7.mpr (nI_lt (b := 8) hk (by decide))) zz)
            refine e_iload_n (pc := 83) d_M_poke_83 rfl ?_
            refine e_if_eq (pc := 84) (tgt := 91) d_M_poke_84 (by decide) (fun zz => absurd zz (by decide)) (fun _ => ?_)
            refine e_iconst (pc := 87) (v := 2) d_M_poke_87 (by decide) ?_
            refine e_goto (pc := 88) (tgt := 92) d_M_poke_88 (by decide) ?_
            refine e_put (pc := 92) s_M_poke_92 rfl (Nat.le_of_ble_eq_true rfl) zFit.int wTh ?_
            refine e_aload_n (pc := 95) d_M_poke_95 rfl ?_
            refine e_get (pc := 96) s_M_poke_96 rfl rfl ?_
            refine e_if_ne (pc := 99) (tgt := 109) d_M_poke_99 (by decide) (fun _ => ?_) (fun zz => absurd zz (by decide))
            exact e_vret (pc := 109) d_M_poke_109 rfl (Nat.le_of_ble_eq_true rfl) (Nat.le_of_ble_eq_true rfl) rfl
          · replace hz47 := b0.mp hz47
            refine e_aload_n (pc := 35) d_M_poke_35 rfl ?_
            refine e_get (pc := 36) s_M_poke_36 rfl rfl ?_
            refine e_iload (pc := 39) d_M_poke_39 rfl ?_
            refine e_zald (pc := 41) d_M_poke_41 rfl (vp_dec (by decide)) (fx1 (c := 2) (by decide)) ?_
            refine e_if_eq (pc := 42) (tgt := 60) d_M_poke_42 (by decide) (fun hz48 => ?_) (fun hz48 => ?_)
            · refine e_iconst (pc := 60) (v := 0) d_M_poke_60 (by decide) ?_
              refine e_istore_n (pc := 61) d_M_poke_61 (Nat.le_of_ble_eq_true rfl) ?_
              dsimp only [List.set]
              refine e_iinc (pc := 62) d_M_poke_62 rfl (Nat.le_of_ble_eq_true rfl) ?_
              dsimp only [List.set]
              refine e_goto (pc := 65) (tgt := 5) d_M_poke_65 (by decide) ?_
              refine e_iload (pc := 5) d_M_poke_5 rfl ?_
              refine e_iconst (pc := 7) (v := 3) d_M_poke_7 (by decide) ?_
              refine e_icmp_ge (pc := 8) (tgt := 68) d_M_poke_8 (by decide) (fun _ => ?_) (fun zz => absurd (by decide) zz)
              refine e_aload_n (pc := 68) d_M_poke_68 rfl ?_
              refine e_iload_n (pc := 69) d_M_poke_69 rfl ?_
              refine e_if_lt (pc := 70) (tgt := 79) d_M_poke_70 (by decide) (fun zz => absurd zz (nI_pos (by omega))) (fun _ => ?_)
              refine e_iload_n (pc := 73) d_M_poke_73 rfl ?_
              refine e_bipush (pc := 74) (v := 7) d_M_poke_74 (by decide) ?_
              refine e_icmp_le (pc := 76) (tgt := 83) d_M_poke_76 (by decide) (fun _ => ?_) (fun zz => absurd (le7.mpr (nI_lt (b := 8) hk (by decide))) zz)
              refine e_iload_n (pc := 83) d_M_poke_83 rfl ?_
              refine e_if_eq (pc := 84) (tgt := 91) d_M_poke_84 (by decide) (fun _ => ?_) (fun zz => absurd (by decide) zz)
              exact absurd hu (show ¬ useS T k by simp [useS, flyS, hz43, hz44, hz45, hz46, hz47, hz48])
            · refine e_aload_n (pc := 45) d_M_poke_45 rfl ?_
              refine e_get (pc := 46) s_M_poke_46 rfl rfl ?_
              refine e_iload (pc := 49) d_M_poke_49 rfl ?_
              refine e_iald (pc := 51) d_M_poke_51 rfl (vp_dec (by decide)) (fx1 (c := 2) (by decide)) ?_
              refine e_iload_n (pc := 52) d_M_poke_52 rfl ?_
              refine e_icmp_ne (pc := 53) (tgt := 60) d_M_poke_53 (by decide) (fun hz49 => ?_) (fun hz49 => ?_)
              · refine e_iconst (pc := 60) (v := 0) d_M_poke_60 (by decide) ?_
                refine e_istore_n (pc := 61) d_M_poke_61 (Nat.le_of_ble_eq_true rfl) ?_
                dsimp only [List.set]
                refine e_iinc (pc := 62) d_M_poke_62 rfl (Nat.le_of_ble_eq_true rfl) ?_
                dsimp only [List.set]
                refine e_goto (pc := 65) (tgt := 5) d_M_poke_65 (by decide) ?_
                refine e_iload (pc := 5) d_M_poke_5 rfl ?_
                refine e_iconst (pc := 7) (v := 3) d_M_poke_7 (by decide) ?_
                refine e_icmp_ge (pc := 8) (tgt := 68) d_M_poke_8 (by decide) (fun _ => ?_) (fun zz => absurd (by decide) zz)
                refine e_aload_n (pc := 68) d_M_poke_68 rfl ?_
                refine e_iload_n (pc := 69) d_M_poke_69 rfl ?_
                refine e_if_lt (pc := 70) (tgt := 79) d_M_poke_70 (by decide) (fun zz => absurd zz (nI_pos (by omega))) (fun _ => ?_)
                refine e_iload_n (pc := 73) d_M_poke_73 rfl ?_
                refine e_bipush (pc := 74) (v := 7) d_M_poke_74 (by decide) ?_
                refine e_icmp_le (pc := 76) (tgt := 83) d_M_poke_76 (by decide) (fun _ => ?_) (fun zz => absurd (le7.mpr (nI_lt (b := 8) hk (by decide))) zz)
                refine e_iload_n (pc := 83) d_M_poke_83 rfl ?_
                refine e_if_eq (pc := 84) (tgt := 91) d_M_poke_84 (by decide) (fun _ => ?_) (fun zz => absurd (by decide) zz)
                exact absurd hu (show ¬ useS T k by simp [useS, flyS, hz43, hz44, hz45, hz46, hz47, hz48, hz49])
              · refine e_iconst (pc := 56) (v := 1) d_M_poke_56 (by decide) ?_
                refine e_goto (pc := 57) (tgt := 61) d_M_poke_57 (by decide) ?_
                refine e_istore_n (pc := 61) d_M_poke_61 (Nat.le_of_ble_eq_true rfl) ?_
                dsimp only [List.set]
                refine e_iinc (pc := 62) d_M_poke_62 rfl (Nat.le_of_ble_eq_true rfl) ?_
                dsimp only [List.set]
                refine e_goto (pc := 65) (tgt := 5) d_M_poke_65 (by decide) ?_
                refine e_iload (pc := 5) d_M_poke_5 rfl ?_
                refine e_iconst (pc := 7) (v := 3) d_M_poke_7 (by decide) ?_
                refine e_icmp_ge (pc := 8) (tgt := 68) d_M_poke_8 (by decide) (fun _ => ?_) (fun zz => absurd (by decide) zz)
                refine e_aload_n (pc := 68) d_M_poke_68 rfl ?_
                refine e_iload_n (pc := 69) d_M_poke_69 rfl ?_
                refine e_if_lt (pc := 70) (tgt := 79) d_M_poke_70 (by decide) (fun zz => absurd zz (nI_pos (by omega))) (fun _ => ?_)
                refine e_iload_n (pc := 73) d_M_poke_73 rfl ?_
                refine e_bipush (pc := 74) (v := 7) d_M_poke_74 (by decide) ?_
                refine e_icmp_le (pc := 76) (tgt := 83) d_M_poke_76 (by decide) (fun _ => ?_) (fun zz => absurd (le7.mpr (nI_lt (b := 8) hk (by decide))) zz)
                refine e_iload_n (pc := 83) d_M_poke_83 rfl ?_
                refine e_if_eq (pc := 84) (tgt := 91) d_M_poke_84 (by decide) (fun zz => absurd zz (by decide)) (fun _ => ?_)
                refine e_iconst (pc := 87) (v := 2) d_M_poke_87 (by decide) ?_
                refine e_goto (pc := 88) (tgt := 92) d_M_poke_88 (by decide) ?_
                refine e_put (pc := 92) s_M_poke_92 rfl (Nat.le_of_ble_eq_true rfl) zFit.int wTh ?_
                refine e_aload_n (pc := 95) d_M_poke_95 rfl ?_
                refine e_get (pc := 96) s_M_poke_96 rfl rfl ?_
                refine e_if_ne (pc := 99) (tgt := 109) d_M_poke_99 (by decide) (fun _ => ?_) (fun zz => absurd zz (by decide))
                exact e_vret (pc := 109) d_M_poke_109 rfl (Nat.le_of_ble_eq_true rfl) (Nat.le_of_ble_eq_true rfl) rfl
        · refine e_aload_n (pc := 45) d_M_poke_45 rfl ?_
          refine e_get (pc := 46) s_M_poke_46 rfl rfl ?_
          refine e_iload (pc := 49) d_M_poke_49 rfl ?_
          refine e_iald (pc := 51) d_M_poke_51 rfl (vp_dec (by decide)) (fx1 (c := 1) (by decide)) ?_
          refine e_iload_n (pc := 52) d_M_poke_52 rfl ?_
          refine e_icmp_ne (pc := 53) (tgt := 60) d_M_poke_53 (by decide) (fun hz50 => ?_) (fun hz50 => ?_)
          · refine e_iconst (pc := 60) (v := 0) d_M_poke_60 (by decide) ?_
            refine e_istore_n (pc := 61) d_M_poke_61 (Nat.le_of_ble_eq_true rfl) ?_
            dsimp only [List.set]
            refine e_iinc (pc := 62) d_M_poke_62 rfl (Nat.le_of_ble_eq_true rfl) ?_
            dsimp only [List.set]
            refine e_goto (pc := 65) (tgt := 5) d_M_poke_65 (by decide) ?_
            refine e_iload (pc := 5) d_M_poke_5 rfl ?_
            refine e_iconst (pc := 7) (v := 3) d_M_poke_7 (by decide) ?_
            refine e_icmp_ge (pc := 8) (tgt := 68) d_M_poke_8 (by decide) (fun zz => absurd zz (by decide)) (fun _ => ?_)
            refine e_iload_n (pc := 11) d_M_poke_11 rfl ?_
            refine e_if_lt (pc := 12) (tgt := 68) d_M_poke_12 (by decide) (fun zz => absurd zz (nI_pos (by omega))) (fun _ => ?_)
            refine e_iload_n (pc := 15) d_M_poke_15 rfl ?_
            refine e_bipush (pc := 16) (v := 8) d_M_poke_16 (by decide) ?_
            refine e_icmp_ge (pc := 18) (tgt := 68) d_M_poke_18 (by decide) (fun zz => absurd zz (nI_ge (b := 8) hk (by decide))) (fun _ => ?_)
            refine e_iload_n (pc := 21) d_M_poke_21 rfl ?_
            refine e_if_ne (pc := 22) (tgt := 56) d_M_poke_22 (by decide) (fun zz => absurd (by decide) zz) (fun _ => ?_)
            refine e_aload_n (pc := 25) d_M_poke_25 rfl ?_
            refine e_iload (pc := 26) d_M_poke_26 rfl ?_
            refine e_topi (y := nI 2) (by decide) ?_
            refine e_iload_n (pc := 28) d_M_poke_28 rfl ?_
            refine e_cV2 (pc := 29) s_M_poke_29 (sM_has (c := 2) (by decide) hk) rfl rfl rfl (Nat.le_of_ble_eq_true rfl) (Nat.le_of_ble_eq_true rfl) (Nat.le_of_ble_eq_true rfl) (zGo.v ?_)
            refine e_if_ne (pc := 32) (tgt := 56) d_M_poke_32 (by decide) (fun hz51 => ?_) (fun hz51 => ?_)
            · replace hz51 := b1.mp hz51
              refine e_iconst (pc := 56) (v := 1) d_M_poke_56 (by decide) ?_
              refine e_goto (pc := 57) (tgt := 61) d_M_poke_57 (by decide) ?_
              refine e_istore_n (pc := 61) d_M_poke_61 (Nat.le_of_ble_eq_true rfl) ?_
              dsimp only [List.set]
              refine e_iinc (pc := 62) d_M_poke_62 rfl (Nat.le_of_ble_eq_true rfl) ?_
              dsimp only [List.set]
              refine e_goto (pc := 65) (tgt := 5) d_M_poke_65 (by decide) ?_
              refine e_iload (pc := 5) d_M_poke_5 rfl ?_
              refine e_iconst (pc := 7) (v := 3) d_M_poke_7 (by decide) ?_
              refine e_icmp_ge (pc := 8) (tgt := 68) d_M_poke_8 (by decide) (fun _ => ?_) (fun zz => absurd (by decide) zz)
              refine e_aload_n (pc := 68) d_M_poke_68 rfl ?_
              refine e_iload_n (pc := 69) d_M_poke_69 rfl ?_
              refine e_if_lt (pc := 70) (tgt := 79) d_M_poke_70 (by decide) (fun zz => absurd zz (nI_pos (by omega))) (fun _ => ?_)
              refine e_iload_n (pc := 73) d_M_poke_73 rfl ?_
              refine e_bipush (pc := 74) (v := 7) d_M_poke_74 (by decide) ?_
              refine e_icmp_le (pc := 76) (tgt := 83) d_M_poke_76 (by decide) (fun _ => ?_) (fun zz => absurd (le7.mpr (nI_lt (b := 8) hk (by decide))) zz)
              refine e_iload_n (pc := 83) d_M_poke_83 rfl ?_
              refine e_if_eq (pc := 84) (tgt := 91) d_M_poke_84 (by decide) (fun zz => absurd zz (by decide)) (fun _ => ?_)
              refine e_iconst (pc := 87) (v := 2) d_M_poke_87 (by decide) ?_
              refine e_goto (pc := 88) (tgt := 92) d_M_poke_88 (by decide) ?_
              refine e_put (pc := 92) s_M_poke_92 rfl (Nat.le_of_ble_eq_true rfl) zFit.int wTh ?_
              refine e_aload_n (pc := 95) d_M_poke_95 rfl ?_
              refine e_get (pc := 96) s_M_poke_96 rfl rfl ?_
              refine e_if_ne (pc := 99) (tgt := 109) d_M_poke_99 (by decide) (fun _ => ?_) (fun zz => absurd zz (by decide))
              exact e_vret (pc := 109) d_M_poke_109 rfl (Nat.le_of_ble_eq_true rfl) (Nat.le_of_ble_eq_true rfl) rfl
            · replace hz51 := b0.mp hz51
              refine e_aload_n (pc := 35) d_M_poke_35 rfl ?_
              refine e_get (pc := 36) s_M_poke_36 rfl rfl ?_
              refine e_iload (pc := 39) d_M_poke_39 rfl ?_
              refine e_zald (pc := 41) d_M_poke_41 rfl (vp_dec (by decide)) (fx1 (c := 2) (by decide)) ?_
              refine e_if_eq (pc := 42) (tgt := 60) d_M_poke_42 (by decide) (fun hz52 => ?_) (fun hz52 => ?_)
              · refine e_iconst (pc := 60) (v := 0) d_M_poke_60 (by decide) ?_
                refine e_istore_n (pc := 61) d_M_poke_61 (Nat.le_of_ble_eq_true rfl) ?_
                dsimp only [List.set]
                refine e_iinc (pc := 62) d_M_poke_62 rfl (Nat.le_of_ble_eq_true rfl) ?_
                dsimp only [List.set]
                refine e_goto (pc := 65) (tgt := 5) d_M_poke_65 (by decide) ?_
                refine e_iload (pc := 5) d_M_poke_5 rfl ?_
                refine e_iconst (pc := 7) (v := 3) d_M_poke_7 (by decide) ?_
                refine e_icmp_ge (pc := 8) (tgt := 68) d_M_poke_8 (by decide) (fun _ => ?_) (fun zz => absurd (by decide) zz)
                refine e_aload_n (pc := 68) d_M_poke_68 rfl ?_
                refine e_iload_n (pc := 69) d_M_poke_69 rfl ?_
                refine e_if_lt (pc := 70) (tgt := 79) d_M_poke_70 (by decide) (fun zz => absurd zz (nI_pos (by omega))) (fun _ => ?_)
                refine e_iload_n (pc := 73) d_M_poke_73 rfl ?_
                refine e_bipush (pc := 74) (v := 7) d_M_poke_74 (by decide) ?_
                refine e_icmp_le (pc := 76) (tgt := 83) d_M_poke_76 (by decide) (fun _ => ?_) (fun zz => absurd (le7.mpr (nI_lt (b := 8) hk (by decide))) zz)
                refine e_iload_n (pc := 83) d_M_poke_83 rfl ?_
                refine e_if_eq (pc := 84) (tgt := 91) d_M_poke_84 (by decide) (fun _ => ?_) (fun zz => absurd (by decide) zz)
                exact absurd hu (show ¬ useS T k by simp [useS, flyS, hz43, hz44, hz45, hz46, hz50, hz51, hz52])
              · refine e_aload_n (pc := 45) d_M_poke_45 rfl ?_
                refine e_get (pc := 46) s_M_poke_46 rfl rfl ?_
                refine e_iload (pc := 49) d_M_poke_49 rfl ?_
                refine e_iald (pc := 51) d_M_poke_51 rfl (vp_dec (by decide)) (fx1 (c := 2) (by decide)) ?_
                refine e_iload_n (pc := 52) d_M_poke_52 rfl ?_
                refine e_icmp_ne (pc := 53) (tgt := 60) d_M_poke_53 (by decide) (fun hz53 => ?_) (fun hz53 => ?_)
                · refine e_iconst (pc := 60) (v := 0) d_M_poke_60 (by decide) ?_
                  refine e_istore_n (pc := 61) d_M_poke_61 (Nat.le_of_ble_eq_true rfl) ?_
                  dsimp only [List.set]
                  refine e_iinc (pc := 62) d_M_poke_62 rfl (Nat.le_of_ble_eq_true rfl) ?_
                  dsimp only [List.set]
                  refine e_goto (pc := 65) (tgt := 5) d_M_poke_65 (by decide) ?_
                  refine e_iload (pc := 5) d_M_poke_5 rfl ?_
                  refine e_iconst (pc := 7) (v := 3) d_M_poke_7 (by decide) ?_
                  refine e_icmp_ge (pc := 8) (tgt := 68) d_M_poke_8 (by decide) (fun _ => ?_) (fun zz => absurd (by decide) zz)
                  refine e_aload_n (pc := 68) d_M_poke_68 rfl ?_
                  refine e_iload_n (pc := 69) d_M_poke_69 rfl ?_
                  refine e_if_lt (pc := 70) (tgt := 79) d_M_poke_70 (by decide) (fun zz => absurd zz (nI_pos (by omega))) (fun _ => ?_)
                  refine e_iload_n (pc := 73) d_M_poke_73 rfl ?_
                  refine e_bipush (pc := 74) (v := 7) d_M_poke_74 (by decide) ?_
                  refine e_icmp_le (pc := 76) (tgt := 83) d_M_poke_76 (by decide) (fun _ => ?_) (fun zz => absurd (le7.mpr (nI_lt (b := 8) hk (by decide))) zz)
                  refine e_iload_n (pc := 83) d_M_poke_83 rfl ?_
                  refine e_if_eq (pc := 84) (tgt := 91) d_M_poke_84 (by decide) (fun _ => ?_) (fun zz => absurd (by decide) zz)
                  exact absurd hu (show ¬ useS T k by simp [useS, flyS, hz43, hz44, hz45, hz46, hz50, hz51, hz52, hz53])
                · refine e_iconst (pc := 56) (v := 1) d_M_poke_56 (by decide) ?_
                  refine e_goto (pc := 57) (tgt := 61) d_M_poke_57 (by decide) ?_
                  refine e_istore_n (pc := 61) d_M_poke_61 (Nat.le_of_ble_eq_true rfl) ?_
                  dsimp only [List.set]
                  refine e_iinc (pc := 62) d_M_poke_62 rfl (Nat.le_of_ble_eq_true rfl) ?_
                  dsimp only [List.set]
                  refine e_goto (pc := 65) (tgt := 5) d_M_poke_65 (by decide) ?_
                  refine e_iload (pc := 5) d_M_poke_5 rfl ?_
                  refine e_iconst (pc := 7) (v := 3) d_M_poke_7 (by decide) ?_
                  refine e_icmp_ge (pc := 8) (tgt := 68) d_M_poke_8 (by decide) (fun _ => ?_) (fun zz => absurd (by decide) zz)
                  refine e_aload_n (pc := 68) d_M_poke_68 rfl ?_
                  refine e_iload_n (pc := 69) d_M_poke_69 rfl ?_
                  refine e_if_lt (pc := 70) (tgt := 79) d_M_poke_70 (by decide) (fun zz => absurd zz (nI_pos (by omega))) (fun _ => ?_)
                  refine e_iload_n (pc := 73) d_M_poke_73 rfl ?_
                  refine e_bipush (pc := 74) (v := 7) d_M_poke_74 (by decide) ?_
                  refine e_icmp_le (pc := 76) (tgt := 83) d_M_poke_76 (by decide) (fun _ => ?_) (fun zz => absurd (le7.mpr (nI_lt (b := 8) hk (by decide))) zz)
                  refine e_iload_n (pc := 83) d_M_poke_83 rfl ?_
                  refine e_if_eq (pc := 84) (tgt := 91) d_M_poke_84 (by decide) (fun zz => absurd zz (by decide)) (fun _ => ?_)
                  refine e_iconst (pc := 87) (v := 2) d_M_poke_87 (by decide) ?_
                  refine e_goto (pc := 88) (tgt := 92) d_M_poke_88 (by decide) ?_
                  refine e_put (pc := 92) s_M_poke_92 rfl (Nat.le_of_ble_eq_true rfl) zFit.int wTh ?_
                  refine e_aload_n (pc := 95) d_M_poke_95 rfl ?_
                  refine e_get (pc := 96) s_M_poke_96 rfl rfl ?_
                  refine e_if_ne (pc := 99) (tgt := 109) d_M_poke_99 (by decide) (fun _ => ?_) (fun zz => absurd zz (by decide))
                  exact e_vret (pc := 109) d_M_poke_109 rfl (Nat.le_of_ble_eq_true rfl) (Nat.le_of_ble_eq_true rfl) rfl
          · refine e_iconst (pc := 56) (v := 1) d_M_poke_56 (by decide) ?_
            refine e_goto (pc := 57) (tgt := 61) d_M_poke_57 (by decide) ?_
            refine e_istore_n (pc := 61) d_M_poke_61 (Nat.le_of_ble_eq_true rfl) ?_
            dsimp only [List.set]
            refine e_iinc (pc := 62) d_M_poke_62 rfl (Nat.le_of_ble_eq_true rfl) ?_
            dsimp only [List.set]
            refine e_goto (pc := 65) (tgt := 5) d_M_poke_65 (by decide) ?_
            refine e_iload (pc := 5) d_M_poke_5 rfl ?_
            refine e_iconst (pc := 7) (v := 3) d_M_poke_7 (by decide) ?_
            refine e_icmp_ge (pc := 8) (tgt := 68) d_M_poke_8 (by decide) (fun zz => absurd zz (by decide)) (fun _ => ?_)
            refine e_iload_n (pc := 11) d_M_poke_11 rfl ?_
            refine e_if_lt (pc := 12) (tgt := 68) d_M_poke_12 (by decide) (fun zz => absurd zz (nI_pos (by omega))) (fun _ => ?_)
            refine e_iload_n (pc := 15) d_M_poke_15 rfl ?_
            refine e_bipush (pc := 16) (v := 8) d_M_poke_16 (by decide) ?_
            refine e_icmp_ge (pc := 18) (tgt := 68) d_M_poke_18 (by decide) (fun zz => absurd zz (nI_ge (b := 8) hk (by decide))) (fun _ => ?_)
            refine e_iload_n (pc := 21) d_M_poke_21 rfl ?_
            refine e_if_ne (pc := 22) (tgt := 56) d_M_poke_22 (by decide) (fun _ => ?_) (fun zz => absurd zz (by decide))
            refine e_iconst (pc := 56) (v := 1) d_M_poke_56 (by decide) ?_
            refine e_goto (pc := 57) (tgt := 61) d_M_poke_57 (by decide) ?_
            refine e_istore_n (pc := 61) d_M_poke_61 (Nat.le_of_ble_eq_true rfl) ?_
            dsimp only [List.set]
            refine e_iinc (pc := 62) d_M_poke_62 rfl (Nat.le_of_ble_eq_true rfl) ?_
            dsimp only [List.set]
            refine e_goto (pc := 65) (tgt := 5) d_M_poke_65 (by decide) ?_
            refine e_iload (pc := 5) d_M_poke_5 rfl ?_
            refine e_iconst (pc := 7) (v := 3) d_M_poke_7 (by decide) ?_
            refine e_icmp_ge (pc := 8) (tgt := 68) d_M_poke_8 (by decide) (fun _ => ?_) (fun zz => absurd (by decide) zz)
            refine e_aload_n (pc := 68) d_M_poke_68 rfl ?_
            refine e_iload_n (pc := 69) d_M_poke_69 rfl ?_
            refine e_if_lt (pc := 70) (tgt := 79) d_M_poke_70 (by decide) (fun zz => absurd zz (nI_pos (by omega))) (fun _ => ?_)
            refine e_iload_n (pc := 73) d_M_poke_73 rfl ?_
            refine e_bipush (pc := 74) (v := 7) d_M_poke_74 (by decide) ?_
            refine e_icmp_le (pc := 76) (tgt := 83) d_M_poke_76 (by decide) (fun _ => ?_) (fun zz => absurd (le7.mpr (nI_lt (b := 8) hk (by decide))) zz)
            refine e_iload_n (pc := 83) d_M_poke_83 rfl ?_
            refine e_if_eq (pc := 84) (tgt := 91) d_M_poke_84 (by decide) (fun zz => absurd zz (by decide)) (fun _ => ?_)
            refine e_iconst (pc := 87) (v := 2) d_M_poke_87 (by decide) ?_
            refine e_goto (pc := 88) (tgt := 92) d_M_poke_88 (by decide) ?_
            refine e_put (pc := 92) s_M_poke_92 rfl (Nat.le_of_ble_eq_true rfl) zFit.int wTh ?_
            refine e_aload_n (pc := 95) d_M_poke_95 rfl ?_
            refine e_get (pc := 96) s_M_poke_96 rfl rfl ?_
            refine e_if_ne (pc := 99) (tgt := 109) d_M_poke_99 (by decide) (fun _ => ?_) (fun zz => absurd zz (by decide))
            exact e_vret (pc := 109) d_M_poke_109 rfl (Nat.le_of_ble_eq_true rfl) (Nat.le_of_ble_eq_true rfl) rfl
    · refine e_aload_n (pc := 45) d_M_poke_45 rfl ?_
      refine e_get (pc := 46) s_M_poke_46 rfl rfl ?_
      refine e_iload (pc := 49) d_M_poke_49 rfl ?_
      refine e_iald (pc := 51) d_M_poke_51 rfl (vp_dec (by decide)) (fx1 (c := 0) (by decide)) ?_
      refine e_iload_n (pc := 52) d_M_poke_52 rfl ?_
      refine e_icmp_ne (pc := 53) (tgt := 60) d_M_poke_53 (by decide) (fun hz54 => ?_) (fun hz54 => ?_)
      · refine e_iconst (pc := 60) (v := 0) d_M_poke_60 (by decide) ?_
        refine e_istore_n (pc := 61) d_M_poke_61 (Nat.le_of_ble_eq_true rfl) ?_
        dsimp only [List.set]
        refine e_iinc (pc := 62) d_M_poke_62 rfl (Nat.le_of_ble_eq_true rfl) ?_
        dsimp only [List.set]
        refine e_goto (pc := 65) (tgt := 5) d_M_poke_65 (by decide) ?_
        refine e_iload (pc := 5) d_M_poke_5 rfl ?_
        refine e_iconst (pc := 7) (v := 3) d_M_poke_7 (by decide) ?_
        refine e_icmp_ge (pc := 8) (tgt := 68) d_M_poke_8 (by decide) (fun zz => absurd zz (by decide)) (fun _ => ?_)
        refine e_iload_n (pc := 11) d_M_poke_11 rfl ?_
        refine e_if_lt (pc := 12) (tgt := 68) d_M_poke_12 (by decide) (fun zz => absurd zz (nI_pos (by omega))) (fun _ => ?_)
        refine e_iload_n (pc := 15) d_M_poke_15 rfl ?_
        refine e_bipush (pc := 16) (v := 8) d_M_poke_16 (by decide) ?_
        refine e_icmp_ge (pc := 18) (tgt := 68) d_M_poke_18 (by decide) (fun zz => absurd zz (nI_ge (b := 8) hk (by decide))) (fun _ => ?_)
        refine e_iload_n (pc := 21) d_M_poke_21 rfl ?_
        refine e_if_ne (pc := 22) (tgt := 56) d_M_poke_22 (by decide) (fun zz => absurd (by decide) zz) (fun _ => ?_)
        refine e_aload_n (pc := 25) d_M_poke_25 rfl ?_
        refine e_iload (pc := 26) d_M_poke_26 rfl ?_
        refine e_topi (y := nI 1) (by decide) ?_
        refine e_iload_n (pc := 28) d_M_poke_28 rfl ?_
        refine e_cV2 (pc := 29) s_M_poke_29 (sM_has (c := 1) (by decide) hk) rfl rfl rfl (Nat.le_of_ble_eq_true rfl) (Nat.le_of_ble_eq_true rfl) (Nat.le_of_ble_eq_true rfl) (zGo.v ?_)
        refine e_if_ne (pc := 32) (tgt := 56) d_M_poke_32 (by decide) (fun hz55 => ?_) (fun hz55 => ?_)
        · replace hz55 := b1.mp hz55
          refine e_iconst (pc := 56) (v := 1) d_M_poke_56 (by decide) ?_
          refine e_goto (pc := 57) (tgt := 61) d_M_poke_57 (by decide) ?_
          refine e_istore_n (pc := 61) d_M_poke_61 (Nat.le_of_ble_eq_true rfl) ?_
          dsimp only [List.set]
          refine e_iinc (pc := 62) d_M_poke_62 rfl (Nat.le_of_ble_eq_true rfl) ?_
          dsimp only [List.set]
          refine e_goto (pc := 65) (tgt := 5) d_M_poke_65 (by decide) ?_
          refine e_iload (pc := 5) d_M_poke_5 rfl ?_
          refine e_iconst (pc := 7) (v := 3) d_M_poke_7 (by decide) ?_
          refine e_icmp_ge (pc := 8) (tgt := 68) d_M_poke_8 (by decide) (fun zz => absurd zz (by decide)) (fun _ => ?_)
          refine e_iload_n (pc := 11) d_M_poke_11 rfl ?_
          refine e_if_lt (pc := 12) (tgt := 68) d_M_poke_12 (by decide) (fun zz => absurd zz (nI_pos (by omega))) (fun _ => ?_)
          refine e_iload_n (pc := 15) d_M_poke_15 rfl ?_
          refine e_bipush (pc := 16) (v := 8) d_M_poke_16 (by decide) ?_
          refine e_icmp_ge (pc := 18) (tgt := 68) d_M_poke_18 (by decide) (fun zz => absurd zz (nI_ge (b := 8) hk (by decide))) (fun _ => ?_)
          refine e_iload_n (pc := 21) d_M_poke_21 rfl ?_
          refine e_if_ne (pc := 22) (tgt := 56) d_M_poke_22 (by decide) (fun _ => ?_) (fun zz => absurd zz (by decide))
          refine e_iconst (pc := 56) (v := 1) d_M_poke_56 (by decide) ?_
          refine e_goto (pc := 57) (tgt := 61) d_M_poke_57 (by decide) ?_
          refine e_istore_n (pc := 61) d_M_poke_61 (Nat.le_of_ble_eq_true rfl) ?_
          dsimp only [List.set]
          refine e_iinc (pc := 62) d_M_poke_62 rfl (Nat.le_of_ble_eq_true rfl) ?_
          dsimp only [List.set]
          refine e_goto (pc := 65) (tgt := 5) d_M_poke_65 (by decide) ?_
          refine e_iload (pc := 5) d_M_poke_5 rfl ?_
          refine e_iconst (pc := 7) (v := 3) d_M_poke_7 (by decide) ?_
          refine e_icmp_ge (pc := 8) (tgt := 68) d_M_poke_8 (by decide) (fun _ => ?_) (fun zz => absurd (by decide) zz)
          refine e_aload_n (pc := 68) d_M_poke_68 rfl ?_
          refine e_iload_n (pc := 69) d_M_poke_69 rfl ?_
          refine e_if_lt (pc := 70) (tgt := 79) d_M_poke_70 (by decide) (fun zz => absurd zz (nI_pos (by omega))) (fun _ => ?_)
          refine e_iload_n (pc := 73) d_M_poke_73 rfl ?_
          refine e_bipush (pc := 74) (v := 7) d_M_poke_74 (by decide) ?_
          refine e_icmp_le (pc := 76) (tgt := 83) d_M_poke_76 (by decide) (fun _ => ?_) (fun zz => absurd (le7.mpr (nI_lt (b := 8) hk (by decide))) zz)
          refine e_iload_n (pc := 83) d_M_poke_83 rfl ?_
          refine e_if_eq (pc := 84) (tgt := 91) d_M_poke_84 (by decide) (fun zz => absurd zz (by decide)) (fun _ => ?_)
          refine e_iconst (pc := 87) (v := 2) d_M_poke_87 (by decide) ?_
          refine e_goto (pc := 88) (tgt := 92) d_M_poke_88 (by decide) ?_
          refine e_put (pc := 92) s_M_poke_92 rfl (Nat.le_of_ble_eq_true rfl) zFit.int wTh ?_
          refine e_aload_n (pc := 95) d_M_poke_95 rfl ?_
          refine e_get (pc := 96) s_M_poke_96 rfl rfl ?_
          refine e_if_ne (pc := 99) (tgt := 109) d_M_poke_99 (by decide) (fun _ => ?_) (fun zz => absurd zz (by decide))
          exact e_vret (pc := 109) d_M_poke_109 rfl (Nat.le_of_ble_eq_true rfl) (Nat.le_of_ble_eq_true rfl) rfl
        · replace hz55 := b0.mp hz55
          refine e_aload_n (pc := 35) d_M_poke_35 rfl ?_
          refine e_get (pc := 36) s_M_poke_36 rfl rfl ?_
          refine e_iload (pc := 39) d_M_poke_39 rfl ?_
          refine e_zald (pc := 41) d_M_poke_41 rfl (vp_dec (by decide)) (fx1 (c := 1) (by decide)) ?_
          refine e_if_eq (pc := 42) (tgt := 60) d_M_poke_42 (by decide) (fun hz56 => ?_) (fun hz56 => ?_)
          · refine e_iconst (pc := 60) (v := 0) d_M_poke_60 (by decide) ?_
            refine e_istore_n (pc := 61) d_M_poke_61 (Nat.le_of_ble_eq_true rfl) ?_
            dsimp only [List.set]
            refine e_iinc (pc := 62) d_M_poke_62 rfl (Nat.le_of_ble_eq_true rfl) ?_
            dsimp only [List.set]
            refine e_goto (pc := 65) (tgt := 5) d_M_poke_65 (by decide) ?_
            refine e_iload (pc := 5) d_M_poke_5 rfl ?_
            refine e_iconst (pc := 7) (v := 3) d_M_poke_7 (by decide) ?_
            refine e_icmp_ge (pc := 8) (tgt := 68) d_M_poke_8 (by decide) (fun zz => absurd zz (by decide)) (fun _ => ?_)
            refine e_iload_n (pc := 11) d_M_poke_11 rfl ?_
            refine e_if_lt (pc := 12) (tgt := 68) d_M_poke_12 (by decide) (fun zz => absurd zz (nI_pos (by omega))) (fun _ => ?_)
            refine e_iload_n (pc := 15) d_M_poke_15 rfl ?_
            refine e_bipush (pc := 16) (v := 8) d_M_poke_16 (by decide) ?_
            refine e_icmp_ge (pc := 18) (tgt := 68) d_M_poke_18 (by decide) (fun zz => absurd zz (nI_ge (b := 8) hk (by decide))) (fun _ => ?_)
            refine e_iload_n (pc := 21) d_M_poke_21 rfl ?_
            refine e_if_ne (pc := 22) (tgt := 56) d_M_poke_22 (by decide) (fun zz => absurd (by decide) zz) (fun _ => ?_)
            refine e_aload_n (pc := 25) d_M_poke_25 rfl ?_
            refine e_iload (pc := 26) d_M_poke_26 rfl ?_
            refine e_topi (y := nI 2) (by decide) ?_
            refine e_iload_n (pc := 28) d_M_poke_28 rfl ?_
            refine e_cV2 (pc := 29) s_M_poke_29 (sM_has (c := 2) (by decide) hk) rfl rfl rfl (Nat.le_of_ble_eq_true rfl) (Nat.le_of_ble_eq_true rfl) (Nat.le_of_ble_eq_true rfl) (zGo.v ?_)
            refine e_if_ne (pc := 32) (tgt := 56) d_M_poke_32 (by decide) (fun hz57 => ?_) (fun hz57 => ?_)
            · replace hz57 := b1.mp hz57
              refine e_iconst (pc := 56) (v := 1) d_M_poke_56 (by decide) ?_
              refine e_goto (pc := 57) (tgt := 61) d_M_poke_57 (by decide) ?_
              refine e_istore_n (pc := 61) d_M_poke_61 (Nat.le_of_ble_eq_true rfl) ?_
              dsimp only [List.set]
              refine e_iinc (pc := 62) d_M_poke_62 rfl (Nat.le_of_ble_eq_true rfl) ?_
              dsimp only [List.set]
              refine e_goto (pc := 65) (tgt := 5) d_M_poke_65 (by decide) ?_
              refine e_iload (pc := 5) d_M_poke_5 rfl ?_
              refine e_iconst (pc := 7) (v := 3) d_M_poke_7 (by decide) ?_
              refine e_icmp_ge (pc := 8) (tgt := 68) d_M_poke_8 (by decide) (fun _ => ?_) (fun zz => absurd (by decide) zz)
              refine e_aload_n (pc := 68) d_M_poke_68 rfl ?_
              refine e_iload_n (pc := 69) d_M_poke_69 rfl ?_
              refine e_if_lt (pc := 70) (tgt := 79) d_M_poke_70 (by decide) (fun zz => absurd zz (nI_pos (by omega))) (fun _ => ?_)
              refine e_iload_n (pc := 73) d_M_poke_73 rfl ?_
              refine e_bipush (pc := 74) (v := 7) d_M_poke_74 (by decide) ?_
              refine e_icmp_le (pc := 76) (tgt := 83) d_M_poke_76 (by decide) (fun _ => ?_) (fun zz => absurd (le7.mpr (nI_lt (b := 8) hk (by decide))) zz)
              refine e_iload_n (pc := 83) d_M_poke_83 rfl ?_
              refine e_if_eq (pc := 84) (tgt := 91) d_M_poke_84 (by decide) (fun zz => absurd zz (by decide)) (fun _ => ?_)
              refine e_iconst (pc := 87) (v := 2) d_M_poke_87 (by decide) ?_
              refine e_goto (pc := 88) (tgt := 92) d_M_poke_88 (by decide) ?_
              refine e_put (pc := 92) s_M_poke_92 rfl (Nat.le_of_ble_eq_true rfl) zFit.int wTh ?_
              refine e_aload_n (pc := 95) d_M_poke_95 rfl ?_
              refine e_get (pc := 96) s_M_poke_96 rfl rfl ?_
              refine e_if_ne (pc := 99) (tgt := 109) d_M_poke_99 (by decide) (fun _ => ?_) (fun zz => absurd zz (by decide))
              exact e_vret (pc := 109) d_M_poke_109 rfl (Nat.le_of_ble_eq_true rfl) (Nat.le_of_ble_eq_true rfl) rfl
            · replace hz57 := b0.mp hz57
              refine e_aload_n (pc := 35) d_M_poke_35 rfl ?_
              refine e_get (pc := 36) s_M_poke_36 rfl rfl ?_
              refine e_iload (pc := 39) d_M_poke_39 rfl ?_
              refine e_zald (pc := 41) d_M_poke_41 rfl (vp_dec (by decide)) (fx1 (c := 2) (by decide)) ?_
              refine e_if_eq (pc := 42) (tgt := 60) d_M_poke_42 (by decide) (fun hz58 => ?_) (fun hz58 => ?_)
              · refine e_iconst (pc := 60) (v := 0) d_M_poke_60 (by decide) ?_
                refine e_istore_n (pc := 61) d_M_poke_61 (Nat.le_of_ble_eq_true rfl) ?_
                dsimp only [List.set]
                refine e_iinc (pc := 62) d_M_poke_62 rfl (Nat.le_of_ble_eq_true rfl) ?_
                dsimp only [List.set]
                refine e_goto (pc := 65) (tgt := 5) d_M_poke_65 (by decide) ?_
                refine e_iload (pc := 5) d_M_poke_5 rfl ?_
                refine e_iconst (pc := 7) (v := 3) d_M_poke_7 (by decide) ?_
                refine e_icmp_ge (pc := 8) (tgt := 68) d_M_poke_8 (by decide) (fun _ => ?_) (fun zz => absurd (by decide) zz)
                refine e_aload_n (pc := 68) d_M_poke_68 rfl ?_
                refine e_iload_n (pc := 69) d_M_poke_69 rfl ?_
                refine e_if_lt (pc := 70) (tgt := 79) d_M_poke_70 (by decide) (fun zz => absurd zz (nI_pos (by omega))) (fun _ => ?_)
                refine e_iload_n (pc := 73) d_M_poke_73 rfl ?_
                refine e_bipush (pc := 74) (v := 7) d_M_poke_74 (by decide) ?_
                refine e_icmp_le (pc := 76) (tgt := 83) d_M_poke_76 (by decide) (fun _ => ?_) (fun zz => absurd (le7.mpr (nI_lt (b := 8) hk (by decide))) zz)
                refine e_iload_n (pc := 83) d_M_poke_83 rfl ?_
                refine e_if_eq (pc := 84) (tgt := 91) d_M_poke_84 (by decide) (fun _ => ?_) (fun zz => absurd (by decide) zz)
                exact absurd hu (show ¬ useS T k by simp [useS, flyS, hz43, hz44, hz54, hz55, hz56, hz57, hz58])
              · refine e_aload_n (pc := 45) d_M_poke_45 rfl ?_
                refine e_get (pc := 46) s_M_poke_46 rfl rfl ?_
                refine e_iload (pc := 49) d_M_poke_49 rfl ?_
                refine e_iald (pc := 51) d_M_poke_51 rfl (vp_dec (by decide)) (fx1 (c := 2) (by decide)) ?_
                refine e_iload_n (pc := 52) d_M_poke_52 rfl ?_
                refine e_icmp_ne (pc := 53) (tgt := 60) d_M_poke_53 (by decide) (fun hz59 => ?_) (fun hz59 => ?_)
                · refine e_iconst (pc := 60) (v := 0) d_M_poke_60 (by decide) ?_
                  refine e_istore_n (pc := 61) d_M_poke_61 (Nat.le_of_ble_eq_true rfl) ?_
                  dsimp only [List.set]
                  refine e_iinc (pc := 62) d_M_poke_62 rfl (Nat.le_of_ble_eq_true rfl) ?_
                  dsimp only [List.set]
                  refine e_goto (pc := 65) (tgt := 5) d_M_poke_65 (by decide) ?_
                  refine e_iload (pc := 5) d_M_poke_5 rfl ?_
                  refine e_iconst (pc := 7) (v := 3) d_M_poke_7 (by decide) ?_
                  refine e_icmp_ge (pc := 8) (tgt := 68) d_M_poke_8 (by decide) (fun _ => ?_) (fun zz => absurd (by decide) zz)
                  refine e_aload_n (pc := 68) d_M_poke_68 rfl ?_
                  refine e_iload_n (pc := 69) d_M_poke_69 rfl ?_
                  refine e_if_lt (pc := 70) (tgt := 79) d_M_poke_70 (by decide) (fun zz => absurd zz (nI_pos (by omega))) (fun _ => ?_)
                  refine e_iload_n (pc := 73) d_M_poke_73 rfl ?_
                  refine e_bipush (pc := 74) (v := 7) d_M_poke_74 (by decide) ?_
                  refine e_icmp_le (pc := 76) (tgt := 83) d_M_poke_76 (by decide) (fun _ => ?_) (fun zz => absurd (le7.mpr (nI_lt (b := 8) hk (by decide))) zz)
                  refine e_iload_n (pc := 83) d_M_poke_83 rfl ?_
                  refine e_if_eq (pc := 84) (tgt := 91) d_M_poke_84 (by decide) (fun _ => ?_) (fun zz => absurd (by decide) zz)
                  exact absurd hu (show ¬ useS T k by simp [useS, flyS, hz43, hz44, hz54, hz55, hz56, hz57, hz58, hz59])
                · refine e_iconst (pc := 56) (v := 1) d_M_poke_56 (by decide) ?_
                  refine e_goto (pc := 57) (tgt := 61) d_M_poke_57 (by decide) ?_
                  refine e_istore_n (pc := 61) d_M_poke_61 (Nat.le_of_ble_eq_true rfl) ?_
                  dsimp only [List.set]
                  refine e_iinc (pc := 62) d_M_poke_62 rfl (Nat.le_of_ble_eq_true rfl) ?_
                  dsimp only [List.set]
                  refine e_goto (pc := 65) (tgt := 5) d_M_poke_65 (by decide) ?_
                  refine e_iload (pc := 5) d_M_poke_5 rfl ?_
                  refine e_iconst (pc := 7) (v := 3) d_M_poke_7 (by decide) ?_
                  refine e_icmp_ge (pc := 8) (tgt := 68) d_M_poke_8 (by decide) (fun _ => ?_) (fun zz => absurd (by decide) zz)
                  refine e_aload_n (pc := 68) d_M_poke_68 rfl ?_
                  refine e_iload_n (pc := 69) d_M_poke_69 rfl ?_
                  refine e_if_lt (pc := 70) (tgt := 79) d_M_poke_70 (by decide) (fun zz => absurd zz (nI_pos (by omega))) (fun _ => ?_)
                  refine e_iload_n (pc := 73) d_M_poke_73 rfl ?_
                  refine e_bipush (pc := 74) (v := 7) d_M_poke_74 (by decide) ?_
                  refine e_icmp_le (pc := 76) (tgt := 83) d_M_poke_76 (by decide) (fun _ => ?_) (fun zz => absurd (le7.mpr (nI_lt (b := 8) hk (by decide))) zz)
                  refine e_iload_n (pc := 83) d_M_poke_83 rfl ?_
                  refine e_if_eq (pc := 84) (tgt := 91) d_M_poke_84 (by decide) (fun zz => absurd zz (by decide)) (fun _ => ?_)
                  refine e_iconst (pc := 87) (v := 2) d_M_poke_87 (by decide) ?_
                  refine e_goto (pc := 88) (tgt := 92) d_M_poke_88 (by decide) ?_
                  refine e_put (pc := 92) s_M_poke_92 rfl (Nat.le_of_ble_eq_true rfl) zFit.int wTh ?_
                  refine e_aload_n (pc := 95) d_M_poke_95 rfl ?_
                  refine e_get (pc := 96) s_M_poke_96 rfl rfl ?_
                  refine e_if_ne (pc := 99) (tgt := 109) d_M_poke_99 (by decide) (fun _ => ?_) (fun zz => absurd zz (by decide))
                  exact e_vret (pc := 109) d_M_poke_109 rfl (Nat.le_of_ble_eq_true rfl) (Nat.le_of_ble_eq_true rfl) rfl
          · refine e_aload_n (pc := 45) d_M_poke_45 rfl ?_
            refine e_get (pc := 46) s_M_poke_46 rfl rfl ?_
            refine e_iload (pc := 49) d_M_poke_49 rfl ?_
            refine e_iald (pc := 51) d_M_poke_51 rfl (vp_dec (by decide)) (fx1 (c := 1) (by decide)) ?_
            refine e_iload_n (pc := 52) d_M_poke_52 rfl ?_
            refine e_icmp_ne (pc := 53) (tgt := 60) d_M_poke_53 (by decide) (fun hz60 => ?_) (fun hz60 => ?_)
            · refine e_iconst (pc := 60) (v := 0) d_M_poke_60 (by decide) ?_
              refine e_istore_n (pc := 61) d_M_poke_61 (Nat.le_of_ble_eq_true rfl) ?_
              dsimp only [List.set]
              refine e_iinc (pc := 62) d_M_poke_62 rfl (Nat.le_of_ble_eq_true rfl) ?_
              dsimp only [List.set]
              refine e_goto (pc := 65) (tgt := 5) d_M_poke_65 (by decide) ?_
              refine e_iload (pc := 5) d_M_poke_5 rfl ?_
              refine e_iconst (pc := 7) (v := 3) d_M_poke_7 (by decide) ?_
              refine e_icmp_ge (pc := 8) (tgt := 68) d_M_poke_8 (by decide) (fun zz => absurd zz (by decide)) (fun _ => ?_)
              refine e_iload_n (pc := 11) d_M_poke_11 rfl ?_
              refine e_if_lt (pc := 12) (tgt := 68) d_M_poke_12 (by decide) (fun zz => absurd zz (nI_pos (by omega))) (fun _ => ?_)
              refine e_iload_n (pc := 15) d_M_poke_15 rfl ?_
              refine e_bipush (pc := 16) (v := 8) d_M_poke_16 (by decide) ?_
              refine e_icmp_ge (pc := 18) (tgt := 68) d_M_poke_18 (by decide) (fun zz => absurd zz (nI_ge (b := 8) hk (by decide))) (fun _ => ?_)
              refine e_iload_n (pc := 21) d_M_poke_21 rfl ?_
              refine e_if_ne (pc := 22) (tgt := 56) d_M_poke_22 (by decide) (fun zz => absurd (by decide) zz) (fun _ => ?_)
              refine e_aload_n (pc := 25) d_M_poke_25 rfl ?_
              refine e_iload (pc := 26) d_M_poke_26 rfl ?_
              refine e_topi (y := nI 2) (by decide) ?_
              refine e_iload_n (pc := 28) d_M_poke_28 rfl ?_
              refine e_cV2 (pc := 29) s_M_poke_29 (sM_has (c := 2) (by decide) hk) rfl rfl rfl (Nat.le_of_ble_eq_true rfl) (Nat.le_of_ble_eq_true rfl) (Nat.le_of_ble_eq_true rfl) (zGo.v ?_)
              refine e_if_ne (pc := 32) (tgt := 56) d_M_poke_32 (by decide) (fun hz61 => ?_) (fun hz61 => ?_)
              · replace hz61 := b1.mp hz61
                refine e_iconst (pc := 56) (v := 1) d_M_poke_56 (by decide) ?_
                refine e_goto (pc := 57) (tgt := 61) d_M_poke_57 (by decide) ?_
                refine e_istore_n (pc := 61) d_M_poke_61 (Nat.le_of_ble_eq_true rfl) ?_
                dsimp only [List.set]
                refine e_iinc (pc := 62) d_M_poke_62 rfl (Nat.le_of_ble_eq_true rfl) ?_
                dsimp only [List.set]
                refine e_goto (pc := 65) (tgt := 5) d_M_poke_65 (by decide) ?_
                refine e_iload (pc := 5) d_M_poke_5 rfl ?_
                refine e_iconst (pc := 7) (v := 3) d_M_poke_7 (by decide) ?_
                refine e_icmp_ge (pc := 8) (tgt := 68) d_M_poke_8 (by decide) (fun _ => ?_) (fun zz => absurd (by decide) zz)
                refine e_aload_n (pc := 68) d_M_poke_68 rfl ?_
                refine e_iload_n (pc := 69) d_M_poke_69 rfl ?_
                refine e_if_lt (pc := 70) (tgt := 79) d_M_poke_70 (by decide) (fun zz => absurd zz (nI_pos (by omega))) (fun _ => ?_)
                refine e_iload_n (pc := 73) d_M_poke_73 rfl ?_
                refine e_bipush (pc := 74) (v := 7) d_M_poke_74 (by decide) ?_
                refine e_icmp_le (pc := 76) (tgt := 83) d_M_poke_76 (by decide) (fun _ => ?_) (fun zz => absurd (le7.mpr (nI_lt (b := 8) hk (by decide))) zz)
                refine e_iload_n (pc := 83) d_M_poke_83 rfl ?_
                refine e_if_eq (pc := 84) (tgt := 91) d_M_poke_84 (by decide) (fun zz => absurd zz (by decide)) (fun _ => ?_)
                refine e_iconst (pc := 87) (v := 2) d_M_poke_87 (by decide) ?_
                refine e_goto (pc := 88) (tgt := 92) d_M_poke_88 (by decide) ?_
                refine e_put (pc := 92) s_M_poke_92 rfl (Nat.le_of_ble_eq_true rfl) zFit.int wTh ?_
                refine e_aload_n (pc := 95) d_M_poke_95 rfl ?_
                refine e_get (pc := 96) s_M_poke_96 rfl rfl ?_
                refine e_if_ne (pc := 99) (tgt := 109) d_M_poke_99 (by decide) (fun _ => ?_) (fun zz => absurd zz (by decide))
                exact e_vret (pc := 109) d_M_poke_109 rfl (Nat.le_of_ble_eq_true rfl) (Nat.le_of_ble_eq_true rfl) rfl
              · replace hz61 := b0.mp hz61
                refine e_aload_n (pc := 35) d_M_poke_35 rfl ?_
                refine e_get (pc := 36) s_M_poke_36 rfl rfl ?_
                refine e_iload (pc := 39) d_M_poke_39 rfl ?_
                refine e_zald (pc := 41) d_M_poke_41 rfl (vp_dec (by decide)) (fx1 (c := 2) (by decide)) ?_
                refine e_if_eq (pc := 42) (tgt := 60) d_M_poke_42 (by decide) (fun hz62 => ?_) (fun hz62 => ?_)
                · refine e_iconst (pc := 60) (v := 0) d_M_poke_60 (by decide) ?_
                  refine e_istore_n (pc := 61) d_M_poke_61 (Nat.le_of_ble_eq_true rfl) ?_
                  dsimp only [List.set]
                  refine e_iinc (pc := 62) d_M_poke_62 rfl (Nat.le_of_ble_eq_true rfl) ?_
                  dsimp only [List.set]
                  refine e_goto (pc := 65) (tgt := 5) d_M_poke_65 (by decide) ?_
                  refine e_iload (pc := 5) d_M_poke_5 rfl ?_
                  refine e_iconst (pc := 7) (v := 3) d_M_poke_7 (by decide) ?_
                  refine e_icmp_ge (pc := 8) (tgt := 68) d_M_poke_8 (by decide) (fun _ => ?_) (fun zz => absurd (by decide) zz)
                  refine e_aload_n (pc := 68) d_M_poke_68 rfl ?_
                  refine e_iload_n (pc := 69) d_M_poke_69 rfl ?_
                  refine e_if_lt (pc := 70) (tgt := 79) d_M_poke_70 (by decide) (fun zz => absurd zz (nI_pos (by omega))) (fun _ => ?_)
                  refine e_iload_n (pc := 73) d_M_poke_73 rfl ?_
                  refine e_bipush (pc := 74) (v := 7) d_M_poke_74 (by decide) ?_
                  refine e_icmp_le (pc := 76) (tgt := 83) d_M_poke_76 (by decide) (fun _ => ?_) (fun zz => absurd (le7.mpr (nI_lt (b := 8) hk (by decide))) zz)
                  refine e_iload_n (pc := 83) d_M_poke_83 rfl ?_
                  refine e_if_eq (pc := 84) (tgt := 91) d_M_poke_84 (by decide) (fun _ => ?_) (fun zz => absurd (by decide) zz)
                  exact absurd hu (show ¬ useS T k by simp [useS, flyS, hz43, hz44, hz54, hz55, hz56, hz60, hz61, hz62])
                · refine e_aload_n (pc := 45) d_M_poke_45 rfl ?_
                  refine e_get (pc := 46) s_M_poke_46 rfl rfl ?_
                  refine e_iload (pc := 49) d_M_poke_49 rfl ?_
                  refine e_iald (pc := 51) d_M_poke_51 rfl (vp_dec (by decide)) (fx1 (c := 2) (by decide)) ?_
                  refine e_iload_n (pc := 52) d_M_poke_52 rfl ?_
                  refine e_icmp_ne (pc := 53) (tgt := 60) d_M_poke_53 (by decide) (fun hz63 => ?_) (fun hz63 => ?_)
                  · refine e_iconst (pc := 60) (v := 0) d_M_poke_60 (by decide) ?_
                    refine e_istore_n (pc := 61) d_M_poke_61 (Nat.le_of_ble_eq_true rfl) ?_
                    dsimp only [List.set]
                    refine e_iinc (pc := 62) d_M_poke_62 rfl (Nat.le_of_ble_eq_true rfl) ?_
                    dsimp only [List.set]
                    refine e_goto (pc := 65) (tgt := 5) d_M_poke_65 (by decide) ?_
                    refine e_iload (pc := 5) d_M_poke_5 rfl ?_
                    refine e_iconst (pc := 7) (v := 3) d_M_poke_7 (by decide) ?_
                    refine e_icmp_ge (pc := 8) (tgt := 68) d_M_poke_8 (by decide) (fun _ => ?_) (fun zz => absurd (by decide) zz)
                    refine e_aload_n (pc := 68) d_M_poke_68 rfl ?_
                    refine e_iload_n (pc := 69) d_M_poke_69 rfl ?_
                    refine e_if_lt (pc := 70) (tgt := 79) d_M_poke_70 (by decide) (fun zz => absurd zz (nI_pos (by omega))) (fun _ => ?_)
                    refine e_iload_n (pc := 73) d_M_poke_73 rfl ?_
                    refine e_bipush (pc := 74) (v := 7) d_M_poke_74 (by decide) ?_
                    refine e_icmp_le (pc := 76) (tgt := 83) d_M_poke_76 (by decide) (fun _ => ?_) (fun zz => absurd (le7.mpr (nI_lt (b := 8) hk (by decide))) zz)
                    refine e_iload_n (pc := 83) d_M_poke_83 rfl ?_
                    refine e_if_eq (pc := 84) (tgt := 91) d_M_poke_84 (by decide) (fun _ => ?_) (fun zz => absurd (by decide) zz)
                    exact absurd hu (show ¬ useS T k by simp [useS, flyS, hz43, hz44, hz54, hz55, hz56, hz60, hz61, hz62, hz63])
                  · refine e_iconst (pc := 56) (v := 1) d_M_poke_56 (by decide) ?_
                    refine e_goto (pc := 57) (tgt := 61) d_M_poke_57 (by decide) ?_
                    refine e_istore_n (pc := 61) d_M_poke_61 (Nat.le_of_ble_eq_true rfl) ?_
                    dsimp only [List.set]
                    refine e_iinc (pc := 62) d_M_poke_62 rfl (Nat.le_of_ble_eq_true rfl) ?_
                    dsimp only [List.set]
                    refine e_goto (pc := 65) (tgt := 5) d_M_poke_65 (by decide) ?_
                    refine e_iload (pc := 5) d_M_poke_5 rfl ?_
                    refine e_iconst (pc := 7) (v := 3) d_M_poke_7 (by decide) ?_
                    refine e_icmp_ge (pc := 8) (tgt := 68) d_M_poke_8 (by decide) (fun _ => ?_) (fun zz => absurd (by decide) zz)
                    refine e_aload_n (pc := 68) d_M_poke_68 rfl ?_
                    refine e_iload_n (pc := 69) d_M_poke_69 rfl ?_
                    refine e_if_lt (pc := 70) (tgt := 79) d_M_poke_70 (by decide) (fun zz => absurd zz (nI_pos (by omega))) (fun _ => ?_)
                    refine e_iload_n (pc := 73) d_M_poke_73 rfl ?_
                    refine e_bipush (pc := 74) (v := 7) d_M_poke_74 (by decide) ?_
                    refine e_icmp_le (pc := 76) (tgt := 83) d_M_poke_76 (by decide) (fun _ => ?_) (fun zz => absurd (le7.mpr (nI_lt (b := 8) hk (by decide))) zz)
                    refine e_iload_n (pc := 83) d_M_poke_83 rfl ?_
                    refine e_if_eq (pc := 84) (tgt := 91) d_M_poke_84 (by decide) (fun zz => absurd zz (by decide)) (fun _ => ?_)
                    refine e_iconst (pc := 87) (v := 2) d_M_poke_87 (by decide) ?_
                    refine e_goto (pc := 88) (tgt := 92) d_M_poke_88 (by decide) ?_
                    refine e_put (pc := 92) s_M_poke_92 rfl (Nat.le_of_ble_eq_true rfl) zFit.int wTh ?_
                    refine e_aload_n (pc := 95) d_M_poke_95 rfl ?_
                    refine e_get (pc := 96) s_M_poke_96 rfl rfl ?_
                    refine e_if_ne (pc := 99) (tgt := 109) d_M_poke_99 (by decide) (fun _ => ?_) (fun zz => absurd zz (by decide))
                    exact e_vret (pc := 109) d_M_poke_109 rfl (Nat.le_of_ble_eq_true rfl) (Nat.le_of_ble_eq_true rfl) rfl
            · refine e_iconst (pc := 56) (v := 1) d_M_poke_56 (by decide) ?_
              refine e_goto (pc := 57) (tgt := 61) d_M_poke_57 (by decide) ?_
              refine e_istore_n (pc := 61) d_M_poke_61 (Nat.le_of_ble_eq_true rfl) ?_
              dsimp only [List.set]
              refine e_iinc (pc := 62) d_M_poke_62 rfl (Nat.le_of_ble_eq_true rfl) ?_
              dsimp only [List.set]
              refine e_goto (pc := 65) (tgt := 5) d_M_poke_65 (by decide) ?_
              refine e_iload (pc := 5) d_M_poke_5 rfl ?_
              refine e_iconst (pc := 7) (v := 3) d_M_poke_7 (by decide) ?_
              refine e_icmp_ge (pc := 8) (tgt := 68) d_M_poke_8 (by decide) (fun zz => absurd zz (by decide)) (fun _ => ?_)
              refine e_iload_n (pc := 11) d_M_poke_11 rfl ?_
              refine e_if_lt (pc := 12) (tgt := 68) d_M_poke_12 (by decide) (fun zz => absurd zz (nI_pos (by omega))) (fun _ => ?_)
              refine e_iload_n (pc := 15) d_M_poke_15 rfl ?_
              refine e_bipush (pc := 16) (v := 8) d_M_poke_16 (by decide) ?_
              refine e_icmp_ge (pc := 18) (tgt := 68) d_M_poke_18 (by decide) (fun zz => absurd zz (nI_ge (b := 8) hk (by decide))) (fun _ => ?_)
              refine e_iload_n (pc := 21) d_M_poke_21 rfl ?_
              refine e_if_ne (pc := 22) (tgt := 56) d_M_poke_22 (by decide) (fun _ => ?_) (fun zz => absurd zz (by decide))
              refine e_iconst (pc := 56) (v := 1) d_M_poke_56 (by decide) ?_
              refine e_goto (pc := 57) (tgt := 61) d_M_poke_57 (by decide) ?_
              refine e_istore_n (pc := 61) d_M_poke_61 (Nat.le_of_ble_eq_true rfl) ?_
              dsimp only [List.set]
              refine e_iinc (pc := 62) d_M_poke_62 rfl (Nat.le_of_ble_eq_true rfl) ?_
              dsimp only [List.set]
              refine e_goto (pc := 65) (tgt := 5) d_M_poke_65 (by decide) ?_
              refine e_iload (pc := 5) d_M_poke_5 rfl ?_
              refine e_iconst (pc := 7) (v := 3) d_M_poke_7 (by decide) ?_
              refine e_icmp_ge (pc := 8) (tgt := 68) d_M_poke_8 (by decide) (fun _ => ?_) (fun zz => absurd (by decide) zz)
              refine e_aload_n (pc := 68) d_M_poke_68 rfl ?_
              refine e_iload_n (pc := 69) d_M_poke_69 rfl ?_
              refine e_if_lt (pc := 70) (tgt := 79) d_M_poke_70 (by decide) (fun zz => absurd zz (nI_pos (by omega))) (fun _ => ?_)
              refine e_iload_n (pc := 73) d_M_poke_73 rfl ?_
              refine e_bipush (pc := 74) (v := 7) d_M_poke_74 (by decide) ?_
              refine e_icmp_le (pc := 76) (tgt := 83) d_M_poke_76 (by decide) (fun _ => ?_) (fun zz => absurd (le7.mpr (nI_lt (b := 8) hk (by decide))) zz)
              refine e_iload_n (pc := 83) d_M_poke_83 rfl ?_
              refine e_if_eq (pc := 84) (tgt := 91) d_M_poke_84 (by decide) (fun zz => absurd zz (by decide)) (fun _ => ?_)
              refine e_iconst (pc := 87) (v := 2) d_M_poke_87 (by decide) ?_
              refine e_goto (pc := 88) (tgt := 92) d_M_poke_88 (by decide) ?_
              refine e_put (pc := 92) s_M_poke_92 rfl (Nat.le_of_ble_eq_true rfl) zFit.int wTh ?_
              refine e_aload_n (pc := 95) d_M_poke_95 rfl ?_
              refine e_get (pc := 96) s_M_poke_96 rfl rfl ?_
              refine e_if_ne (pc := 99) (tgt := 109) d_M_poke_99 (by decide) (fun _ => ?_) (fun zz => absurd zz (by decide))
              exact e_vret (pc := 109) d_M_poke_109 rfl (Nat.le_of_ble_eq_true rfl) (Nat.le_of_ble_eq_true rfl) rfl
      · refine e_iconst (pc := 56) (v := 1) d_M_poke_56 (by decide) ?_
        refine e_goto (pc := 57) (tgt := 61) d_M_poke_57 (by decide) ?_
        refine e_istore_n (pc := 61) d_M_poke_61 (Nat.le_of_ble_eq_true rfl) ?_
        dsimp only [List.set]
        refine e_iinc (pc := 62) d_M_poke_62 rfl (Nat.le_of_ble_eq_true rfl) ?_
        dsimp only [List.set]
        refine e_goto (pc := 65) (tgt := 5) d_M_poke_65 (by decide) ?_
        refine e_iload (pc := 5) d_M_poke_5 rfl ?_
        refine e_iconst (pc := 7) (v := 3) d_M_poke_7 (by decide) ?_
        refine e_icmp_ge (pc := 8) (tgt := 68) d_M_poke_8 (by decide) (fun zz => absurd zz (by decide)) (fun _ => ?_)
        refine e_iload_n (pc := 11) d_M_poke_11 rfl ?_
        refine e_if_lt (pc := 12) (tgt := 68) d_M_poke_12 (by decide) (fun zz => absurd zz (nI_pos (by omega))) (fun _ => ?_)
        refine e_iload_n (pc := 15) d_M_poke_15 rfl ?_
        refine e_bipush (pc := 16) (v := 8) d_M_poke_16 (by decide) ?_
        refine e_icmp_ge (pc := 18) (tgt := 68) d_M_poke_18 (by decide) (fun zz => absurd zz (nI_ge (b := 8) hk (by decide))) (fun _ => ?_)
        refine e_iload_n (pc := 21) d_M_poke_21 rfl ?_
        refine e_if_ne (pc := 22) (tgt := 56) d_M_poke_22 (by decide) (fun _ => ?_) (fun zz => absurd zz (by decide))
        refine e_iconst (pc := 56) (v := 1) d_M_poke_56 (by decide) ?_
        refine e_goto (pc := 57) (tgt := 61) d_M_poke_57 (by decide) ?_
        refine e_istore_n (pc := 61) d_M_poke_61 (Nat.le_of_ble_eq_true rfl) ?_
        dsimp only [List.set]
        refine e_iinc (pc := 62) d_M_poke_62 rfl (Nat.le_of_ble_eq_true rfl) ?_
        dsimp only [List.set]
        refine e_goto (pc := 65) (tgt := 5) d_M_poke_65 (by decide) ?_
        refine e_iload (pc := 5) d_M_poke_5 rfl ?_
        refine e_iconst (pc := 7) (v := 3) d_M_poke_7 (by decide) ?_
        refine e_icmp_ge (pc := 8) (tgt := 68) d_M_poke_8 (by decide) (fun zz => absurd zz (by decide)) (fun _ => ?_)
        refine e_iload_n (pc := 11) d_M_poke_11 rfl ?_
        refine e_if_lt (pc := 12) (tgt := 68) d_M_poke_12 (by decide) (fun zz => absurd zz (nI_pos (by omega))) (fun _ => ?_)
        refine e_iload_n (pc := 15) d_M_poke_15 rfl ?_
        refine e_bipush (pc := 16) (v := 8) d_M_poke_16 (by decide) ?_
        refine e_icmp_ge (pc := 18) (tgt := 68) d_M_poke_18 (by decide) (fun zz => absurd zz (nI_ge (b := 8) hk (by decide))) (fun _ => ?_)
        refine e_iload_n (pc := 21) d_M_poke_21 rfl ?_
        refine e_if_ne (pc := 22) (tgt := 56) d_M_poke_22 (by decide) (fun _ => ?_) (fun zz => absurd zz (by decide))
        refine e_iconst (pc := 56) (v := 1) d_M_poke_56 (by decide) ?_
        refine e_goto (pc := 57) (tgt := 61) d_M_poke_57 (by decide) ?_
        refine e_istore_n (pc := 61) d_M_poke_61 (Nat.le_of_ble_eq_true rfl) ?_
        dsimp only [List.set]
        refine e_iinc (pc := 62) d_M_poke_62 rfl (Nat.le_of_ble_eq_true rfl) ?_
        dsimp only [List.set]
        refine e_goto (pc := 65) (tgt := 5) d_M_poke_65 (by decide) ?_
        refine e_iload (pc := 5) d_M_poke_5 rfl ?_
        refine e_iconst (pc := 7) (v := 3) d_M_poke_7 (by decide) ?_
        refine e_icmp_ge (pc := 8) (tgt := 68) d_M_poke_8 (by decide) (fun _ => ?_) (fun zz => absurd (by decide) zz)
        refine e_aload_n (pc := 68) d_M_poke_68 rfl ?_
        refine e_iload_n (pc := 69) d_M_poke_69 rfl ?_
        refine e_if_lt (pc := 70) (tgt := 79) d_M_poke_70 (by decide) (fun zz => absurd zz (nI_pos (by omega))) (fun _ => ?_)
        refine e_iload_n (pc := 73) d_M_poke_73 rfl ?_
        refine e_bipush (pc := 74) (v := 7) d_M_poke_74 (by decide) ?_
        refine e_icmp_le (pc := 76) (tgt := 83) d_M_poke_76 (by decide) (fun _ => ?_) (fun zz => absurd (le7.mpr (nI_lt (b := 8) hk (by decide))) zz)
        refine e_iload_n (pc := 83) d_M_poke_83 rfl ?_
        refine e_if_eq (pc := 84) (tgt := 91) d_M_poke_84 (by decide) (fun zz => absurd zz (by decide)) (fun _ => ?_)
        refine e_iconst (pc := 87) (v := 2) d_M_poke_87 (by decide) ?_
        refine e_goto (pc := 88) (tgt := 92) d_M_poke_88 (by decide) ?_
        refine e_put (pc := 92) s_M_poke_92 rfl (Nat.le_of_ble_eq_true rfl) zFit.int wTh ?_
        refine e_aload_n (pc := 95) d_M_poke_95 rfl ?_
        refine e_get (pc := 96) s_M_poke_96 rfl rfl ?_
        refine e_if_ne (pc := 99) (tgt := 109) d_M_poke_99 (by decide) (fun _ => ?_) (fun zz => absurd zz (by decide))
        exact e_vret (pc := 109) d_M_poke_109 rfl (Nat.le_of_ble_eq_true rfl) (Nat.le_of_ble_eq_true rfl) rfl
set_option maxHeartbeats 4000000 in
set_option maxRecDepth 100000 in
theorem sM_register {l : Launch} {G : zGP} {K : Nat} {S T : St} {th : Int32} {fo : Nat → Int64} {c : Nat} (hc : c < 3) {r : Nat} (hr : r < 4) : Rn l G m_M_register [.ref 45, .int (nI c), .int (nI r)] (hpA K S T th fo) (.inl (some (.int (T 0 c r))), (hpA K S T 0 fo)) := by
  refine Rn.of (by decide) rfl rfl (Nat.le_of_ble_eq_true rfl) rfl ?_
  show Ev l G m_M_register 0 [.ref 45, .int (nI c), .int (nI r)] [] (hpA K S T th fo) 0 0 _
  refine e_aload_n (pc := 0) d_M_register_0 rfl ?_
  refine e_iload_n (pc := 1) d_M_register_1 rfl ?_
  refine e_cV1 (pc := 2) s_M_register_2 (sM_core hc) rfl rfl rfl (Nat.le_of_ble_eq_true rfl) (Nat.le_of_ble_eq_true rfl) (Nat.le_of_ble_eq_true rfl) (zGo.v ?_)
  refine e_if_ne (pc := 5) (tgt := 10) d_M_register_5 (by decide) (fun _ => ?_) (fun zz => absurd zz (by decide))
  refine e_aload_n (pc := 10) d_M_register_10 rfl ?_
  refine e_iload_n (pc := 11) d_M_register_11 rfl ?_
  refine e_cS1 (pc := 12) s_M_register_12 (sp_MisRegister) (Nat.le_of_ble_eq_true rfl) (Nat.le_of_ble_eq_true rfl) (Nat.le_of_ble_eq_true rfl) (zGo.v ?_)
  refine e_topi (y := 1) (if_pos ⟨nI_pos' (by omega), nI_lt (b := 4) hr (by decide)⟩) ?_
  refine e_if_eq (pc := 15) (tgt := 22) d_M_register_15 (by decide) (fun zz => absurd zz (by decide)) (fun _ => ?_)
  refine e_iconst (pc := 18) (v := 0) d_M_register_18 (by decide) ?_
  refine e_goto (pc := 19) (tgt := 23) d_M_register_19 (by decide) ?_
  refine e_put (pc := 23) s_M_register_23 rfl (Nat.le_of_ble_eq_true rfl) zFit.int wTh ?_
  refine e_aload_n (pc := 26) d_M_register_26 rfl ?_
  refine e_get (pc := 27) s_M_register_27 rfl rfl ?_
  refine e_if_le (pc := 30) (tgt := 37) d_M_register_30 (by decide) (fun _ => ?_) (fun zz => absurd (by decide) zz)
  refine e_aload_n (pc := 37) d_M_register_37 rfl ?_
  refine e_get (pc := 38) s_M_register_38 rfl rfl ?_
  refine e_iconst (pc := 41) (v := 4) d_M_register_41 (by decide) ?_
  refine e_iload_n (pc := 42) d_M_register_42 rfl ?_
  refine e_imul (pc := 43) d_M_register_43 ?_
  refine e_iload_n (pc := 44) d_M_register_44 rfl ?_
  refine e_iadd (pc := 45) d_M_register_45 ?_
  refine e_topi (y := nI (4 * c + r)) (ixM 4 c r) ?_
  refine e_iald (pc := 46) d_M_register_46 rfl (vp_in_nI (by omega) (by decide)) (fx4 (nI_clamp (by omega)) hr) ?_
  exact e_iret (pc := 47) d_M_register_47 rfl rfl (Nat.le_of_ble_eq_true rfl) (Nat.le_of_ble_eq_true rfl) rfl
set_option maxHeartbeats 4000000 in
set_option maxRecDepth 100000 in
theorem sM_registerX {l : Launch} {G : zGP} {K : Nat} {S T : St} {th : Int32} {fo : Nat → Int64} {c : Nat} (hc : c < 3) {r : Int32} (hr : ¬ (0 ≤ r ∧ r < 4)) : Rn l G m_M_register [.ref 45, .int (nI c), .int r] (hpA K S T th fo) (.inl (some (.int 0)), (hpA K S T 2 fo)) := by
  refine Rn.of (by decide) rfl rfl (Nat.le_of_ble_eq_true rfl) rfl ?_
  show Ev l G m_M_register 0 [.ref 45, .int (nI c), .int r] [] (hpA K S T th fo) 0 0 _
  refine e_aload_n (pc := 0) d_M_register_0 rfl ?_
  refine e_iload_n (pc := 1) d_M_register_1 rfl ?_
  refine e_cV1 (pc := 2) s_M_register_2 (sM_core hc) rfl rfl rfl (Nat.le_of_ble_eq_true rfl) (Nat.le_of_ble_eq_true rfl) (Nat.le_of_ble_eq_true rfl) (zGo.v ?_)
  refine e_if_ne (pc := 5) (tgt := 10) d_M_register_5 (by decide) (fun _ => ?_) (fun zz => absurd zz (by decide))
  refine e_aload_n (pc := 10) d_M_register_10 rfl ?_
  refine e_iload_n (pc := 11) d_M_register_11 rfl ?_
  refine e_cS1 (pc := 12) s_M_register_12 (sp_MisRegister) (Nat.le_of_ble_eq_true rfl) (Nat.le_of_ble_eq_true rfl) (Nat.le_of_ble_eq_true rfl) (zGo.v ?_)
  refine e_topi (y := 0) (if_neg hr) ?_
  refine e_if_eq (pc := 15) (tgt := 22) d_M_register_15 (by decide) (fun _ => ?_) (fun zz => absurd (rfl) zz)
  refine e_iconst (pc := 22) (v := 2) d_M_register_22 (by decide) ?_
  refine e_put (pc := 23) s_M_register_23 rfl (Nat.le_of_ble_eq_true rfl) zFit.int wTh ?_
  refine e_aload_n (pc := 26) d_M_register_26 rfl ?_
  refine e_get (pc := 27) s_M_register_27 rfl rfl ?_
  refine e_if_le (pc := 30) (tgt := 37) d_M_register_30 (by decide) (fun zz => absurd zz (by decide)) (fun _ => ?_)
  refine e_iconst (pc := 33) (v := 0) d_M_register_33 (by decide) ?_
  refine e_goto (pc := 34) (tgt := 47) d_M_register_34 (by decide) ?_
  exact e_iret (pc := 47) d_M_register_47 rfl rfl (Nat.le_of_ble_eq_true rfl) (Nat.le_of_ble_eq_true rfl) rfl
set_option maxHeartbeats 4000000 in
set_option maxRecDepth 100000 in
theorem sM_place {l : Launch} {G : zGP} {K : Nat} {S T : St} {th : Int32} {fo : Nat → Int64} {c : Nat} (hc : c < 3) : Rn l G m_M_place [.ref 45, .int (nI c)] (hpA K S T th fo) (.inl (some (.int (T 5 c 0))), (hpA K S T 0 fo)) := by
  refine Rn.of (by decide) rfl rfl (Nat.le_of_ble_eq_true rfl) rfl ?_
  show Ev l G m_M_place 0 [.ref 45, .int (nI c)] [] (hpA K S T th fo) 0 0 _
  refine e_aload_n (pc := 0) d_M_place_0 rfl ?_
  refine e_iload_n (pc := 1) d_M_place_1 rfl ?_
  refine e_cV1 (pc := 2) s_M_place_2 (sM_core hc) rfl rfl rfl (Nat.le_of_ble_eq_true rfl) (Nat.le_of_ble_eq_true rfl) (Nat.le_of_ble_eq_true rfl) (zGo.v ?_)
  refine e_if_eq (pc := 5) (tgt := 17) d_M_place_5 (by decide) (fun zz => absurd zz (by decide)) (fun _ => ?_)
  refine e_aload_n (pc := 8) d_M_place_8 rfl ?_
  refine e_get (pc := 9) s_M_place_9 rfl rfl ?_
  refine e_iload_n (pc := 12) d_M_place_12 rfl ?_
  refine e_iald (pc := 13) d_M_place_13 rfl (vp_in_nI (by omega) (by decide)) (fx1 (nI_clamp (by omega))) ?_
  refine e_goto (pc := 14) (tgt := 18) d_M_place_14 (by decide) ?_
  exact e_iret (pc := 18) d_M_place_18 rfl rfl (Nat.le_of_ble_eq_true rfl) (Nat.le_of_ble_eq_true rfl) rfl
set_option maxHeartbeats 4000000 in
set_option maxRecDepth 100000 in
theorem sM_buffered {l : Launch} {G : zGP} {K : Nat} {S T : St} {th : Int32} {fo : Nat → Int64} {c : Nat} (hc : c < 3) : Rn l G m_M_buffered [.ref 45, .int (nI c)] (hpA K S T th fo) (.inl (some (.int (T 6 c 0))), (hpA K S T 0 fo)) := by
  refine Rn.of (by decide) rfl rfl (Nat.le_of_ble_eq_true rfl) rfl ?_
  show Ev l G m_M_buffered 0 [.ref 45, .int (nI c)] [] (hpA K S T th fo) 0 0 _
  refine e_aload_n (pc := 0) d_M_buffered_0 rfl ?_
  refine e_iload_n (pc := 1) d_M_buffered_1 rfl ?_
  refine e_cV1 (pc := 2) s_M_buffered_2 (sM_core hc) rfl rfl rfl (Nat.le_of_ble_eq_true rfl) (Nat.le_of_ble_eq_true rfl) (Nat.le_of_ble_eq_true rfl) (zGo.v ?_)
  refine e_if_eq (pc := 5) (tgt := 17) d_M_buffered_5 (by decide) (fun zz => absurd zz (by decide)) (fun _ => ?_)
  refine e_aload_n (pc := 8) d_M_buffered_8 rfl ?_
  refine e_get (pc := 9) s_M_buffered_9 rfl rfl ?_
  refine e_iload_n (pc := 12) d_M_buffered_12 rfl ?_
  refine e_iald (pc := 13) d_M_buffered_13 rfl (vp_in_nI (by omega) (by decide)) (fx1 (nI_clamp (by omega))) ?_
  refine e_goto (pc := 14) (tgt := 18) d_M_buffered_14 (by decide) ?_
  exact e_iret (pc := 18) d_M_buffered_18 rfl rfl (Nat.le_of_ble_eq_true rfl) (Nat.le_of_ble_eq_true rfl) rfl
set_option maxHeartbeats 4000000 in
set_option maxRecDepth 100000 in
theorem sM_storeAddress {l : Launch} {G : zGP} {K : Nat} {S T : St} {th : Int32} {fo : Nat → Int64} {c n q : Nat} (hc : c < 3) (hq : q < n) (hn : n ≤ 4) (h6 : T 6 c 0 = nI n) : Rn l G m_M_storeAddress [.ref 45, .int (nI c), .int (nI q)] (hpA K S T th fo) (.inl (some (.int (T 7 c q))), (hpA K S T 0 fo)) := by
  refine Rn.of (by decide) rfl rfl (Nat.le_of_ble_eq_true rfl) rfl ?_
  show Ev l G m_M_storeAddress 0 [.ref 45, .int (nI c), .int (nI q)] [] (hpA K S T th fo) 0 0 _
  refine e_aload_n (pc := 0) d_M_storeAddress_0 rfl ?_
  refine e_iload_n (pc := 1) d_M_storeAddress_1 rfl ?_
  refine e_cV1 (pc := 2) s_M_storeAddress_2 (sM_core hc) rfl rfl rfl (Nat.le_of_ble_eq_true rfl) (Nat.le_of_ble_eq_true rfl) (Nat.le_of_ble_eq_true rfl) (zGo.v ?_)
  refine e_if_ne (pc := 5) (tgt := 10) d_M_storeAddress_5 (by decide) (fun _ => ?_) (fun zz => absurd zz (by decide))
  refine e_aload_n (pc := 10) d_M_storeAddress_10 rfl ?_
  refine e_iload_n (pc := 11) d_M_storeAddress_11 rfl ?_
  refine e_if_lt (pc := 12) (tgt := 29) d_M_storeAddress_12 (by decide) (fun zz => absurd zz (nI_pos (by omega))) (fun _ => ?_)
  refine e_iload_n (pc := 15) d_M_storeAddress_15 rfl ?_
  refine e_aload_n (pc := 16) d_M_storeAddress_16 rfl ?_
  refine e_get (pc := 17) s_M_storeAddress_17 rfl rfl ?_
  refine e_iload_n (pc := 20) d_M_storeAddress_20 rfl ?_
  refine e_iald (pc := 21) d_M_storeAddress_21 rfl (vp_in_nI (by omega) (by decide)) ((fx1 (nI_clamp (by omega))).trans h6) ?_
  refine e_icmp_ge (pc := 22) (tgt := 29) d_M_storeAddress_22 (by decide) (fun zz => absurd zz (nI_ge hq (by omega))) (fun _ => ?_)
  refine e_iconst (pc := 25) (v := 0) d_M_storeAddress_25 (by decide) ?_
  refine e_goto (pc := 26) (tgt := 30) d_M_storeAddress_26 (by decide) ?_
  refine e_put (pc := 30) s_M_storeAddress_30 rfl (Nat.le_of_ble_eq_true rfl) zFit.int wTh ?_
  refine e_aload_n (pc := 33) d_M_storeAddress_33 rfl ?_
  refine e_get (pc := 34) s_M_storeAddress_34 rfl rfl ?_
  refine e_if_le (pc := 37) (tgt := 44) d_M_storeAddress_37 (by decide) (fun _ => ?_) (fun zz => absurd (by decide) zz)
  refine e_aload_n (pc := 44) d_M_storeAddress_44 rfl ?_
  refine e_get (pc := 45) s_M_storeAddress_45 rfl rfl ?_
  refine e_iconst (pc := 48) (v := 4) d_M_storeAddress_48 (by decide) ?_
  refine e_iload_n (pc := 49) d_M_storeAddress_49 rfl ?_
  refine e_imul (pc := 50) d_M_storeAddress_50 ?_
  refine e_iload_n (pc := 51) d_M_storeAddress_51 rfl ?_
  refine e_iadd (pc := 52) d_M_storeAddress_52 ?_
  refine e_topi (y := nI (4 * c + q)) (ixM 4 c q) ?_
  refine e_iald (pc := 53) d_M_storeAddress_53 rfl (vp_in_nI (by omega) (by decide)) (fx4 (nI_clamp (by omega)) (by omega)) ?_
  exact e_iret (pc := 54) d_M_storeAddress_54 rfl rfl (Nat.le_of_ble_eq_true rfl) (Nat.le_of_ble_eq_true rfl) rfl
set_option maxHeartbeats 4000000 in
set_option maxRecDepth 100000 in
theorem sM_storeAddressX {l : Launch} {G : zGP} {K : Nat} {S T : St} {th : Int32} {fo : Nat → Int64} {c : Nat} (hc : c < 3) {i : Int32} (hi : ¬ (0 ≤ i ∧ i < T 6 c 0)) : Rn l G m_M_storeAddress [.ref 45, .int (nI c), .int i] (hpA K S T th fo) (.inl (some (.int 0)), (hpA K S T 2 fo)) := by
  refine Rn.of (by decide) rfl rfl (Nat.le_of_ble_eq_true rfl) rfl ?_
  show Ev l G m_M_storeAddress 0 [.ref 45, .int (nI c), .int i] [] (hpA K S T th fo) 0 0 _
  refine e_aload_n (pc := 0) d_M_storeAddress_0 rfl ?_
  refine e_iload_n (pc := 1) d_M_storeAddress_1 rfl ?_
  refine e_cV1 (pc := 2) s_M_storeAddress_2 (sM_core hc) rfl rfl rfl (Nat.le_of_ble_eq_true rfl) (Nat.le_of_ble_eq_true rfl) (Nat.le_of_ble_eq_true rfl) (zGo.v ?_)
  refine e_if_ne (pc := 5) (tgt := 10) d_M_storeAddress_5 (by decide) (fun _ => ?_) (fun zz => absurd zz (by decide))
  refine e_aload_n (pc := 10) d_M_storeAddress_10 rfl ?_
  refine e_iload_n (pc := 11) d_M_storeAddress_11 rfl ?_
  refine e_if_lt (pc := 12) (tgt := 29) d_M_storeAddress_12 (by decide) (fun hz64 => ?_) (fun hz64 => ?_)
  · refine e_iconst (pc := 29) (v := 2) d_M_storeAddress_29 (by decide) ?_
    refine e_put (pc := 30) s_M_storeAddress_30 rfl (Nat.le_of_ble_eq_true rfl) zFit.int wTh ?_
    refine e_aload_n (pc := 33) d_M_storeAddress_33 rfl ?_
    refine e_get (pc := 34) s_M_storeAddress_34 rfl rfl ?_
    refine e_if_le (pc := 37) (tgt := 44) d_M_storeAddress_37 (by decide) (fun zz => absurd zz (by decide)) (fun _ => ?_)
    refine e_iconst (pc := 40) (v := 0) d_M_storeAddress_40 (by decide) ?_
    refine e_goto (pc := 41) (tgt := 54) d_M_storeAddress_41 (by decide) ?_
    exact e_iret (pc := 54) d_M_storeAddress_54 rfl rfl (Nat.le_of_ble_eq_true rfl) (Nat.le_of_ble_eq_true rfl) (by simp [hz64])
  · refine e_iload_n (pc := 15) d_M_storeAddress_15 rfl ?_
    refine e_aload_n (pc := 16) d_M_storeAddress_16 rfl ?_
    refine e_get (pc := 17) s_M_storeAddress_17 rfl rfl ?_
    refine e_iload_n (pc := 20) d_M_storeAddress_20 rfl ?_
    refine e_iald (pc := 21) d_M_storeAddress_21 rfl (vp_in_nI (by omega) (by decide)) (fx1 (nI_clamp (by omega))) ?_
    refine e_icmp_ge (pc := 22) (tgt := 29) d_M_storeAddress_22 (by decide) (fun hz65 => ?_) (fun hz65 => ?_)
    · refine e_iconst (pc := 29) (v := 2) d_M_storeAddress_29 (by decide) ?_
      refine e_put (pc := 30) s_M_storeAddress_30 rfl (Nat.le_of_ble_eq_true rfl) zFit.int wTh ?_
      refine e_aload_n (pc := 33) d_M_storeAddress_33 rfl ?_
      refine e_get (pc := 34) s_M_storeAddress_34 rfl rfl ?_
      refine e_if_le (pc := 37) (tgt := 44) d_M_storeAddress_37 (by decide) (fun zz => absurd zz (by decide)) (fun _ => ?_)
      refine e_iconst (pc := 40) (v := 0) d_M_storeAddress_40 (by decide) ?_
      refine e_goto (pc := 41) (tgt := 54) d_M_storeAddress_41 (by decide) ?_
      exact e_iret (pc := 54) d_M_storeAddress_54 rfl rfl (Nat.le_of_ble_eq_true rfl) (Nat.le_of_ble_eq_true rfl) (by simp [hz64, hz65])
    · exact absurd ⟨Int32.not_lt.mp (by assumption), Int32.not_le.mp (by assumption)⟩ hi
set_option maxHeartbeats 4000000 in
set_option maxRecDepth 100000 in
theorem sM_storeValue {l : Launch} {G : zGP} {K : Nat} {S T : St} {th : Int32} {fo : Nat → Int64} {c n q : Nat} (hc : c < 3) (hq : q < n) (hn : n ≤ 4) (h6 : T 6 c 0 = nI n) : Rn l G m_M_storeValue [.ref 45, .int (nI c), .int (nI q)] (hpA K S T th fo) (.inl (some (.int (T 8 c q))), (hpA K S T 0 fo)) := by
  refine Rn.of (by decide) rfl rfl (Nat.le_of_ble_eq_true rfl) rfl ?_
  show Ev l G m_M_storeValue 0 [.ref 45, .int (nI c), .int (nI q)] [] (hpA K S T th fo) 0 0 _
  refine e_aload_n (pc := 0) d_M_storeValue_0 rfl ?_
  refine e_iload_n (pc := 1) d_M_storeValue_1 rfl ?_
  refine e_cV1 (pc := 2) s_M_storeValue_2 (sM_core hc) rfl rfl rfl (Nat.le_of_ble_eq_true rfl) (Nat.le_of_ble_eq_true rfl) (Nat.le_of_ble_eq_true rfl) (zGo.v ?_)
  refine e_if_ne (pc := 5) (tgt := 10) d_M_storeValue_5 (by decide) (fun _ => ?_) (fun zz => absurd zz (by decide))
  refine e_aload_n (pc := 10) d_M_storeValue_10 rfl ?_
  refine e_iload_n (pc := 11) d_M_storeValue_11 rfl ?_
  refine e_if_lt (pc := 12) (tgt := 29) d_M_storeValue_12 (by decide) (fun zz => absurd zz (nI_pos (by omega))) (fun _ => ?_)
  refine e_iload_n (pc := 15) d_M_storeValue_15 rfl ?_
  refine e_aload_n (pc := 16) d_M_storeValue_16 rfl ?_
  refine e_get (pc := 17) s_M_storeValue_17 rfl rfl ?_
  refine e_iload_n (pc := 20) d_M_storeValue_20 rfl ?_
  refine e_iald (pc := 21) d_M_storeValue_21 rfl (vp_in_nI (by omega) (by decide)) ((fx1 (nI_clamp (by omega))).trans h6) ?_
  refine e_icmp_ge (pc := 22) (tgt := 29) d_M_storeValue_22 (by decide) (fun zz => absurd zz (nI_ge hq (by omega))) (fun _ => ?_)
  refine e_iconst (pc := 25) (v := 0) d_M_storeValue_25 (by decide) ?_
  refine e_goto (pc := 26) (tgt := 30) d_M_storeValue_26 (by decide) ?_
  refine e_put (pc := 30) s_M_storeValue_30 rfl (Nat.le_of_ble_eq_true rfl) zFit.int wTh ?_
  refine e_aload_n (pc := 33) d_M_storeValue_33 rfl ?_
  refine e_get (pc := 34) s_M_storeValue_34 rfl rfl ?_
  refine e_if_le (pc := 37) (tgt := 44) d_M_storeValue_37 (by decide) (fun _ => ?_) (fun zz => absurd (by decide) zz)
  refine e_aload_n (pc := 44) d_M_storeValue_44 rfl ?_
  refine e_get (pc := 45) s_M_storeValue_45 rfl rfl ?_
  refine e_iconst (pc := 48) (v := 4) d_M_storeValue_48 (by decide) ?_
  refine e_iload_n (pc := 49) d_M_storeValue_49 rfl ?_
  refine e_imul (pc := 50) d_M_storeValue_50 ?_
  refine e_iload_n (pc := 51) d_M_storeValue_51 rfl ?_
  refine e_iadd (pc := 52) d_M_storeValue_52 ?_
  refine e_topi (y := nI (4 * c + q)) (ixM 4 c q) ?_
  refine e_iald (pc := 53) d_M_storeValue_53 rfl (vp_in_nI (by omega) (by decide)) (fx4 (nI_clamp (by omega)) (by omega)) ?_
  exact e_iret (pc := 54) d_M_storeValue_54 rfl rfl (Nat.le_of_ble_eq_true rfl) (Nat.le_of_ble_eq_true rfl) rfl
set_option maxHeartbeats 4000000 in
set_option maxRecDepth 100000 in
theorem sM_storeValueX {l : Launch} {G : zGP} {K : Nat} {S T : St} {th : Int32} {fo : Nat → Int64} {c : Nat} (hc : c < 3) {i : Int32} (hi : ¬ (0 ≤ i ∧ i < T 6 c 0)) : Rn l G m_M_storeValue [.ref 45, .int (nI c), .int i] (hpA K S T th fo) (.inl (some (.int 0)), (hpA K S T 2 fo)) := by
  refine Rn.of (by decide) rfl rfl (Nat.le_of_ble_eq_true rfl) rfl ?_
  show Ev l G m_M_storeValue 0 [.ref 45, .int (nI c), .int i] [] (hpA K S T th fo) 0 0 _
  refine e_aload_n (pc := 0) d_M_storeValue_0 rfl ?_
  refine e_iload_n (pc := 1) d_M_storeValue_1 rfl ?_
  refine e_cV1 (pc := 2) s_M_storeValue_2 (sM_core hc) rfl rfl rfl (Nat.le_of_ble_eq_true rfl) (Nat.le_of_ble_eq_true rfl) (Nat.le_of_ble_eq_true rfl) (zGo.v ?_)
  refine e_if_ne (pc := 5) (tgt := 10) d_M_storeValue_5 (by decide) (fun _ => ?_) (fun zz => absurd zz (by decide))
  refine e_aload_n (pc := 10) d_M_storeValue_10 rfl ?_
  refine e_iload_n (pc := 11) d_M_storeValue_11 rfl ?_
  refine e_if_lt (pc := 12) (tgt := 29) d_M_storeValue_12 (by decide) (fun hz66 => ?_) (fun hz66 => ?_)
  · refine e_iconst (pc := 29) (v := 2) d_M_storeValue_29 (by decide) ?_
    refine e_put (pc := 30) s_M_storeValue_30 rfl (Nat.le_of_ble_eq_true rfl) zFit.int wTh ?_
    refine e_aload_n (pc := 33) d_M_storeValue_33 rfl ?_
    refine e_get (pc := 34) s_M_storeValue_34 rfl rfl ?_
    refine e_if_le (pc := 37) (tgt := 44) d_M_storeValue_37 (by decide) (fun zz => absurd zz (by decide)) (fun _ => ?_)
    refine e_iconst (pc := 40) (v := 0) d_M_storeValue_40 (by decide) ?_
    refine e_goto (pc := 41) (tgt := 54) d_M_storeValue_41 (by decide) ?_
    exact e_iret (pc := 54) d_M_storeValue_54 rfl rfl (Nat.le_of_ble_eq_true rfl) (Nat.le_of_ble_eq_true rfl) (by simp [hz66])
  · refine e_iload_n (pc := 15) d_M_storeValue_15 rfl ?_
    refine e_aload_n (pc := 16) d_M_storeValue_16 rfl ?_
    refine e_get (pc := 17) s_M_storeValue_17 rfl rfl ?_
    refine e_iload_n (pc := 20) d_M_storeValue_20 rfl ?_
    refine e_iald (pc := 21) d_M_storeValue_21 rfl (vp_in_nI (by omega) (by decide)) (fx1 (nI_clamp (by omega))) ?_
    refine e_icmp_ge (pc := 22) (tgt := 29) d_M_storeValue_22 (by decide) (fun hz67 => ?_) (fun hz67 => ?_)
    · refine e_iconst (pc := 29) (v := 2) d_M_storeValue_29 (by decide) ?_
      refine e_put (pc := 30) s_M_storeValue_30 rfl (Nat.le_of_ble_eq_true rfl) zFit.int wTh ?_
      refine e_aload_n (pc := 33) d_M_storeValue_33 rfl ?_
      refine e_get (pc := 34) s_M_storeValue_34 rfl rfl ?_
      refine e_if_le (pc := 37) (tgt := 44) d_M_storeValue_37 (by decide) (fun zz => absurd zz (by decide)) (fun _ => ?_)
      refine e_iconst (pc := 40) (v := 0) d_M_storeValue_40 (by decide) ?_
      refine e_goto (pc := 41) (tgt := 54) d_M_storeValue_41 (by decide) ?_
      exact e_iret (pc := 54) d_M_storeValue_54 rfl rfl (Nat.le_of_ble_eq_true rfl) (Nat.le_of_ble_eq_true rfl) (by simp [hz66, hz67])
    · exact absurd ⟨Int32.not_lt.mp (by assumption), Int32.not_le.mp (by assumption)⟩ hi
set_option maxHeartbeats 4000000 in
set_option maxRecDepth 100000 in
theorem sM_lineX {l : Launch} {G : zGP} {K : Nat} {S T : St} {th : Int32} {fo : Nat → Int64} {c : Nat} (hc : c < 3) {i : Int32} (hi : ¬ (0 ≤ i ∧ i < 2)) : Rn l G m_M_line [.ref 45, .int (nI c), .int i] (hpA K S T th fo) (.inl (some (.int 0)), (hpA K S T 2 fo)) := by
  refine Rn.of (by decide) rfl rfl (Nat.le_of_ble_eq_true rfl) rfl ?_
  show Ev l G m_M_line 0 [.ref 45, .int (nI c), .int i, .double 0] [] (hpA K S T th fo) 0 0 _
  refine e_aload_n (pc := 0) d_M_line_0 rfl ?_
  refine e_iload_n (pc := 1) d_M_line_1 rfl ?_
  refine e_cV1 (pc := 2) s_M_line_2 (sM_core hc) rfl rfl rfl (Nat.le_of_ble_eq_true rfl) (Nat.le_of_ble_eq_true rfl) (Nat.le_of_ble_eq_true rfl) (zGo.v ?_)
  refine e_if_ne (pc := 5) (tgt := 10) d_M_line_5 (by decide) (fun _ => ?_) (fun zz => absurd zz (by decide))
  refine e_aload_n (pc := 10) d_M_line_10 rfl ?_
  refine e_iload_n (pc := 11) d_M_line_11 rfl ?_
  refine e_if_eq (pc := 12) (tgt := 20) d_M_line_12 (by decide) (fun hz68 => ?_) (fun hz68 => ?_)
  · exact absurd (ln01 (by first | exact Or.inl (by assumption) | exact Or.inr (by assumption))) hi
  · refine e_iload_n (pc := 15) d_M_line_15 rfl ?_
    refine e_iconst (pc := 16) (v := 1) d_M_line_16 (by decide) ?_
    refine e_icmp_ne (pc := 17) (tgt := 24) d_M_line_17 (by decide) (fun hz69 => ?_) (fun hz69 => ?_)
    · refine e_iconst (pc := 24) (v := 2) d_M_line_24 (by decide) ?_
      refine e_put (pc := 25) s_M_line_25 rfl (Nat.le_of_ble_eq_true rfl) zFit.int wTh ?_
      refine e_aload_n (pc := 28) d_M_line_28 rfl ?_
      refine e_get (pc := 29) s_M_line_29 rfl rfl ?_
      refine e_if_le (pc := 32) (tgt := 37) d_M_line_32 (by decide) (fun zz => absurd zz (by decide)) (fun _ => ?_)
      refine e_iconst (pc := 35) (v := 0) d_M_line_35 (by decide) ?_
      exact e_iret (pc := 36) d_M_line_36 rfl rfl (Nat.le_of_ble_eq_true rfl) (Nat.le_of_ble_eq_true rfl) (by simp [hz68, hz69])
    · exact absurd (ln01 (by first | exact Or.inl (by assumption) | exact Or.inr (by assumption))) hi
set_option maxHeartbeats 4000000 in
set_option maxRecDepth 100000 in
theorem sM_line0 {l : Launch} {G : zGP} {K : Nat} {S T : St} {th : Int32} {fo : Nat → Int64} {c : Nat} (hc : c < 3) : Rn l G m_M_line [.ref 45, .int (nI c), .int (nI 0)] (hpA K S T th fo) (.inl (some (.int (lnV T c 0))), (hpA K S T 0 fo)) := by
  refine Rn.of (by decide) rfl rfl (Nat.le_of_ble_eq_true rfl) rfl ?_
  show Ev l G m_M_line 0 [.ref 45, .int (nI c), .int (nI 0), .double 0] [] (hpA K S T th fo) 0 0 _
  refine e_aload_n (pc := 0) d_M_line_0 rfl ?_
  refine e_iload_n (pc := 1) d_M_line_1 rfl ?_
  refine e_cV1 (pc := 2) s_M_line_2 (sM_core hc) rfl rfl rfl (Nat.le_of_ble_eq_true rfl) (Nat.le_of_ble_eq_true rfl) (Nat.le_of_ble_eq_true rfl) (zGo.v ?_)
  refine e_if_ne (pc := 5) (tgt := 10) d_M_line_5 (by decide) (fun _ => ?_) (fun zz => absurd zz (by decide))
  refine e_aload_n (pc := 10) d_M_line_10 rfl ?_
  refine e_iload_n (pc := 11) d_M_line_11 rfl ?_
  refine e_if_eq (pc := 12) (tgt := 20) d_M_line_12 (by decide) (fun _ => ?_) (fun zz => absurd (by decide) zz)
  refine e_iconst (pc := 20) (v := 0) d_M_line_20 (by decide) ?_
  refine e_goto (pc := 21) (tgt := 25) d_M_line_21 (by decide) ?_
  refine e_put (pc := 25) s_M_line_25 rfl (Nat.le_of_ble_eq_true rfl) zFit.int wTh ?_
  refine e_aload_n (pc := 28) d_M_line_28 rfl ?_
  refine e_get (pc := 29) s_M_line_29 rfl rfl ?_
  refine e_if_le (pc := 32) (tgt := 37) d_M_line_32 (by decide) (fun _ => ?_) (fun zz => absurd (by decide) zz)
  refine e_iconst (pc := 37) (v := 2) d_M_line_37 (by decide) ?_
  refine e_iload_n (pc := 38) d_M_line_38 rfl ?_
  refine e_imul (pc := 39) d_M_line_39 ?_
  refine e_iload_n (pc := 40) d_M_line_40 rfl ?_
  refine e_iadd (pc := 41) d_M_line_41 ?_
  refine e_topi (y := nI (2 * c + 0)) (ixM 2 c 0) ?_
  refine e_istore_n (pc := 42) d_M_line_42 (Nat.le_of_ble_eq_true rfl) ?_
  dsimp only [List.set]
  refine e_aload_n (pc := 43) d_M_line_43 rfl ?_
  refine e_get (pc := 44) s_M_line_44 rfl rfl ?_
  refine e_iload_n (pc := 47) d_M_line_47 rfl ?_
  refine e_iald (pc := 48) d_M_line_48 rfl (vp_in_nI (by omega) (by decide)) (fx2 (j := 0) (nI_clamp (by omega)) (by decide)) ?_
  refine e_if_ne (pc := 49) (tgt := 56) d_M_line_49 (by decide) (fun hz70 => ?_) (fun hz70 => ?_)
  · refine e_aload_n (pc := 56) d_M_line_56 rfl ?_
    refine e_get (pc := 57) s_M_line_57 rfl rfl ?_
    refine e_iload_n (pc := 60) d_M_line_60 rfl ?_
    refine e_iald (pc := 61) d_M_line_61 rfl (vp_in_nI (by omega) (by decide)) (fx2 (j := 0) (nI_clamp (by omega)) (by decide)) ?_
    refine e_iconst (pc := 62) (v := 4) d_M_line_62 (by decide) ?_
    refine e_aload_n (pc := 63) d_M_line_63 rfl ?_
    refine e_get (pc := 64) s_M_line_64 rfl rfl ?_
    refine e_iload_n (pc := 67) d_M_line_67 rfl ?_
    refine e_iald (pc := 68) d_M_line_68 rfl (vp_in_nI (by omega) (by decide)) (fx2 (j := 0) (nI_clamp (by omega)) (by decide)) ?_
    refine e_imul (pc := 69) d_M_line_69 ?_
    refine e_iadd (pc := 70) d_M_line_70 ?_
    exact e_iret (pc := 71) d_M_line_71 rfl rfl (Nat.le_of_ble_eq_true rfl) (Nat.le_of_ble_eq_true rfl) (zR (by simp [lnV, hz70]))
  · refine e_iconst (pc := 52) (v := 0) d_M_line_52 (by decide) ?_
    refine e_goto (pc := 53) (tgt := 71) d_M_line_53 (by decide) ?_
    exact e_iret (pc := 71) d_M_line_71 rfl rfl (Nat.le_of_ble_eq_true rfl) (Nat.le_of_ble_eq_true rfl) (zR (by simp [lnV, hz70]))
set_option maxHeartbeats 4000000 in
set_option maxRecDepth 100000 in
theorem sM_line1 {l : Launch} {G : zGP} {K : Nat} {S T : St} {th : Int32} {fo : Nat → Int64} {c : Nat} (hc : c < 3) : Rn l G m_M_line [.ref 45, .int (nI c), .int (nI 1)] (hpA K S T th fo) (.inl (some (.int (lnV T c 1))), (hpA K S T 0 fo)) := by
  refine Rn.of (by decide) rfl rfl (Nat.le_of_ble_eq_true rfl) rfl ?_
  show Ev l G m_M_line 0 [.ref 45, .int (nI c), .int (nI 1), .double 0] [] (hpA K S T th fo) 0 0 _
  refine e_aload_n (pc := 0) d_M_line_0 rfl ?_
  refine e_iload_n (pc := 1) d_M_line_1 rfl ?_
  refine e_cV1 (pc := 2) s_M_line_2 (sM_core hc) rfl rfl rfl (Nat.le_of_ble_eq_true rfl) (Nat.le_of_ble_eq_true rfl) (Nat.le_of_ble_eq_true rfl) (zGo.v ?_)
  refine e_if_ne (pc := 5) (tgt := 10) d_M_line_5 (by decide) (fun _ => ?_) (fun zz => absurd zz (by decide))
  refine e_aload_n (pc := 10) d_M_line_10 rfl ?_
  refine e_iload_n (pc := 11) d_M_line_11 rfl ?_
  refine e_if_eq (pc := 12) (tgt := 20) d_M_line_12 (by decide) (fun zz => absurd zz (by decide)) (fun _ => ?_)
  refine e_iload_n (pc := 15) d_M_line_15 rfl ?_
  refine e_iconst (pc := 16) (v := 1) d_M_line_16 (by decide) ?_
  refine e_icmp_ne (pc := 17) (tgt := 24) d_M_line_17 (by decide) (fun zz => absurd (by decide) zz) (fun _ => ?_)
  refine e_iconst (pc := 20) (v := 0) d_M_line_20 (by decide) ?_
  refine e_goto (pc := 21) (tgt := 25) d_M_line_21 (by decide) ?_
  refine e_put (pc := 25) s_M_line_25 rfl (Nat.le_of_ble_eq_true rfl) zFit.int wTh ?_
  refine e_aload_n (pc := 28) d_M_line_28 rfl ?_
  refine e_get (pc := 29) s_M_line_29 rfl rfl ?_
  refine e_if_le (pc := 32) (tgt := 37) d_M_line_32 (by decide) (fun _ => ?_) (fun zz => absurd (by decide) zz)
  refine e_iconst (pc := 37) (v := 2) d_M_line_37 (by decide) ?_
  refine e_iload_n (pc := 38) d_M_line_38 rfl ?_
  refine e_imul (pc := 39) d_M_line_39 ?_
  refine e_iload_n (pc := 40) d_M_line_40 rfl ?_
  refine e_iadd (pc := 41) d_M_line_41 ?_
  refine e_topi (y := nI (2 * c + 1)) (ixM 2 c 1) ?_
  refine e_istore_n (pc := 42) d_M_line_42 (Nat.le_of_ble_eq_true rfl) ?_
  dsimp only [List.set]
  refine e_aload_n (pc := 43) d_M_line_43 rfl ?_
  refine e_get (pc := 44) s_M_line_44 rfl rfl ?_
  refine e_iload_n (pc := 47) d_M_line_47 rfl ?_
  refine e_iald (pc := 48) d_M_line_48 rfl (vp_in_nI (by omega) (by decide)) (fx2 (j := 1) (nI_clamp (by omega)) (by decide)) ?_
  refine e_if_ne (pc := 49) (tgt := 56) d_M_line_49 (by decide) (fun hz71 => ?_) (fun hz71 => ?_)
  · refine e_aload_n (pc := 56) d_M_line_56 rfl ?_
    refine e_get (pc := 57) s_M_line_57 rfl rfl ?_
    refine e_iload_n (pc := 60) d_M_line_60 rfl ?_
    refine e_iald (pc := 61) d_M_line_61 rfl (vp_in_nI (by omega) (by decide)) (fx2 (j := 1) (nI_clamp (by omega)) (by decide)) ?_
    refine e_iconst (pc := 62) (v := 4) d_M_line_62 (by decide) ?_
    refine e_aload_n (pc := 63) d_M_line_63 rfl ?_
    refine e_get (pc := 64) s_M_line_64 rfl rfl ?_
    refine e_iload_n (pc := 67) d_M_line_67 rfl ?_
    refine e_iald (pc := 68) d_M_line_68 rfl (vp_in_nI (by omega) (by decide)) (fx2 (j := 1) (nI_clamp (by omega)) (by decide)) ?_
    refine e_imul (pc := 69) d_M_line_69 ?_
    refine e_iadd (pc := 70) d_M_line_70 ?_
    exact e_iret (pc := 71) d_M_line_71 rfl rfl (Nat.le_of_ble_eq_true rfl) (Nat.le_of_ble_eq_true rfl) (zR (by simp [lnV, hz71]))
  · refine e_iconst (pc := 52) (v := 0) d_M_line_52 (by decide) ?_
    refine e_goto (pc := 53) (tgt := 71) d_M_line_53 (by decide) ?_
    exact e_iret (pc := 71) d_M_line_71 rfl rfl (Nat.le_of_ble_eq_true rfl) (Nat.le_of_ble_eq_true rfl) (zR (by simp [lnV, hz71]))
set_option maxHeartbeats 4000000 in
set_option maxRecDepth 100000 in
theorem sM_cachedX1 {l : Launch} {G : zGP} {K : Nat} {S T : St} {th : Int32} {fo : Nat → Int64} {c : Nat} (hc : c < 3) {x : Int32} (hx : ¬ (0 ≤ x ∧ x < 8)) : Rn l G m_M_cached [.ref 45, .int (nI c), .int x] (hpA K S T th fo) (.inl (some (.int 0)), (hpA K S T 2 fo)) := by
  refine Rn.of (by decide) rfl rfl (Nat.le_of_ble_eq_true rfl) rfl ?_
  show Ev l G m_M_cached 0 [.ref 45, .int (nI c), .int x] [] (hpA K S T th fo) 0 0 _
  refine e_aload_n (pc := 0) d_M_cached_0 rfl ?_
  refine e_iload_n (pc := 1) d_M_cached_1 rfl ?_
  refine e_cV1 (pc := 2) s_M_cached_2 (sM_core hc) rfl rfl rfl (Nat.le_of_ble_eq_true rfl) (Nat.le_of_ble_eq_true rfl) (Nat.le_of_ble_eq_true rfl) (zGo.v ?_)
  refine e_if_ne (pc := 5) (tgt := 10) d_M_cached_5 (by decide) (fun _ => ?_) (fun zz => absurd zz (by decide))
  refine e_aload_n (pc := 10) d_M_cached_10 rfl ?_
  refine e_iload_n (pc := 11) d_M_cached_11 rfl ?_
  refine e_if_lt (pc := 12) (tgt := 21) d_M_cached_12 (by decide) (fun hz72 => ?_) (fun hz72 => ?_)
  · refine e_iconst (pc := 21) (v := 2) d_M_cached_21 (by decide) ?_
    refine e_goto (pc := 22) (tgt := 39) d_M_cached_22 (by decide) ?_
    refine e_put (pc := 39) s_M_cached_39 rfl (Nat.le_of_ble_eq_true rfl) zFit.int wTh ?_
    refine e_aload_n (pc := 42) d_M_cached_42 rfl ?_
    refine e_get (pc := 43) s_M_cached_43 rfl rfl ?_
    refine e_if_le (pc := 46) (tgt := 53) d_M_cached_46 (by decide) (fun zz => absurd zz (by decide)) (fun _ => ?_)
    refine e_iconst (pc := 49) (v := 0) d_M_cached_49 (by decide) ?_
    refine e_goto (pc := 50) (tgt := 64) d_M_cached_50 (by decide) ?_
    exact e_iret (pc := 64) d_M_cached_64 rfl rfl (Nat.le_of_ble_eq_true rfl) (Nat.le_of_ble_eq_true rfl) (by simp [hz72])
  · refine e_iload_n (pc := 15) d_M_cached_15 rfl ?_
    refine e_bipush (pc := 16) (v := 7) d_M_cached_16 (by decide) ?_
    refine e_icmp_le (pc := 18) (tgt := 25) d_M_cached_18 (by decide) (fun hz73 => ?_) (fun hz73 => ?_)
    · exact absurd ⟨Int32.not_lt.mp (by assumption), le7.mp (by assumption)⟩ hx
    · refine e_iconst (pc := 21) (v := 2) d_M_cached_21 (by decide) ?_
      refine e_goto (pc := 22) (tgt := 39) d_M_cached_22 (by decide) ?_
      refine e_put (pc := 39) s_M_cached_39 rfl (Nat.le_of_ble_eq_true rfl) zFit.int wTh ?_
      refine e_aload_n (pc := 42) d_M_cached_42 rfl ?_
      refine e_get (pc := 43) s_M_cached_43 rfl rfl ?_
      refine e_if_le (pc := 46) (tgt := 53) d_M_cached_46 (by decide) (fun zz => absurd zz (by decide)) (fun _ => ?_)
      refine e_iconst (pc := 49) (v := 0) d_M_cached_49 (by decide) ?_
      refine e_goto (pc := 50) (tgt := 64) d_M_cached_50 (by decide) ?_
      exact e_iret (pc := 64) d_M_cached_64 rfl rfl (Nat.le_of_ble_eq_true rfl) (Nat.le_of_ble_eq_true rfl) (by simp [hz72, hz73])
set_option maxHeartbeats 4000000 in
set_option maxRecDepth 100000 in
theorem sM_cachedX2 {l : Launch} {G : zGP} {K : Nat} {S T : St} {th : Int32} {fo : Nat → Int64} {c k : Nat} (hc : c < 3) (hk : k < 8) (hh : ¬ hasS T c k) : Rn l G m_M_cached [.ref 45, .int (nI c), .int (nI k)] (hpA K S T th fo) (.inl (some (.int 0)), (hpA K S T 3 fo)) := by
  refine Rn.of (by decide) rfl rfl (Nat.le_of_ble_eq_true rfl) rfl ?_
  show Ev l G m_M_cached 0 [.ref 45, .int (nI c), .int (nI k)] [] (hpA K S T th fo) 0 0 _
  refine e_aload_n (pc := 0) d_M_cached_0 rfl ?_
  refine e_iload_n (pc := 1) d_M_cached_1 rfl ?_
  refine e_cV1 (pc := 2) s_M_cached_2 (sM_core hc) rfl rfl rfl (Nat.le_of_ble_eq_true rfl) (Nat.le_of_ble_eq_true rfl) (Nat.le_of_ble_eq_true rfl) (zGo.v ?_)
  refine e_if_ne (pc := 5) (tgt := 10) d_M_cached_5 (by decide) (fun _ => ?_) (fun zz => absurd zz (by decide))
  refine e_aload_n (pc := 10) d_M_cached_10 rfl ?_
  refine e_iload_n (pc := 11) d_M_cached_11 rfl ?_
  refine e_if_lt (pc := 12) (tgt := 21) d_M_cached_12 (by decide) (fun zz => absurd zz (nI_pos (by omega))) (fun _ => ?_)
  refine e_iload_n (pc := 15) d_M_cached_15 rfl ?_
  refine e_bipush (pc := 16) (v := 7) d_M_cached_16 (by decide) ?_
  refine e_icmp_le (pc := 18) (tgt := 25) d_M_cached_18 (by decide) (fun _ => ?_) (fun zz => absurd (le7.mpr (nI_lt (b := 8) hk (by decide))) zz)
  refine e_aload_n (pc := 25) d_M_cached_25 rfl ?_
  refine e_iload_n (pc := 26) d_M_cached_26 rfl ?_
  refine e_iload_n (pc := 27) d_M_cached_27 rfl ?_
  refine e_cV2 (pc := 28) s_M_cached_28 (sM_has hc hk) rfl rfl rfl (Nat.le_of_ble_eq_true rfl) (Nat.le_of_ble_eq_true rfl) (Nat.le_of_ble_eq_true rfl) (zGo.v ?_)
  refine e_topi (y := 0) (if_neg hh) ?_
  refine e_if_ne (pc := 31) (tgt := 38) d_M_cached_31 (by decide) (fun zz => absurd (rfl) zz) (fun _ => ?_)
  refine e_iconst (pc := 34) (v := 3) d_M_cached_34 (by decide) ?_
  refine e_goto (pc := 35) (tgt := 39) d_M_cached_35 (by decide) ?_
  refine e_put (pc := 39) s_M_cached_39 rfl (Nat.le_of_ble_eq_true rfl) zFit.int wTh ?_
  refine e_aload_n (pc := 42) d_M_cached_42 rfl ?_
  refine e_get (pc := 43) s_M_cached_43 rfl rfl ?_
  refine e_if_le (pc := 46) (tgt := 53) d_M_cached_46 (by decide) (fun zz => absurd zz (by decide)) (fun _ => ?_)
  refine e_iconst (pc := 49) (v := 0) d_M_cached_49 (by decide) ?_
  refine e_goto (pc := 50) (tgt := 64) d_M_cached_50 (by decide) ?_
  exact e_iret (pc := 64) d_M_cached_64 rfl rfl (Nat.le_of_ble_eq_true rfl) (Nat.le_of_ble_eq_true rfl) rfl
set_option maxHeartbeats 4000000 in
set_option maxRecDepth 100000 in
theorem sM_cached {l : Launch} {G : zGP} {K : Nat} {S T : St} {th : Int32} {fo : Nat → Int64} {c k : Nat} (hc : c < 3) (hk : k < 8) (hh : hasS T c k) : Rn l G m_M_cached [.ref 45, .int (nI c), .int (nI k)] (hpA K S T th fo) (.inl (some (.int (T 11 c (k % 2)))), (hpA K S T 0 fo)) := by
  refine Rn.of (by decide) rfl rfl (Nat.le_of_ble_eq_true rfl) rfl ?_
  show Ev l G m_M_cached 0 [.ref 45, .int (nI c), .int (nI k)] [] (hpA K S T th fo) 0 0 _
  refine e_aload_n (pc := 0) d_M_cached_0 rfl ?_
  refine e_iload_n (pc := 1) d_M_cached_1 rfl ?_
  refine e_cV1 (pc := 2) s_M_cached_2 (sM_core hc) rfl rfl rfl (Nat.le_of_ble_eq_true rfl) (Nat.le_of_ble_eq_true rfl) (Nat.le_of_ble_eq_true rfl) (zGo.v ?_)
  refine e_if_ne (pc := 5) (tgt := 10) d_M_cached_5 (by decide) (fun _ => ?_) (fun zz => absurd zz (by decide))
  refine e_aload_n (pc := 10) d_M_cached_10 rfl ?_
  refine e_iload_n (pc := 11) d_M_cached_11 rfl ?_
  refine e_if_lt (pc := 12) (tgt := 21) d_M_cached_12 (by decide) (fun zz => absurd zz (nI_pos (by omega))) (fun _ => ?_)
  refine e_iload_n (pc := 15) d_M_cached_15 rfl ?_
  refine e_bipush (pc := 16) (v := 7) d_M_cached_16 (by decide) ?_
  refine e_icmp_le (pc := 18) (tgt := 25) d_M_cached_18 (by decide) (fun _ => ?_) (fun zz => absurd (le7.mpr (nI_lt (b := 8) hk (by decide))) zz)
  refine e_aload_n (pc := 25) d_M_cached_25 rfl ?_
  refine e_iload_n (pc := 26) d_M_cached_26 rfl ?_
  refine e_iload_n (pc := 27) d_M_cached_27 rfl ?_
  refine e_cV2 (pc := 28) s_M_cached_28 (sM_has hc hk) rfl rfl rfl (Nat.le_of_ble_eq_true rfl) (Nat.le_of_ble_eq_true rfl) (Nat.le_of_ble_eq_true rfl) (zGo.v ?_)
  refine e_topi (y := 1) (if_pos hh) ?_
  refine e_if_ne (pc := 31) (tgt := 38) d_M_cached_31 (by decide) (fun _ => ?_) (fun zz => absurd zz (by decide))
  refine e_iconst (pc := 38) (v := 0) d_M_cached_38 (by decide) ?_
  refine e_put (pc := 39) s_M_cached_39 rfl (Nat.le_of_ble_eq_true rfl) zFit.int wTh ?_
  refine e_aload_n (pc := 42) d_M_cached_42 rfl ?_
  refine e_get (pc := 43) s_M_cached_43 rfl rfl ?_
  refine e_if_le (pc := 46) (tgt := 53) d_M_cached_46 (by decide) (fun _ => ?_) (fun zz => absurd (by decide) zz)
  refine e_aload_n (pc := 53) d_M_cached_53 rfl ?_
  refine e_get (pc := 54) s_M_cached_54 rfl rfl ?_
  refine e_aload_n (pc := 57) d_M_cached_57 rfl ?_
  refine e_iload_n (pc := 58) d_M_cached_58 rfl ?_
  refine e_iload_n (pc := 59) d_M_cached_59 rfl ?_
  refine e_cV2 (pc := 60) s_M_cached_60 (sM_lineOf hc hk) rfl rfl rfl (Nat.le_of_ble_eq_true rfl) (Nat.le_of_ble_eq_true rfl) (Nat.le_of_ble_eq_true rfl) (zGo.v ?_)
  refine e_iald (pc := 63) d_M_cached_63 rfl (vp_in_nI (by omega) (by decide)) (fx2 (nI_clamp (by omega)) (Nat.mod_lt _ (by decide))) ?_
  exact e_iret (pc := 64) d_M_cached_64 rfl rfl (Nat.le_of_ble_eq_true rfl) (Nat.le_of_ble_eq_true rfl) rfl
set_option maxHeartbeats 4000000 in
set_option maxRecDepth 100000 in
theorem sM_request {l : Launch} {G : zGP} {K : Nat} {S T : St} {th : Int32} {fo : Nat → Int64} {c : Nat} (hc : c < 3) : Rn l G m_M_request [.ref 45, .int (nI c)] (hpA K S T th fo) (.inl (some (.int (rqV T c))), (hpA K S T 0 fo)) := by
  refine Rn.of (by decide) rfl rfl (Nat.le_of_ble_eq_true rfl) rfl ?_
  show Ev l G m_M_request 0 [.ref 45, .int (nI c)] [] (hpA K S T th fo) 0 0 _
  refine e_aload_n (pc := 0) d_M_request_0 rfl ?_
  refine e_iload_n (pc := 1) d_M_request_1 rfl ?_
  refine e_cV1 (pc := 2) s_M_request_2 (sM_core hc) rfl rfl rfl (Nat.le_of_ble_eq_true rfl) (Nat.le_of_ble_eq_true rfl) (Nat.le_of_ble_eq_true rfl) (zGo.v ?_)
  refine e_if_ne (pc := 5) (tgt := 10) d_M_request_5 (by decide) (fun _ => ?_) (fun zz => absurd zz (by decide))
  refine e_aload_n (pc := 10) d_M_request_10 rfl ?_
  refine e_get (pc := 11) s_M_request_11 rfl rfl ?_
  refine e_iload_n (pc := 14) d_M_request_14 rfl ?_
  refine e_iald (pc := 15) d_M_request_15 rfl (vp_in_nI (by omega) (by decide)) (fx1 (nI_clamp (by omega))) ?_
  refine e_if_ne (pc := 16) (tgt := 23) d_M_request_16 (by decide) (fun hz74 => ?_) (fun hz74 => ?_)
  · refine e_aload_n (pc := 23) d_M_request_23 rfl ?_
    refine e_get (pc := 24) s_M_request_24 rfl rfl ?_
    refine e_iload_n (pc := 27) d_M_request_27 rfl ?_
    refine e_iald (pc := 28) d_M_request_28 rfl (vp_in_nI (by omega) (by decide)) (fx1 (nI_clamp (by omega))) ?_
    refine e_aload_n (pc := 29) d_M_request_29 rfl ?_
    refine e_get (pc := 30) s_M_request_30 rfl rfl ?_
    refine e_iload_n (pc := 33) d_M_request_33 rfl ?_
    refine e_zald (pc := 34) d_M_request_34 rfl (vp_in_nI (by omega) (by decide)) (fx1 (nI_clamp (by omega))) ?_
    refine e_if_eq (pc := 35) (tgt := 42) d_M_request_35 (by decide) (fun hz75 => ?_) (fun hz75 => ?_)
    · refine e_iconst (pc := 42) (v := 0) d_M_request_42 (by decide) ?_
      refine e_iadd (pc := 43) d_M_request_43 ?_
      refine e_bipush (pc := 44) (v := 8) d_M_request_44 (by decide) ?_
      refine e_aload_n (pc := 46) d_M_request_46 rfl ?_
      refine e_get (pc := 47) s_M_request_47 rfl rfl ?_
      refine e_iload_n (pc := 50) d_M_request_50 rfl ?_
      refine e_iald (pc := 51) d_M_request_51 rfl (vp_in_nI (by omega) (by decide)) (fx1 (nI_clamp (by omega))) ?_
      refine e_imul (pc := 52) d_M_request_52 ?_
      refine e_iadd (pc := 53) d_M_request_53 ?_
      exact e_iret (pc := 54) d_M_request_54 rfl rfl (Nat.le_of_ble_eq_true rfl) (Nat.le_of_ble_eq_true rfl) (zR (by simp [rqV, hz74, hz75]))
    · refine e_iconst (pc := 38) (v := 4) d_M_request_38 (by decide) ?_
      refine e_goto (pc := 39) (tgt := 43) d_M_request_39 (by decide) ?_
      refine e_iadd (pc := 43) d_M_request_43 ?_
      refine e_bipush (pc := 44) (v := 8) d_M_request_44 (by decide) ?_
      refine e_aload_n (pc := 46) d_M_request_46 rfl ?_
      refine e_get (pc := 47) s_M_request_47 rfl rfl ?_
      refine e_iload_n (pc := 50) d_M_request_50 rfl ?_
      refine e_iald (pc := 51) d_M_request_51 rfl (vp_in_nI (by omega) (by decide)) (fx1 (nI_clamp (by omega))) ?_
      refine e_imul (pc := 52) d_M_request_52 ?_
      refine e_iadd (pc := 53) d_M_request_53 ?_
      exact e_iret (pc := 54) d_M_request_54 rfl rfl (Nat.le_of_ble_eq_true rfl) (Nat.le_of_ble_eq_true rfl) (zR (by simp [rqV, hz74, hz75]))
  · refine e_iconst (pc := 19) (v := 0) d_M_request_19 (by decide) ?_
    refine e_goto (pc := 20) (tgt := 54) d_M_request_20 (by decide) ?_
    exact e_iret (pc := 54) d_M_request_54 rfl rfl (Nat.le_of_ble_eq_true rfl) (Nat.le_of_ble_eq_true rfl) (zR (by simp [rqV, hz74]))
set_option maxHeartbeats 4000000 in
set_option maxRecDepth 100000 in
theorem sY_memory {l : Launch} {G : zGP} {K : Nat} {S T : St} {th : Int32} {fo : Nat → Int64} {x : Int32} (hx : ¬ (0 ≤ x ∧ x < 8)) : Rn l G m_M_memory [.ref 45, .int x] (hpA K S T th fo) (.inl (some (.int 0)), (hpA K S T 1 fo)) := by
  refine Rn.of (by decide) rfl rfl (Nat.le_of_ble_eq_true rfl) rfl ?_
  show Ev l G m_M_memory 0 [.ref 45, .int x] [] (hpA K S T th fo) 0 0 _
  refine e_aload_n (pc := 0) d_M_memory_0 rfl ?_
  refine e_iload_n (pc := 1) d_M_memory_1 rfl ?_
  refine e_if_lt (pc := 2) (tgt := 15) d_M_memory_2 (by decide) (fun hz76 => ?_) (fun hz76 => ?_)
  · refine e_iconst (pc := 15) (v := 1) d_M_memory_15 (by decide) ?_
    refine e_put (pc := 16) s_M_memory_16 rfl (Nat.le_of_ble_eq_true rfl) zFit.int wTh ?_
    refine e_aload_n (pc := 19) d_M_memory_19 rfl ?_
    refine e_get (pc := 20) s_M_memory_20 rfl rfl ?_
    refine e_if_le (pc := 23) (tgt := 30) d_M_memory_23 (by decide) (fun zz => absurd zz (by decide)) (fun _ => ?_)
    refine e_iconst (pc := 26) (v := 0) d_M_memory_26 (by decide) ?_
    refine e_goto (pc := 27) (tgt := 36) d_M_memory_27 (by decide) ?_
    exact e_iret (pc := 36) d_M_memory_36 rfl rfl (Nat.le_of_ble_eq_true rfl) (Nat.le_of_ble_eq_true rfl) (by simp [hz76])
  · refine e_iload_n (pc := 5) d_M_memory_5 rfl ?_
    refine e_bipush (pc := 6) (v := 8) d_M_memory_6 (by decide) ?_
    refine e_icmp_ge (pc := 8) (tgt := 15) d_M_memory_8 (by decide) (fun hz77 => ?_) (fun hz77 => ?_)
    · refine e_iconst (pc := 15) (v := 1) d_M_memory_15 (by decide) ?_
      refine e_put (pc := 16) s_M_memory_16 rfl (Nat.le_of_ble_eq_true rfl) zFit.int wTh ?_
      refine e_aload_n (pc := 19) d_M_memory_19 rfl ?_
      refine e_get (pc := 20) s_M_memory_20 rfl rfl ?_
      refine e_if_le (pc := 23) (tgt := 30) d_M_memory_23 (by decide) (fun zz => absurd zz (by decide)) (fun _ => ?_)
      refine e_iconst (pc := 26) (v := 0) d_M_memory_26 (by decide) ?_
      refine e_goto (pc := 27) (tgt := 36) d_M_memory_27 (by decide) ?_
      exact e_iret (pc := 36) d_M_memory_36 rfl rfl (Nat.le_of_ble_eq_true rfl) (Nat.le_of_ble_eq_true rfl) (by simp [hz76, hz77])
    · exact absurd ⟨Int32.not_lt.mp (by assumption), Int32.not_le.mp (by assumption)⟩ hx
set_option maxHeartbeats 4000000 in
set_option maxRecDepth 100000 in
theorem sM_memory {l : Launch} {G : zGP} {K : Nat} {S T : St} {th : Int32} {fo : Nat → Int64} {k : Nat} (hk : k < 8) : Rn l G m_M_memory [.ref 45, .int (nI k)] (hpA K S T th fo) (.inl (some (.int (T 16 0 k))), (hpA K S T 0 fo)) := by
  refine Rn.of (by decide) rfl rfl (Nat.le_of_ble_eq_true rfl) rfl ?_
  show Ev l G m_M_memory 0 [.ref 45, .int (nI k)] [] (hpA K S T th fo) 0 0 _
  refine e_aload_n (pc := 0) d_M_memory_0 rfl ?_
  refine e_iload_n (pc := 1) d_M_memory_1 rfl ?_
  refine e_if_lt (pc := 2) (tgt := 15) d_M_memory_2 (by decide) (fun zz => absurd zz (nI_pos (by omega))) (fun _ => ?_)
  refine e_iload_n (pc := 5) d_M_memory_5 rfl ?_
  refine e_bipush (pc := 6) (v := 8) d_M_memory_6 (by decide) ?_
  refine e_icmp_ge (pc := 8) (tgt := 15) d_M_memory_8 (by decide) (fun zz => absurd zz (nI_ge (b := 8) hk (by decide))) (fun _ => ?_)
  refine e_iconst (pc := 11) (v := 0) d_M_memory_11 (by decide) ?_
  refine e_goto (pc := 12) (tgt := 16) d_M_memory_12 (by decide) ?_
  refine e_put (pc := 16) s_M_memory_16 rfl (Nat.le_of_ble_eq_true rfl) zFit.int wTh ?_
  refine e_aload_n (pc := 19) d_M_memory_19 rfl ?_
  refine e_get (pc := 20) s_M_memory_20 rfl rfl ?_
  refine e_if_le (pc := 23) (tgt := 30) d_M_memory_23 (by decide) (fun _ => ?_) (fun zz => absurd (by decide) zz)
  refine e_aload_n (pc := 30) d_M_memory_30 rfl ?_
  refine e_get (pc := 31) s_M_memory_31 rfl rfl ?_
  refine e_iload_n (pc := 34) d_M_memory_34 rfl ?_
  refine e_iald (pc := 35) d_M_memory_35 rfl (vp_in_nI hk (by decide)) (ixf (nI_clamp (by omega))) ?_
  exact e_iret (pc := 36) d_M_memory_36 rfl rfl (Nat.le_of_ble_eq_true rfl) (Nat.le_of_ble_eq_true rfl) rfl
set_option maxHeartbeats 4000000 in
set_option maxRecDepth 100000 in
theorem sY_word {l : Launch} {G : zGP} {K : Nat} {S T : St} {th : Int32} {fo : Nat → Int64} {x : Int32} (hx : ¬ (0 ≤ x ∧ x < 8)) : Rn l G m_M_word [.ref 45, .int x] (hpA K S T th fo) (.inl (some (.int 0)), (hpA K S T 1 fo)) := by
  refine Rn.of (by decide) rfl rfl (Nat.le_of_ble_eq_true rfl) rfl ?_
  show Ev l G m_M_word 0 [.ref 45, .int x] [] (hpA K S T th fo) 0 0 _
  refine e_aload_n (pc := 0) d_M_word_0 rfl ?_
  refine e_iload_n (pc := 1) d_M_word_1 rfl ?_
  refine e_if_lt (pc := 2) (tgt := 15) d_M_word_2 (by decide) (fun hz78 => ?_) (fun hz78 => ?_)
  · refine e_iconst (pc := 15) (v := 1) d_M_word_15 (by decide) ?_
    refine e_put (pc := 16) s_M_word_16 rfl (Nat.le_of_ble_eq_true rfl) zFit.int wTh ?_
    refine e_aload_n (pc := 19) d_M_word_19 rfl ?_
    refine e_get (pc := 20) s_M_word_20 rfl rfl ?_
    refine e_if_le (pc := 23) (tgt := 30) d_M_word_23 (by decide) (fun zz => absurd zz (by decide)) (fun _ => ?_)
    refine e_iconst (pc := 26) (v := 0) d_M_word_26 (by decide) ?_
    refine e_goto (pc := 27) (tgt := 35) d_M_word_27 (by decide) ?_
    exact e_iret (pc := 35) d_M_word_35 rfl rfl (Nat.le_of_ble_eq_true rfl) (Nat.le_of_ble_eq_true rfl) (by simp [hz78])
  · refine e_iload_n (pc := 5) d_M_word_5 rfl ?_
    refine e_bipush (pc := 6) (v := 8) d_M_word_6 (by decide) ?_
    refine e_icmp_ge (pc := 8) (tgt := 15) d_M_word_8 (by decide) (fun hz79 => ?_) (fun hz79 => ?_)
    · refine e_iconst (pc := 15) (v := 1) d_M_word_15 (by decide) ?_
      refine e_put (pc := 16) s_M_word_16 rfl (Nat.le_of_ble_eq_true rfl) zFit.int wTh ?_
      refine e_aload_n (pc := 19) d_M_word_19 rfl ?_
      refine e_get (pc := 20) s_M_word_20 rfl rfl ?_
      refine e_if_le (pc := 23) (tgt := 30) d_M_word_23 (by decide) (fun zz => absurd zz (by decide)) (fun _ => ?_)
      refine e_iconst (pc := 26) (v := 0) d_M_word_26 (by decide) ?_
      refine e_goto (pc := 27) (tgt := 35) d_M_word_27 (by decide) ?_
      exact e_iret (pc := 35) d_M_word_35 rfl rfl (Nat.le_of_ble_eq_true rfl) (Nat.le_of_ble_eq_true rfl) (by simp [hz78, hz79])
    · exact absurd ⟨Int32.not_lt.mp (by assumption), Int32.not_le.mp (by assumption)⟩ hx
set_option maxHeartbeats 4000000 in
set_option maxRecDepth 100000 in
theorem sM_word {l : Launch} {G : zGP} {K : Nat} {S T : St} {th : Int32} {fo : Nat → Int64} {k : Nat} (hk : k < 8) : Rn l G m_M_word [.ref 45, .int (nI k)] (hpA K S T th fo) (.inl (some (.int (wdM T k))), (hpA K S T 0 fo)) := by
  refine Rn.of (by decide) rfl rfl (Nat.le_of_ble_eq_true rfl) rfl ?_
  show Ev l G m_M_word 0 [.ref 45, .int (nI k)] [] (hpA K S T th fo) 0 0 _
  refine e_aload_n (pc := 0) d_M_word_0 rfl ?_
  refine e_iload_n (pc := 1) d_M_word_1 rfl ?_
  refine e_if_lt (pc := 2) (tgt := 15) d_M_word_2 (by decide) (fun zz => absurd zz (nI_pos (by omega))) (fun _ => ?_)
  refine e_iload_n (pc := 5) d_M_word_5 rfl ?_
  refine e_bipush (pc := 6) (v := 8) d_M_word_6 (by decide) ?_
  refine e_icmp_ge (pc := 8) (tgt := 15) d_M_word_8 (by decide) (fun zz => absurd zz (nI_ge (b := 8) hk (by decide))) (fun _ => ?_)
  refine e_iconst (pc := 11) (v := 0) d_M_word_11 (by decide) ?_
  refine e_goto (pc := 12) (tgt := 16) d_M_word_12 (by decide) ?_
  refine e_put (pc := 16) s_M_word_16 rfl (Nat.le_of_ble_eq_true rfl) zFit.int wTh ?_
  refine e_aload_n (pc := 19) d_M_word_19 rfl ?_
  refine e_get (pc := 20) s_M_word_20 rfl rfl ?_
  refine e_if_le (pc := 23) (tgt := 30) d_M_word_23 (by decide) (fun _ => ?_) (fun zz => absurd (by decide) zz)
  refine e_aload_n (pc := 30) d_M_word_30 rfl ?_
  refine e_iload_n (pc := 31) d_M_word_31 rfl ?_
  refine e_cV1 (pc := 32) s_M_word_32 (sM_wordAt hk) rfl rfl rfl (Nat.le_of_ble_eq_true rfl) (Nat.le_of_ble_eq_true rfl) (Nat.le_of_ble_eq_true rfl) (zGo.v ?_)
  exact e_iret (pc := 35) d_M_word_35 rfl rfl (Nat.le_of_ble_eq_true rfl) (Nat.le_of_ble_eq_true rfl) rfl
set_option maxHeartbeats 4000000 in
set_option maxRecDepth 100000 in
theorem sM_events {l : Launch} {G : zGP} {K : Nat} {S T : St} {th : Int32} {fo : Nat → Int64}  : Rn l G m_M_events [.ref 45] (hpA K S T th fo) (.inl (some (.int (T 17 0 0))), (hpA K S T 0 fo)) := by
  refine Rn.of (by decide) rfl rfl (Nat.le_of_ble_eq_true rfl) rfl ?_
  show Ev l G m_M_events 0 [.ref 45] [] (hpA K S T th fo) 0 0 _
  refine e_aload_n (pc := 0) d_M_events_0 rfl ?_
  refine e_iconst (pc := 1) (v := 0) d_M_events_1 (by decide) ?_
  refine e_put (pc := 2) s_M_events_2 rfl (Nat.le_of_ble_eq_true rfl) zFit.int wTh ?_
  refine e_aload_n (pc := 5) d_M_events_5 rfl ?_
  refine e_get (pc := 6) s_M_events_6 rfl rfl ?_
  exact e_iret (pc := 9) d_M_events_9 rfl rfl (Nat.le_of_ble_eq_true rfl) (Nat.le_of_ble_eq_true rfl) rfl
set_option maxHeartbeats 4000000 in
set_option maxRecDepth 100000 in
theorem sY_event {l : Launch} {G : zGP} {K : Nat} {S T : St} {th : Int32} {fo : Nat → Int64} {i : Int32} (hi : ¬ (0 ≤ i ∧ i < T 17 0 0 ∧ T 17 0 0 - 40 ≤ i)) : Rn l G m_M_event [.ref 45, .int i] (hpA K S T th fo) (.inl (some (.int 0)), (hpA K S T 1 fo)) := by
  refine Rn.of (by decide) rfl rfl (Nat.le_of_ble_eq_true rfl) rfl ?_
  show Ev l G m_M_event 0 [.ref 45, .int i] [] (hpA K S T th fo) 0 0 _
  refine e_aload_n (pc := 0) d_M_event_0 rfl ?_
  refine e_iload_n (pc := 1) d_M_event_1 rfl ?_
  refine e_if_lt (pc := 2) (tgt := 28) d_M_event_2 (by decide) (fun hz80 => ?_) (fun hz80 => ?_)
  · refine e_iconst (pc := 28) (v := 1) d_M_event_28 (by decide) ?_
    refine e_put (pc := 29) s_M_event_29 rfl (Nat.le_of_ble_eq_true rfl) zFit.int wTh ?_
    refine e_aload_n (pc := 32) d_M_event_32 rfl ?_
    refine e_get (pc := 33) s_M_event_33 rfl rfl ?_
    refine e_if_le (pc := 36) (tgt := 43) d_M_event_36 (by decide) (fun zz => absurd zz (by decide)) (fun _ => ?_)
    refine e_iconst (pc := 39) (v := 0) d_M_event_39 (by decide) ?_
    refine e_goto (pc := 40) (tgt := 52) d_M_event_40 (by decide) ?_
    exact e_iret (pc := 52) d_M_event_52 rfl rfl (Nat.le_of_ble_eq_true rfl) (Nat.le_of_ble_eq_true rfl) (by simp [hz80])
  · refine e_iload_n (pc := 5) d_M_event_5 rfl ?_
    refine e_aload_n (pc := 6) d_M_event_6 rfl ?_
    refine e_get (pc := 7) s_M_event_7 rfl rfl ?_
    refine e_icmp_ge (pc := 10) (tgt := 28) d_M_event_10 (by decide) (fun hz81 => ?_) (fun hz81 => ?_)
    · refine e_iconst (pc := 28) (v := 1) d_M_event_28 (by decide) ?_
      refine e_put (pc := 29) s_M_event_29 rfl (Nat.le_of_ble_eq_true rfl) zFit.int wTh ?_
      refine e_aload_n (pc := 32) d_M_event_32 rfl ?_
      refine e_get (pc := 33) s_M_event_33 rfl rfl ?_
      refine e_if_le (pc := 36) (tgt := 43) d_M_event_36 (by decide) (fun zz => absurd zz (by decide)) (fun _ => ?_)
      refine e_iconst (pc := 39) (v := 0) d_M_event_39 (by decide) ?_
      refine e_goto (pc := 40) (tgt := 52) d_M_event_40 (by decide) ?_
      exact e_iret (pc := 52) d_M_event_52 rfl rfl (Nat.le_of_ble_eq_true rfl) (Nat.le_of_ble_eq_true rfl) (by simp [hz80, hz81])
    · refine e_iload_n (pc := 13) d_M_event_13 rfl ?_
      refine e_aload_n (pc := 14) d_M_event_14 rfl ?_
      refine e_get (pc := 15) s_M_event_15 rfl rfl ?_
      refine e_bipush (pc := 18) (v := 40) d_M_event_18 (by decide) ?_
      refine e_isub (pc := 20) d_M_event_20 ?_
      refine e_icmp_lt (pc := 21) (tgt := 28) d_M_event_21 (by decide) (fun hz82 => ?_) (fun hz82 => ?_)
      · refine e_iconst (pc := 28) (v := 1) d_M_event_28 (by decide) ?_
        refine e_put (pc := 29) s_M_event_29 rfl (Nat.le_of_ble_eq_true rfl) zFit.int wTh ?_
        refine e_aload_n (pc := 32) d_M_event_32 rfl ?_
        refine e_get (pc := 33) s_M_event_33 rfl rfl ?_
        refine e_if_le (pc := 36) (tgt := 43) d_M_event_36 (by decide) (fun zz => absurd zz (by decide)) (fun _ => ?_)
        refine e_iconst (pc := 39) (v := 0) d_M_event_39 (by decide) ?_
        refine e_goto (pc := 40) (tgt := 52) d_M_event_40 (by decide) ?_
        exact e_iret (pc := 52) d_M_event_52 rfl rfl (Nat.le_of_ble_eq_true rfl) (Nat.le_of_ble_eq_true rfl) (by simp [hz80, hz81, hz82])
      · exact absurd ⟨Int32.not_lt.mp (by assumption), Int32.not_le.mp (by assumption), Int32.not_lt.mp (by assumption)⟩ hi
set_option maxHeartbeats 4000000 in
set_option maxRecDepth 100000 in
theorem sM_event {l : Launch} {G : zGP} {K : Nat} {S T : St} {th : Int32} {fo : Nat → Int64} {q : Nat} (hq : q < 2 ^ 31) (hi : 0 ≤ nI q ∧ nI q < T 17 0 0 ∧ T 17 0 0 - 40 ≤ nI q) : Rn l G m_M_event [.ref 45, .int (nI q)] (hpA K S T th fo) (.inl (some (.int (T 18 0 (q % 40)))), (hpA K S T 0 fo)) := by
  refine Rn.of (by decide) rfl rfl (Nat.le_of_ble_eq_true rfl) rfl ?_
  show Ev l G m_M_event 0 [.ref 45, .int (nI q)] [] (hpA K S T th fo) 0 0 _
  refine e_aload_n (pc := 0) d_M_event_0 rfl ?_
  refine e_iload_n (pc := 1) d_M_event_1 rfl ?_
  refine e_if_lt (pc := 2) (tgt := 28) d_M_event_2 (by decide) (fun zz => absurd zz (nI_pos hq)) (fun _ => ?_)
  refine e_iload_n (pc := 5) d_M_event_5 rfl ?_
  refine e_aload_n (pc := 6) d_M_event_6 rfl ?_
  refine e_get (pc := 7) s_M_event_7 rfl rfl ?_
  refine e_icmp_ge (pc := 10) (tgt := 28) d_M_event_10 (by decide) (fun zz => absurd zz (Int32.not_le.mpr hi.2.1)) (fun _ => ?_)
  refine e_iload_n (pc := 13) d_M_event_13 rfl ?_
  refine e_aload_n (pc := 14) d_M_event_14 rfl ?_
  refine e_get (pc := 15) s_M_event_15 rfl rfl ?_
  refine e_bipush (pc := 18) (v := 40) d_M_event_18 (by decide) ?_
  refine e_isub (pc := 20) d_M_event_20 ?_
  refine e_icmp_lt (pc := 21) (tgt := 28) d_M_event_21 (by decide) (fun zz => absurd zz (Int32.not_lt.mpr hi.2.2)) (fun _ => ?_)
  refine e_iconst (pc := 24) (v := 0) d_M_event_24 (by decide) ?_
  refine e_goto (pc := 25) (tgt := 29) d_M_event_25 (by decide) ?_
  refine e_put (pc := 29) s_M_event_29 rfl (Nat.le_of_ble_eq_true rfl) zFit.int wTh ?_
  refine e_aload_n (pc := 32) d_M_event_32 rfl ?_
  refine e_get (pc := 33) s_M_event_33 rfl rfl ?_
  refine e_if_le (pc := 36) (tgt := 43) d_M_event_36 (by decide) (fun _ => ?_) (fun zz => absurd (by decide) zz)
  refine e_aload_n (pc := 43) d_M_event_43 rfl ?_
  refine e_get (pc := 44) s_M_event_44 rfl rfl ?_
  refine e_iload_n (pc := 47) d_M_event_47 rfl ?_
  refine e_bipush (pc := 48) (v := 40) d_M_event_48 (by decide) ?_
  refine e_irem (pc := 50) d_M_event_50 (by decide) ?_
  refine e_topi (y := nI (q % 40)) (pk_rem hq (by decide) (by decide)) ?_
  refine e_iald (pc := 51) d_M_event_51 rfl (vp_in_nI (Nat.mod_lt _ (by decide)) (by decide)) (ixf (nI_clamp (by omega))) ?_
  exact e_iret (pc := 52) d_M_event_52 rfl rfl (Nat.le_of_ble_eq_true rfl) (Nat.le_of_ble_eq_true rfl) rfl
set_option maxHeartbeats 4000000 in
set_option maxRecDepth 100000 in
theorem sY_eventValue {l : Launch} {G : zGP} {K : Nat} {S T : St} {th : Int32} {fo : Nat → Int64} {i : Int32} (hi : ¬ (0 ≤ i ∧ i < T 17 0 0 ∧ T 17 0 0 - 40 ≤ i)) : Rn l G m_M_eventValue [.ref 45, .int i] (hpA K S T th fo) (.inl (some (.int 0)), (hpA K S T 1 fo)) := by
  refine Rn.of (by decide) rfl rfl (Nat.le_of_ble_eq_true rfl) rfl ?_
  show Ev l G m_M_eventValue 0 [.ref 45, .int i] [] (hpA K S T th fo) 0 0 _
  refine e_aload_n (pc := 0) d_M_eventValue_0 rfl ?_
  refine e_iload_n (pc := 1) d_M_eventValue_1 rfl ?_
  refine e_if_lt (pc := 2) (tgt := 28) d_M_eventValue_2 (by decide) (fun hz83 => ?_) (fun hz83 => ?_)
  · refine e_iconst (pc := 28) (v := 1) d_M_eventValue_28 (by decide) ?_
    refine e_put (pc := 29) s_M_eventValue_29 rfl (Nat.le_of_ble_eq_true rfl) zFit.int wTh ?_
    refine e_aload_n (pc := 32) d_M_eventValue_32 rfl ?_
    refine e_get (pc := 33) s_M_eventValue_33 rfl rfl ?_
    refine e_if_le (pc := 36) (tgt := 43) d_M_eventValue_36 (by decide) (fun zz => absurd zz (by decide)) (fun _ => ?_)
    refine e_iconst (pc := 39) (v := 0) d_M_eventValue_39 (by decide) ?_
    refine e_goto (pc := 40) (tgt := 52) d_M_eventValue_40 (by decide) ?_
    exact e_iret (pc := 52) d_M_eventValue_52 rfl rfl (Nat.le_of_ble_eq_true rfl) (Nat.le_of_ble_eq_true rfl) (by simp [hz83])
  · refine e_iload_n (pc := 5) d_M_eventValue_5 rfl ?_
    refine e_aload_n (pc := 6) d_M_eventValue_6 rfl ?_
    refine e_get (pc := 7) s_M_eventValue_7 rfl rfl ?_
    refine e_icmp_ge (pc := 10) (tgt := 28) d_M_eventValue_10 (by decide) (fun hz84 => ?_) (fun hz84 => ?_)
    · refine e_iconst (pc := 28) (v := 1) d_M_eventValue_28 (by decide) ?_
      refine e_put (pc := 29) s_M_eventValue_29 rfl (Nat.le_of_ble_eq_true rfl) zFit.int wTh ?_
      refine e_aload_n (pc := 32) d_M_eventValue_32 rfl ?_
      refine e_get (pc := 33) s_M_eventValue_33 rfl rfl ?_
      refine e_if_le (pc := 36) (tgt := 43) d_M_eventValue_36 (by decide) (fun zz => absurd zz (by decide)) (fun _ => ?_)
      refine e_iconst (pc := 39) (v := 0) d_M_eventValue_39 (by decide) ?_
      refine e_goto (pc := 40) (tgt := 52) d_M_eventValue_40 (by decide) ?_
      exact e_iret (pc := 52) d_M_eventValue_52 rfl rfl (Nat.le_of_ble_eq_true rfl) (Nat.le_of_ble_eq_true rfl) (by simp [hz83, hz84])
    · refine e_iload_n (pc := 13) d_M_eventValue_13 rfl ?_
      refine e_aload_n (pc := 14) d_M_eventValue_14 rfl ?_
      refine e_get (pc := 15) s_M_eventValue_15 rfl rfl ?_
      refine e_bipush (pc := 18) (v := 40) d_M_eventValue_18 (by decide) ?_
      refine e_isub (pc := 20) d_M_eventValue_20 ?_
      refine e_icmp_lt (pc := 21) (tgt := 28) d_M_eventValue_21 (by decide) (fun hz85 => ?_) (fun hz85 => ?_)
      · refine e_iconst (pc := 28) (v := 1) d_M_eventValue_28 (by decide) ?_
        refine e_put (pc := 29) s_M_eventValue_29 rfl (Nat.le_of_ble_eq_true rfl) zFit.int wTh ?_
        refine e_aload_n (pc := 32) d_M_eventValue_32 rfl ?_
        refine e_get (pc := 33) s_M_eventValue_33 rfl rfl ?_
        refine e_if_le (pc := 36) (tgt := 43) d_M_eventValue_36 (by decide) (fun zz => absurd zz (by decide)) (fun _ => ?_)
        refine e_iconst (pc := 39) (v := 0) d_M_eventValue_39 (by decide) ?_
        refine e_goto (pc := 40) (tgt := 52) d_M_eventValue_40 (by decide) ?_
        exact e_iret (pc := 52) d_M_eventValue_52 rfl rfl (Nat.le_of_ble_eq_true rfl) (Nat.le_of_ble_eq_true rfl) (by simp [hz83, hz84, hz85])
      · exact absurd ⟨Int32.not_lt.mp (by assumption), Int32.not_le.mp (by assumption), Int32.not_lt.mp (by assumption)⟩ hi
set_option maxHeartbeats 4000000 in
set_option maxRecDepth 100000 in
theorem sM_eventValue {l : Launch} {G : zGP} {K : Nat} {S T : St} {th : Int32} {fo : Nat → Int64} {q : Nat} (hq : q < 2 ^ 31) (hi : 0 ≤ nI q ∧ nI q < T 17 0 0 ∧ T 17 0 0 - 40 ≤ nI q) : Rn l G m_M_eventValue [.ref 45, .int (nI q)] (hpA K S T th fo) (.inl (some (.int (T 19 0 (q % 40)))), (hpA K S T 0 fo)) := by
  refine Rn.of (by decide) rfl rfl (Nat.le_of_ble_eq_true rfl) rfl ?_
  show Ev l G m_M_eventValue 0 [.ref 45, .int (nI q)] [] (hpA K S T th fo) 0 0 _
  refine e_aload_n (pc := 0) d_M_eventValue_0 rfl ?_
  refine e_iload_n (pc := 1) d_M_eventValue_1 rfl ?_
  refine e_if_lt (pc := 2) (tgt := 28) d_M_eventValue_2 (by decide) (fun zz => absurd zz (nI_pos hq)) (fun _ => ?_)
  refine e_iload_n (pc := 5) d_M_eventValue_5 rfl ?_
  refine e_aload_n (pc := 6) d_M_eventValue_6 rfl ?_
  refine e_get (pc := 7) s_M_eventValue_7 rfl rfl ?_
  refine e_icmp_ge (pc := 10) (tgt := 28) d_M_eventValue_10 (by decide) (fun zz => absurd zz (Int32.not_le.mpr hi.2.1)) (fun _ => ?_)
  refine e_iload_n (pc := 13) d_M_eventValue_13 rfl ?_
  refine e_aload_n (pc := 14) d_M_eventValue_14 rfl ?_
  refine e_get (pc := 15) s_M_eventValue_15 rfl rfl ?_
  refine e_bipush (pc := 18) (v := 40) d_M_eventValue_18 (by decide) ?_
  refine e_isub (pc := 20) d_M_eventValue_20 ?_
  refine e_icmp_lt (pc := 21) (tgt := 28) d_M_eventValue_21 (by decide) (fun zz => absurd zz (Int32.not_lt.mpr hi.2.2)) (fun _ => ?_)
  refine e_iconst (pc := 24) (v := 0) d_M_eventValue_24 (by decide) ?_
  refine e_goto (pc := 25) (tgt := 29) d_M_eventValue_25 (by decide) ?_
  refine e_put (pc := 29) s_M_eventValue_29 rfl (Nat.le_of_ble_eq_true rfl) zFit.int wTh ?_
  refine e_aload_n (pc := 32) d_M_eventValue_32 rfl ?_
  refine e_get (pc := 33) s_M_eventValue_33 rfl rfl ?_
  refine e_if_le (pc := 36) (tgt := 43) d_M_eventValue_36 (by decide) (fun _ => ?_) (fun zz => absurd (by decide) zz)
  refine e_aload_n (pc := 43) d_M_eventValue_43 rfl ?_
  refine e_get (pc := 44) s_M_eventValue_44 rfl rfl ?_
  refine e_iload_n (pc := 47) d_M_eventValue_47 rfl ?_
  refine e_bipush (pc := 48) (v := 40) d_M_eventValue_48 (by decide) ?_
  refine e_irem (pc := 50) d_M_eventValue_50 (by decide) ?_
  refine e_topi (y := nI (q % 40)) (pk_rem hq (by decide) (by decide)) ?_
  refine e_iald (pc := 51) d_M_eventValue_51 rfl (vp_in_nI (Nat.mod_lt _ (by decide)) (by decide)) (ixf (nI_clamp (by omega))) ?_
  exact e_iret (pc := 52) d_M_eventValue_52 rfl rfl (Nat.le_of_ble_eq_true rfl) (Nat.le_of_ble_eq_true rfl) rfl
