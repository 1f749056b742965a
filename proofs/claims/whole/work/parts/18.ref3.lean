/-! ===== the reference: load, store, swap, act, step ===== -/
def laS (T : St) (c k : Nat) : Nat → Nat → Int32 → Int32
  | 0, _, F => F
  | r + 1, i, F => laS T c k r (i + 1) (if T 7 c i = nI k then nI i else F)
theorem laS_last (T : St) (c k : Nat) : ∀ r i F, laS T c k (r + 1) i F = if T 7 c (i + r) = nI k then nI (i + r) else laS T c k r i F
  | 0, i, F => rfl
  | r + 1, i, F => by
    rw [laS, laS_last T c k r (i + 1)]
    rw [show i + 1 + r = i + (r + 1) by omega]
    rfl
theorem laS_yn (T : St) (c k : Nat) : ∀ n, laS T c k n 0 (-1) = ynS T c k n
  | 0 => rfl
  | n + 1 => by rw [laS_last, Nat.zero_add, laS_yn T c k n]; rfl
theorem lin {c k : Nat} (hc : c < 3) : 2 * c + k % 2 < 6 := by omega
theorem lin31 {c k : Nat} (hc : c < 3) : 2 * c + k % 2 < 2 ^ 31 := by omega
theorem le0 {x : Int32} {n : Nat} (h : x = nI n) (hn : n < 2 ^ 31) (hl : x ≤ 0) : x = 0 := by
  rw [h] at hl ⊢
  have h1 := (nI_leI (b := 0) hn (by decide)).mp hl
  rw [show n = 0 by omega]; rfl
def ldM (T : St) (c a k n m : Nat) : St := if ldB T c k n then askM T c 1 (nI k) else noteS (su T 0 c a (ldV T c k n)) m 0 (nI c) (nI k) (ldV T c k n)
def stM (T : St) (K c k n : Nat) (v : Int32) : St := if n = K then T else su (su (su T 7 c n (nI k)) 8 c n v) 6 c 0 (nI n + 1)
def swU (T : St) (c k : Nat) (v : Int32) : St := if T 11 c (k % 2) = T 0 c 3 then su (su (su T 11 c (k % 2) v) 9 c (k % 2) 3) 0 c 3 1 else su T 0 c 3 0
def swM (T : St) (c k m : Nat) (v : Int32) : St := if ¬ T 6 c 0 = 0 then T else if ownS T c k then noteS (swU T c k v) m 2 (nI c) (nI k) (T 11 c (k % 2)) else askM T c 2 (nI k)
set_option maxHeartbeats 4000000 in
set_option maxRecDepth 100000 in
theorem sM_ldN {l : Launch} {G : zGP} {K : Nat} {S T : St} {th : Int32} {fo : Nat → Int64} {c a b n m : Nat} {z : Int32} (hc : c < 3) (ha : a < 4) (hb : b < 4) (hm : m < 1024) (h17 : T 17 0 0 = nI m) (hy : ynS T c (ad (T 0 c b)) n = -1) : Ev l G m_M_load 63 [.ref 45, .int (nI c), .int (nI a), .int (nI b), .int (nI (ad (T 0 c b))), .int (-1), .int z] [] (hpA K S T th fo) 0 0 (.inl (some (.int (ldR T c (ad (T 0 c b)) n))), (hpA K S (ldM T c a (ad (T 0 c b)) n m) th fo)) := by
  refine e_iload (pc := 63) d_M_load_63 rfl ?_
  refine e_if_ge (pc := 65) (tgt := 88) d_M_load_65 (by decide) (fun zz => absurd zz (by decide)) (fun _ => ?_)
  refine e_aload_n (pc := 68) d_M_load_68 rfl ?_
  refine e_iload_n (pc := 69) d_M_load_69 rfl ?_
  refine e_iload (pc := 70) d_M_load_70 rfl ?_
  refine e_cV2 (pc := 72) s_M_load_72 (sM_has hc (ad_lt _)) rfl rfl rfl (Nat.le_of_ble_eq_true rfl) (Nat.le_of_ble_eq_true rfl) (Nat.le_of_ble_eq_true rfl) (zGo.v ?_)
  refine e_if_ne (pc := 75) (tgt := 88) d_M_load_75 (by decide) (fun hz1 => ?_) (fun hz1 => ?_)
  · replace hz1 := b1.mp hz1
    refine e_iload (pc := 88) d_M_load_88 rfl ?_
    refine e_if_lt (pc := 90) (tgt := 107) d_M_load_90 (by decide) (fun _ => ?_) (fun zz => absurd (by decide) zz)
    refine e_aload_n (pc := 107) d_M_load_107 rfl ?_
    refine e_get (pc := 108) s_M_load_108 rfl rfl ?_
    refine e_aload_n (pc := 111) d_M_load_111 rfl ?_
    refine e_iload_n (pc := 112) d_M_load_112 rfl ?_
    refine e_iload (pc := 113) d_M_load_113 rfl ?_
    refine e_cV2 (pc := 115) s_M_load_115 (sM_lineOf hc (ad_lt _)) rfl rfl rfl (Nat.le_of_ble_eq_true rfl) (Nat.le_of_ble_eq_true rfl) (Nat.le_of_ble_eq_true rfl) (zGo.v ?_)
    refine e_iald (pc := 118) d_M_load_118 rfl (vp_in_nI (by omega) (by decide)) (fx2 (nI_clamp (by omega)) (Nat.mod_lt _ (by decide))) ?_
    refine e_istore (pc := 119) d_M_load_119 (Nat.le_of_ble_eq_true rfl) ?_
    dsimp only [List.set]
    refine e_aload_n (pc := 121) d_M_load_121 rfl ?_
    refine e_get (pc := 122) s_M_load_122 rfl rfl ?_
    refine e_iconst (pc := 125) (v := 4) d_M_load_125 (by decide) ?_
    refine e_iload_n (pc := 126) d_M_load_126 rfl ?_
    refine e_imul (pc := 127) d_M_load_127 ?_
    refine e_iload_n (pc := 128) d_M_load_128 rfl ?_
    refine e_iadd (pc := 129) d_M_load_129 ?_
    refine e_topi (y := nI (4 * c + a)) (ixM 4 c a) ?_
    refine e_iload (pc := 130) d_M_load_130 rfl ?_
    refine e_iast (pc := 132) d_M_load_132 rfl (vp_in_nI (by omega) (by decide)) (vRg (nI_clamp (by omega)) ha) ?_
    refine e_aload_n (pc := 133) d_M_load_133 rfl ?_
    refine e_iconst (pc := 134) (v := 0) d_M_load_134 (by decide) ?_
    refine e_iload_n (pc := 135) d_M_load_135 rfl ?_
    refine e_iload (pc := 136) d_M_load_136 rfl ?_
    refine e_iload (pc := 138) d_M_load_138 rfl ?_
    refine e_cV4 (pc := 140) s_M_load_140 (sM_note hm h17) rfl rfl rfl (Nat.le_of_ble_eq_true rfl) (Nat.le_of_ble_eq_true rfl) (Nat.le_of_ble_eq_true rfl) (zGo.n ?_)
    refine e_iconst (pc := 143) (v := 1) d_M_load_143 (by decide) ?_
    exact e_iret (pc := 144) d_M_load_144 rfl rfl (Nat.le_of_ble_eq_true rfl) (Nat.le_of_ble_eq_true rfl) (by rw [show ldM T c a (ad (T 0 c b)) n m = _ from if_neg (fun q => q.2 hz1), show ldR T c (ad (T 0 c b)) n = _ from if_neg (fun q => q.2 hz1), show ldV T c (ad (T 0 c b)) n = T 11 c ((ad (T 0 c b)) % 2) from by rw [ldV, if_pos hy]])
  · replace hz1 := b0.mp hz1
    refine e_aload_n (pc := 78) d_M_load_78 rfl ?_
    refine e_iload_n (pc := 79) d_M_load_79 rfl ?_
    refine e_iload (pc := 80) d_M_load_80 rfl ?_
    refine e_iconst (pc := 82) (v := 0) d_M_load_82 (by decide) ?_
    refine e_cV3 (pc := 83) s_M_load_83 (sM_askR hc) rfl rfl rfl (Nat.le_of_ble_eq_true rfl) (Nat.le_of_ble_eq_true rfl) (Nat.le_of_ble_eq_true rfl) (zGo.n ?_)
    refine e_iconst (pc := 86) (v := 0) d_M_load_86 (by decide) ?_
    exact e_iret (pc := 87) d_M_load_87 rfl rfl (Nat.le_of_ble_eq_true rfl) (Nat.le_of_ble_eq_true rfl) (by rw [show ldM T c a (ad (T 0 c b)) n m = _ from if_pos ⟨hy, hz1⟩, show ldR T c (ad (T 0 c b)) n = _ from if_pos ⟨hy, hz1⟩])
set_option maxHeartbeats 4000000 in
set_option maxRecDepth 100000 in
theorem sM_ldY {l : Launch} {G : zGP} {K : Nat} {S T : St} {th : Int32} {fo : Nat → Int64} {c a b n m : Nat} {z : Int32} (hc : c < 3) (ha : a < 4) (hb : b < 4) (hm : m < 1024) (h17 : T 17 0 0 = nI m) {i : Nat} (hi : i < 4) (hy : ynS T c (ad (T 0 c b)) n = nI i) : Ev l G m_M_load 63 [.ref 45, .int (nI c), .int (nI a), .int (nI b), .int (nI (ad (T 0 c b))), .int (nI i), .int z] [] (hpA K S T th fo) 0 0 (.inl (some (.int (ldR T c (ad (T 0 c b)) n))), (hpA K S (ldM T c a (ad (T 0 c b)) n m) th fo)) := by
  refine e_iload (pc := 63) d_M_load_63 rfl ?_
  refine e_if_ge (pc := 65) (tgt := 88) d_M_load_65 (by decide) (fun _ => ?_) (fun zz => absurd (nI_pos' (by omega)) zz)
  refine e_iload (pc := 88) d_M_load_88 rfl ?_
  refine e_if_lt (pc := 90) (tgt := 107) d_M_load_90 (by decide) (fun zz => absurd zz (nI_pos (by omega))) (fun _ => ?_)
  refine e_aload_n (pc := 93) d_M_load_93 rfl ?_
  refine e_get (pc := 94) s_M_load_94 rfl rfl ?_
  refine e_iconst (pc := 97) (v := 4) d_M_load_97 (by decide) ?_
  refine e_iload_n (pc := 98) d_M_load_98 rfl ?_
  refine e_imul (pc := 99) d_M_load_99 ?_
  refine e_iload (pc := 100) d_M_load_100 rfl ?_
  refine e_iadd (pc := 102) d_M_load_102 ?_
  refine e_topi (y := nI (4 * c + i)) (ixM 4 c i) ?_
  refine e_iald (pc := 103) d_M_load_103 rfl (vp_in_nI (by omega) (by decide)) (fx4 (nI_clamp (by omega)) (by omega)) ?_
  refine e_goto (pc := 104) (tgt := 119) d_M_load_104 (by decide) ?_
  refine e_istore (pc := 119) d_M_load_119 (Nat.le_of_ble_eq_true rfl) ?_
  dsimp only [List.set]
  refine e_aload_n (pc := 121) d_M_load_121 rfl ?_
  refine e_get (pc := 122) s_M_load_122 rfl rfl ?_
  refine e_iconst (pc := 125) (v := 4) d_M_load_125 (by decide) ?_
  refine e_iload_n (pc := 126) d_M_load_126 rfl ?_
  refine e_imul (pc := 127) d_M_load_127 ?_
  refine e_iload_n (pc := 128) d_M_load_128 rfl ?_
  refine e_iadd (pc := 129) d_M_load_129 ?_
  refine e_topi (y := nI (4 * c + a)) (ixM 4 c a) ?_
  refine e_iload (pc := 130) d_M_load_130 rfl ?_
  refine e_iast (pc := 132) d_M_load_132 rfl (vp_in_nI (by omega) (by decide)) (vRg (nI_clamp (by omega)) ha) ?_
  refine e_aload_n (pc := 133) d_M_load_133 rfl ?_
  refine e_iconst (pc := 134) (v := 0) d_M_load_134 (by decide) ?_
  refine e_iload_n (pc := 135) d_M_load_135 rfl ?_
  refine e_iload (pc := 136) d_M_load_136 rfl ?_
  refine e_iload (pc := 138) d_M_load_138 rfl ?_
  refine e_cV4 (pc := 140) s_M_load_140 (sM_note hm h17) rfl rfl rfl (Nat.le_of_ble_eq_true rfl) (Nat.le_of_ble_eq_true rfl) (Nat.le_of_ble_eq_true rfl) (zGo.n ?_)
  refine e_iconst (pc := 143) (v := 1) d_M_load_143 (by decide) ?_
  exact e_iret (pc := 144) d_M_load_144 rfl rfl (Nat.le_of_ble_eq_true rfl) (Nat.le_of_ble_eq_true rfl) (by rw [show ldM T c a (ad (T 0 c b)) n m = _ from if_neg (fun q => nI_m1 (by omega) (hy.symm.trans q.1)), show ldR T c (ad (T 0 c b)) n = _ from if_neg (fun q => nI_m1 (by omega) (hy.symm.trans q.1)), show ldV T c (ad (T 0 c b)) n = T 8 c i from by rw [ldV, if_neg (by rw [hy]; exact nI_m1 (by omega)), hy, nI_clamp (by omega)]])
set_option maxHeartbeats 4000000 in
set_option maxRecDepth 100000 in
theorem sM_ldL {l : Launch} {G : zGP} {K : Nat} {S T : St} {th : Int32} {fo : Nat → Int64} {c a b n : Nat} (hc : c < 3) (h6 : T 6 c 0 = nI n) (hn : n ≤ 4) {R : zRes} : ∀ (r i : Nat) (w F : Int32), i + r = n → w = nI i → (∀ z, Ev l G m_M_load 63 [.ref 45, .int (nI c), .int (nI a), .int (nI b), .int (nI (ad (T 0 c b))), .int (laS T c (ad (T 0 c b)) r i F), .int z] [] (hpA K S T th fo) 0 0 R) → Ev l G m_M_load 21 [.ref 45, .int (nI c), .int (nI a), .int (nI b), .int (nI (ad (T 0 c b))), .int F, .int w] [] (hpA K S T th fo) 0 0 R := by
  intro r
  induction r with
  | zero =>
    intro i w F hi hw tail
    refine e_iload (pc := 21) d_M_load_21 rfl ?_
    refine e_aload_n (pc := 23) d_M_load_23 rfl ?_
    refine e_get (pc := 24) s_M_load_24 rfl rfl ?_
    refine e_iload_n (pc := 27) d_M_load_27 rfl ?_
    refine e_iald (pc := 28) d_M_load_28 rfl (vp_in_nI (by omega) (by decide)) ((fx1 (nI_clamp (by omega))).trans h6) ?_
    refine e_icmp_ge (pc := 29) (tgt := 63) d_M_load_29 (by decide) (fun _ => ?_) (fun zz => absurd (by rw [hw, show i = n by omega]; exact nI_le (Nat.le_refl _) (by omega)) zz)
    exact tail w
  | succ r ih =>
    intro i w F hi hw tail
    refine e_iload (pc := 21) d_M_load_21 rfl ?_
    refine e_aload_n (pc := 23) d_M_load_23 rfl ?_
    refine e_get (pc := 24) s_M_load_24 rfl rfl ?_
    refine e_iload_n (pc := 27) d_M_load_27 rfl ?_
    refine e_iald (pc := 28) d_M_load_28 rfl (vp_in_nI (by omega) (by decide)) ((fx1 (nI_clamp (by omega))).trans h6) ?_
    refine e_icmp_ge (pc := 29) (tgt := 63) d_M_load_29 (by decide) (fun zz => absurd zz (by rw [hw]; exact nI_ge (by omega) (by omega))) (fun _ => ?_)
    refine e_aload_n (pc := 32) d_M_load_32 rfl ?_
    refine e_get (pc := 33) s_M_load_33 rfl rfl ?_
    refine e_iconst (pc := 36) (v := 4) d_M_load_36 (by decide) ?_
    refine e_iload_n (pc := 37) d_M_load_37 rfl ?_
    refine e_imul (pc := 38) d_M_load_38 ?_
    refine e_iload (pc := 39) d_M_load_39 rfl ?_
    refine e_topi (y := nI i) hw ?_
    refine e_iadd (pc := 41) d_M_load_41 ?_
    refine e_topi (y := nI (4 * c + i)) (ixM 4 c i) ?_
    refine e_iald (pc := 42) d_M_load_42 rfl (vp_in_nI (by omega) (by decide)) (fx4 (nI_clamp (by omega)) (by omega)) ?_
    refine e_iload (pc := 43) d_M_load_43 rfl ?_
    refine e_icmp_ne (pc := 45) (tgt := 53) d_M_load_45 (by decide) (fun hz2 => ?_) (fun hz2 => ?_)
    · refine e_iload (pc := 53) d_M_load_53 rfl ?_
      refine e_istore (pc := 55) d_M_load_55 (Nat.le_of_ble_eq_true rfl) ?_
      dsimp only [List.set]
      refine e_iinc (pc := 57) d_M_load_57 rfl (Nat.le_of_ble_eq_true rfl) ?_
      dsimp only [List.set]
      refine e_goto (pc := 60) (tgt := 21) d_M_load_60 (by decide) ?_
      refine ih (i + 1) _ _ (by omega) (by rw [hw]; exact nI_1 i) (fun z => ?_)
      have q := tail z
      rw [laS, if_neg hz2] at q
      exact q
    · refine e_iload (pc := 48) d_M_load_48 rfl ?_
      refine e_goto (pc := 50) (tgt := 55) d_M_load_50 (by decide) ?_
      refine e_istore (pc := 55) d_M_load_55 (Nat.le_of_ble_eq_true rfl) ?_
      dsimp only [List.set]
      refine e_iinc (pc := 57) d_M_load_57 rfl (Nat.le_of_ble_eq_true rfl) ?_
      dsimp only [List.set]
      refine e_goto (pc := 60) (tgt := 21) d_M_load_60 (by decide) ?_
      refine ih (i + 1) _ _ (by omega) (by rw [hw]; exact nI_1 i) (fun z => ?_)
      have q := tail z
      rw [laS, if_pos hz2] at q
      rw [hw]
      exact q
set_option maxHeartbeats 4000000 in
set_option maxRecDepth 100000 in
theorem sM_ld {l : Launch} {G : zGP} {K : Nat} {S T : St} {th : Int32} {fo : Nat → Int64} {c a b n m : Nat} (hc : c < 3) (ha : a < 4) (hb : b < 4) (hn : n ≤ 4) (hm : m < 1024) (h6 : T 6 c 0 = nI n) (h17 : T 17 0 0 = nI m) : Rn l G m_M_load [.ref 45, .int (nI c), .int (nI a), .int (nI b)] (hpA K S T th fo) (.inl (some (.int (ldR T c (ad (T 0 c b)) n))), (hpA K S (ldM T c a (ad (T 0 c b)) n m) th fo)) := by
  refine Rn.of (by decide) rfl rfl (Nat.le_of_ble_eq_true rfl) rfl ?_
  show Ev l G m_M_load 0 [.ref 45, .int (nI c), .int (nI a), .int (nI b), .double 0, .double 0, .double 0] [] (hpA K S T th fo) 0 0 _
  refine e_aload_n (pc := 0) d_M_load_0 rfl ?_
  refine e_get (pc := 1) s_M_load_1 rfl rfl ?_
  refine e_iconst (pc := 4) (v := 4) d_M_load_4 (by decide) ?_
  refine e_iload_n (pc := 5) d_M_load_5 rfl ?_
  refine e_imul (pc := 6) d_M_load_6 ?_
  refine e_iload_n (pc := 7) d_M_load_7 rfl ?_
  refine e_iadd (pc := 8) d_M_load_8 ?_
  refine e_topi (y := nI (4 * c + b)) (ixM 4 c b) ?_
  refine e_iald (pc := 9) d_M_load_9 rfl (vp_in_nI (by omega) (by decide)) (fx4 (nI_clamp (by omega)) hb) ?_
  refine e_bipush (pc := 10) (v := 7) d_M_load_10 (by decide) ?_
  refine e_iand (pc := 12) d_M_load_12 ?_
  refine e_topi (y := nI (ad (T 0 c b))) (and7 _) ?_
  refine e_istore (pc := 13) d_M_load_13 (Nat.le_of_ble_eq_true rfl) ?_
  dsimp only [List.set]
  refine e_iconst (pc := 15) (v := (-1)) d_M_load_15 (by decide) ?_
  refine e_istore (pc := 16) d_M_load_16 (Nat.le_of_ble_eq_true rfl) ?_
  dsimp only [List.set]
  refine e_iconst (pc := 18) (v := 0) d_M_load_18 (by decide) ?_
  refine e_istore (pc := 19) d_M_load_19 (Nat.le_of_ble_eq_true rfl) ?_
  dsimp only [List.set]
  refine sM_ldL hc h6 hn n 0 0 (-1) (by omega) rfl (fun z => ?_)
  rw [laS_yn]
  rcases yn_cases T c (ad (T 0 c b)) n with h | ⟨i, h1, h2⟩
  · rw [h]; exact sM_ldN hc ha hb hm h17 h
  · rw [h2]; exact sM_ldY hc ha hb hm h17 (by omega) h2
set_option maxHeartbeats 4000000 in
set_option maxRecDepth 100000 in
theorem sM_st {l : Launch} {G : zGP} {K : Nat} {S T : St} {th : Int32} {fo : Nat → Int64} {c a b n : Nat} (hc : c < 3) (ha : a < 4) (hb : b < 4) (hn : n ≤ K) (hK4 : K ≤ 4) (h6 : T 6 c 0 = nI n) : Rn l G m_M_store [.ref 45, .int (nI c), .int (nI a), .int (nI b)] (hpA K S T th fo) (.inl (some (.int (stR K n))), (hpA K S (stM T K c (ad (T 0 c a)) n (T 0 c b)) th fo)) := by
  refine Rn.of (by decide) rfl rfl (Nat.le_of_ble_eq_true rfl) rfl ?_
  show Ev l G m_M_store 0 [.ref 45, .int (nI c), .int (nI a), .int (nI b)] [] (hpA K S T th fo) 0 0 _
  refine e_aload_n (pc := 0) d_M_store_0 rfl ?_
  refine e_get (pc := 1) s_M_store_1 rfl rfl ?_
  refine e_iload_n (pc := 4) d_M_store_4 rfl ?_
  refine e_iald (pc := 5) d_M_store_5 rfl (vp_in_nI (by omega) (by decide)) ((fx1 (nI_clamp (by omega))).trans h6) ?_
  refine e_aload_n (pc := 6) d_M_store_6 rfl ?_
  refine e_get (pc := 7) s_M_store_7 rfl rfl ?_
  refine e_icmp_ne (pc := 10) (tgt := 15) d_M_store_10 (by decide) (fun hz3 => ?_) (fun hz3 => ?_)
  · have hlt : n < K := Nat.lt_of_le_of_ne hn (fun q => hz3 (by rw [q]))
    refine e_aload_n (pc := 15) d_M_store_15 rfl ?_
    refine e_get (pc := 16) s_M_store_16 rfl rfl ?_
    refine e_iconst (pc := 19) (v := 4) d_M_store_19 (by decide) ?_
    refine e_iload_n (pc := 20) d_M_store_20 rfl ?_
    refine e_imul (pc := 21) d_M_store_21 ?_
    refine e_aload_n (pc := 22) d_M_store_22 rfl ?_
    refine e_get (pc := 23) s_M_store_23 rfl rfl ?_
    refine e_iload_n (pc := 26) d_M_store_26 rfl ?_
    refine e_iald (pc := 27) d_M_store_27 rfl (vp_in_nI (by omega) (by decide)) ((fx1 (nI_clamp (by omega))).trans h6) ?_
    refine e_iadd (pc := 28) d_M_store_28 ?_
    refine e_topi (y := nI (4 * c + n)) (ixM 4 c n) ?_
    refine e_aload_n (pc := 29) d_M_store_29 rfl ?_
    refine e_get (pc := 30) s_M_store_30 rfl rfl ?_
    refine e_iconst (pc := 33) (v := 4) d_M_store_33 (by decide) ?_
    refine e_iload_n (pc := 34) d_M_store_34 rfl ?_
    refine e_imul (pc := 35) d_M_store_35 ?_
    refine e_iload_n (pc := 36) d_M_store_36 rfl ?_
    refine e_iadd (pc := 37) d_M_store_37 ?_
    refine e_topi (y := nI (4 * c + a)) (ixM 4 c a) ?_
    refine e_iald (pc := 38) d_M_store_38 rfl (vp_in_nI (by omega) (by decide)) (fx4 (nI_clamp (by omega)) ha) ?_
    refine e_bipush (pc := 39) (v := 7) d_M_store_39 (by decide) ?_
    refine e_iand (pc := 41) d_M_store_41 ?_
    refine e_topi (y := nI (ad (T 0 c a))) (and7 _) ?_
    refine e_iast (pc := 42) d_M_store_42 rfl (vp_in_nI (by omega) (by decide)) (vBa (nI_clamp (by omega)) (by omega)) ?_
    refine e_aload_n (pc := 43) d_M_store_43 rfl ?_
    refine e_get (pc := 44) s_M_store_44 rfl rfl ?_
    refine e_iconst (pc := 47) (v := 4) d_M_store_47 (by decide) ?_
    refine e_iload_n (pc := 48) d_M_store_48 rfl ?_
    refine e_imul (pc := 49) d_M_store_49 ?_
    refine e_aload_n (pc := 50) d_M_store_50 rfl ?_
    refine e_get (pc := 51) s_M_store_51 rfl rfl ?_
    refine e_iload_n (pc := 54) d_M_store_54 rfl ?_
    refine e_iald (pc := 55) d_M_store_55 rfl (vp_in_nI (by omega) (by decide)) ((fx1 (nI_clamp (by omega))).trans h6) ?_
    refine e_iadd (pc := 56) d_M_store_56 ?_
    refine e_topi (y := nI (4 * c + n)) (ixM 4 c n) ?_
    refine e_aload_n (pc := 57) d_M_store_57 rfl ?_
    refine e_get (pc := 58) s_M_store_58 rfl rfl ?_
    refine e_iconst (pc := 61) (v := 4) d_M_store_61 (by decide) ?_
    refine e_iload_n (pc := 62) d_M_store_62 rfl ?_
    refine e_imul (pc := 63) d_M_store_63 ?_
    refine e_iload_n (pc := 64) d_M_store_64 rfl ?_
    refine e_iadd (pc := 65) d_M_store_65 ?_
    refine e_topi (y := nI (4 * c + b)) (ixM 4 c b) ?_
    refine e_iald (pc := 66) d_M_store_66 rfl (vp_in_nI (by omega) (by decide)) (fx4 (nI_clamp (by omega)) hb) ?_
    refine e_iast (pc := 67) d_M_store_67 rfl (vp_in_nI (by omega) (by decide)) (vBv (nI_clamp (by omega)) (by omega)) ?_
    refine e_aload_n (pc := 68) d_M_store_68 rfl ?_
    refine e_get (pc := 69) s_M_store_69 rfl rfl ?_
    refine e_iload_n (pc := 72) d_M_store_72 rfl ?_
    refine e_dup2 (pc := 73) d_M_store_73 rfl rfl ?_
    refine e_iald (pc := 74) d_M_store_74 rfl (vp_in_nI (by omega) (by decide)) ((fx1 (nI_clamp (by omega))).trans h6) ?_
    refine e_iconst (pc := 75) (v := 1) d_M_store_75 (by decide) ?_
    refine e_iadd (pc := 76) d_M_store_76 ?_
    refine e_iast (pc := 77) d_M_store_77 rfl (vp_in_nI (by omega) (by decide)) (vSz (nI_clamp (by omega))) ?_
    refine e_iconst (pc := 78) (v := 1) d_M_store_78 (by decide) ?_
    exact e_iret (pc := 79) d_M_store_79 rfl rfl (Nat.le_of_ble_eq_true rfl) (Nat.le_of_ble_eq_true rfl) (by rw [show stM T K c (ad (T 0 c a)) n (T 0 c b) = _ from if_neg (Nat.ne_of_lt hlt), show stR K n = 1 from if_neg (Nat.ne_of_lt hlt)]; rfl)
  · refine e_iconst (pc := 13) (v := 0) d_M_store_13 (by decide) ?_
    exact e_iret (pc := 14) d_M_store_14 rfl rfl (Nat.le_of_ble_eq_true rfl) (Nat.le_of_ble_eq_true rfl) (by have q : n = K := (nI_eq (by omega) (by omega)).mp hz3; rw [show stM T K c (ad (T 0 c a)) n (T 0 c b) = T from if_pos q, show stR K n = 0 from if_pos q])
set_option maxHeartbeats 4000000 in
set_option maxRecDepth 100000 in
theorem sM_sw {l : Launch} {G : zGP} {K : Nat} {S T : St} {th : Int32} {fo : Nat → Int64} {c a b n m s : Nat} (hc : c < 3) (ha : a < 4) (hb : b < 4) (hn : n ≤ 4) (hm : m < 1024) (hs : s < 4) (h6 : T 6 c 0 = nI n) (h17 : T 17 0 0 = nI m) (h9 : T 9 c (ad (T 0 c a) % 2) = nI s) : Rn l G m_M_swap [.ref 45, .int (nI c), .int (nI a), .int (nI b)] (hpA K S T th fo) (.inl (some (.int (swR T c (ad (T 0 c a))))), (hpA K S (swM T c (ad (T 0 c a)) m (T 0 c b)) th fo)) := by
  refine Rn.of (by decide) rfl rfl (Nat.le_of_ble_eq_true rfl) rfl ?_
  show Ev l G m_M_swap 0 [.ref 45, .int (nI c), .int (nI a), .int (nI b), .double 0, .double 0, .double 0, .double 0] [] (hpA K S T th fo) 0 0 _
  refine e_aload_n (pc := 0) d_M_swap_0 rfl ?_
  refine e_get (pc := 1) s_M_swap_1 rfl rfl ?_
  refine e_iconst (pc := 4) (v := 4) d_M_swap_4 (by decide) ?_
  refine e_iload_n (pc := 5) d_M_swap_5 rfl ?_
  refine e_imul (pc := 6) d_M_swap_6 ?_
  refine e_iload_n (pc := 7) d_M_swap_7 rfl ?_
  refine e_iadd (pc := 8) d_M_swap_8 ?_
  refine e_topi (y := nI (4 * c + a)) (ixM 4 c a) ?_
  refine e_iald (pc := 9) d_M_swap_9 rfl (vp_in_nI (by omega) (by decide)) (fx4 (nI_clamp (by omega)) ha) ?_
  refine e_bipush (pc := 10) (v := 7) d_M_swap_10 (by decide) ?_
  refine e_iand (pc := 12) d_M_swap_12 ?_
  refine e_topi (y := nI (ad (T 0 c a))) (and7 _) ?_
  refine e_istore (pc := 13) d_M_swap_13 (Nat.le_of_ble_eq_true rfl) ?_
  dsimp only [List.set]
  refine e_aload_n (pc := 15) d_M_swap_15 rfl ?_
  refine e_get (pc := 16) s_M_swap_16 rfl rfl ?_
  refine e_iload_n (pc := 19) d_M_swap_19 rfl ?_
  refine e_iald (pc := 20) d_M_swap_20 rfl (vp_in_nI (by omega) (by decide)) (fx1 (nI_clamp (by omega))) ?_
  refine e_if_le (pc := 21) (tgt := 26) d_M_swap_21 (by decide) (fun hz4 => ?_) (fun hz4 => ?_)
  · refine e_aload_n (pc := 26) d_M_swap_26 rfl ?_
    refine e_iload_n (pc := 27) d_M_swap_27 rfl ?_
    refine e_iload (pc := 28) d_M_swap_28 rfl ?_
    refine e_cV2 (pc := 30) s_M_swap_30 (sM_owns hc (ad_lt _) hs h9) rfl rfl rfl (Nat.le_of_ble_eq_true rfl) (Nat.le_of_ble_eq_true rfl) (Nat.le_of_ble_eq_true rfl) (zGo.v ?_)
    refine e_if_ne (pc := 33) (tgt := 46) d_M_swap_33 (by decide) (fun hz5 => ?_) (fun hz5 => ?_)
    · replace hz5 := b1.mp hz5
      refine e_aload_n (pc := 46) d_M_swap_46 rfl ?_
      refine e_iload_n (pc := 47) d_M_swap_47 rfl ?_
      refine e_iload (pc := 48) d_M_swap_48 rfl ?_
      refine e_cV2 (pc := 50) s_M_swap_50 (sM_lineOf hc (ad_lt _)) rfl rfl rfl (Nat.le_of_ble_eq_true rfl) (Nat.le_of_ble_eq_true rfl) (Nat.le_of_ble_eq_true rfl) (zGo.v ?_)
      refine e_istore (pc := 53) d_M_swap_53 (Nat.le_of_ble_eq_true rfl) ?_
      dsimp only [List.set]
      refine e_aload_n (pc := 55) d_M_swap_55 rfl ?_
      refine e_get (pc := 56) s_M_swap_56 rfl rfl ?_
      refine e_iload (pc := 59) d_M_swap_59 rfl ?_
      refine e_iald (pc := 61) d_M_swap_61 rfl (vp_in_nI (lin hc) (by decide)) (fx2 (nI_clamp (lin31 hc)) (Nat.mod_lt _ (by decide))) ?_
      refine e_istore (pc := 62) d_M_swap_62 (Nat.le_of_ble_eq_true rfl) ?_
      dsimp only [List.set]
      refine e_iload (pc := 64) d_M_swap_64 rfl ?_
      refine e_aload_n (pc := 66) d_M_swap_66 rfl ?_
      refine e_get (pc := 67) s_M_swap_67 rfl rfl ?_
      refine e_iconst (pc := 70) (v := 4) d_M_swap_70 (by decide) ?_
      refine e_iload_n (pc := 71) d_M_swap_71 rfl ?_
      refine e_imul (pc := 72) d_M_swap_72 ?_
      refine e_iconst (pc := 73) (v := 3) d_M_swap_73 (by decide) ?_
      refine e_iadd (pc := 74) d_M_swap_74 ?_
      refine e_topi (y := nI (4 * c + 3)) (ixM 4 c 3) ?_
      refine e_iald (pc := 75) d_M_swap_75 rfl (vp_in_nI (by omega) (by decide)) (fx4 (j := 3) (nI_clamp (by omega)) (by decide)) ?_
      refine e_icmp_ne (pc := 76) (tgt := 83) d_M_swap_76 (by decide) (fun hz6 => ?_) (fun hz6 => ?_)
      · refine e_iconst (pc := 83) (v := 0) d_M_swap_83 (by decide) ?_
        refine e_istore (pc := 84) d_M_swap_84 (Nat.le_of_ble_eq_true rfl) ?_
        dsimp only [List.set]
        refine e_iload (pc := 86) d_M_swap_86 rfl ?_
        refine e_if_eq (pc := 88) (tgt := 116) d_M_swap_88 (by decide) (fun _ => ?_) (fun zz => absurd (by decide) zz)
        refine e_aload_n (pc := 116) d_M_swap_116 rfl ?_
        refine e_get (pc := 117) s_M_swap_117 rfl rfl ?_
        refine e_iconst (pc := 120) (v := 4) d_M_swap_120 (by decide) ?_
        refine e_iload_n (pc := 121) d_M_swap_121 rfl ?_
        refine e_imul (pc := 122) d_M_swap_122 ?_
        refine e_iconst (pc := 123) (v := 3) d_M_swap_123 (by decide) ?_
        refine e_iadd (pc := 124) d_M_swap_124 ?_
        refine e_topi (y := nI (4 * c + 3)) (ixM 4 c 3) ?_
        refine e_iload (pc := 125) d_M_swap_125 rfl ?_
        refine e_if_eq (pc := 127) (tgt := 134) d_M_swap_127 (by decide) (fun _ => ?_) (fun zz => absurd (by decide) zz)
        refine e_iconst (pc := 134) (v := 0) d_M_swap_134 (by decide) ?_
        refine e_iast (pc := 135) d_M_swap_135 rfl (vp_in_nI (by omega) (by decide)) (vRg (a := 3) (nI_clamp (by omega)) (by decide)) ?_
        refine e_aload_n (pc := 136) d_M_swap_136 rfl ?_
        refine e_iconst (pc := 137) (v := 2) d_M_swap_137 (by decide) ?_
        refine e_iload_n (pc := 138) d_M_swap_138 rfl ?_
        refine e_iload (pc := 139) d_M_swap_139 rfl ?_
        refine e_iload (pc := 141) d_M_swap_141 rfl ?_
        refine e_cV4 (pc := 143) s_M_swap_143 (sM_note hm h17) rfl rfl rfl (Nat.le_of_ble_eq_true rfl) (Nat.le_of_ble_eq_true rfl) (Nat.le_of_ble_eq_true rfl) (zGo.n ?_)
        refine e_iconst (pc := 146) (v := 1) d_M_swap_146 (by decide) ?_
        exact e_iret (pc := 147) d_M_swap_147 rfl rfl (Nat.le_of_ble_eq_true rfl) (Nat.le_of_ble_eq_true rfl) (by rw [show swM T c (ad (T 0 c a)) m (T 0 c b) = _ from (if_neg (fun q => q (le0 h6 (by omega) hz4))).trans (if_pos hz5), show swR T c (ad (T 0 c a)) = _ from (if_neg (fun q => q (le0 h6 (by omega) hz4))).trans (if_pos hz5), show swU T c (ad (T 0 c a)) (T 0 c b) = _ from if_neg hz6])
      · refine e_iconst (pc := 79) (v := 1) d_M_swap_79 (by decide) ?_
        refine e_goto (pc := 80) (tgt := 84) d_M_swap_80 (by decide) ?_
        refine e_istore (pc := 84) d_M_swap_84 (Nat.le_of_ble_eq_true rfl) ?_
        dsimp only [List.set]
        refine e_iload (pc := 86) d_M_swap_86 rfl ?_
        refine e_if_eq (pc := 88) (tgt := 116) d_M_swap_88 (by decide) (fun zz => absurd zz (by decide)) (fun _ => ?_)
        refine e_aload_n (pc := 91) d_M_swap_91 rfl ?_
        refine e_get (pc := 92) s_M_swap_92 rfl rfl ?_
        refine e_iload (pc := 95) d_M_swap_95 rfl ?_
        refine e_aload_n (pc := 97) d_M_swap_97 rfl ?_
        refine e_get (pc := 98) s_M_swap_98 rfl rfl ?_
        refine e_iconst (pc := 101) (v := 4) d_M_swap_101 (by decide) ?_
        refine e_iload_n (pc := 102) d_M_swap_102 rfl ?_
        refine e_imul (pc := 103) d_M_swap_103 ?_
        refine e_iload_n (pc := 104) d_M_swap_104 rfl ?_
        refine e_iadd (pc := 105) d_M_swap_105 ?_
        refine e_topi (y := nI (4 * c + b)) (ixM 4 c b) ?_
        refine e_iald (pc := 106) d_M_swap_106 rfl (vp_in_nI (by omega) (by decide)) (fx4 (nI_clamp (by omega)) hb) ?_
        refine e_iast (pc := 107) d_M_swap_107 rfl (vp_in_nI (lin hc) (by decide)) (vVl (nI_clamp (lin31 hc)) (Nat.mod_lt _ (by decide))) ?_
        refine e_aload_n (pc := 108) d_M_swap_108 rfl ?_
        refine e_get (pc := 109) s_M_swap_109 rfl rfl ?_
        refine e_iload (pc := 112) d_M_swap_112 rfl ?_
        refine e_iconst (pc := 114) (v := 3) d_M_swap_114 (by decide) ?_
        refine e_iast (pc := 115) d_M_swap_115 rfl (vp_in_nI (lin hc) (by decide)) (vSt (nI_clamp (lin31 hc)) (Nat.mod_lt _ (by decide))) ?_
        refine e_aload_n (pc := 116) d_M_swap_116 rfl ?_
        refine e_get (pc := 117) s_M_swap_117 rfl rfl ?_
        refine e_iconst (pc := 120) (v := 4) d_M_swap_120 (by decide) ?_
        refine e_iload_n (pc := 121) d_M_swap_121 rfl ?_
        refine e_imul (pc := 122) d_M_swap_122 ?_
        refine e_iconst (pc := 123) (v := 3) d_M_swap_123 (by decide) ?_
        refine e_iadd (pc := 124) d_M_swap_124 ?_
        refine e_topi (y := nI (4 * c + 3)) (ixM 4 c 3) ?_
        refine e_iload (pc := 125) d_M_swap_125 rfl ?_
        refine e_if_eq (pc := 127) (tgt := 134) d_M_swap_127 (by decide) (fun zz => absurd zz (by decide)) (fun _ => ?_)
        refine e_iconst (pc := 130) (v := 1) d_M_swap_130 (by decide) ?_
        refine e_goto (pc := 131) (tgt := 135) d_M_swap_131 (by decide) ?_
        refine e_iast (pc := 135) d_M_swap_135 rfl (vp_in_nI (by omega) (by decide)) (vRg (a := 3) (nI_clamp (by omega)) (by decide)) ?_
        refine e_aload_n (pc := 136) d_M_swap_136 rfl ?_
        refine e_iconst (pc := 137) (v := 2) d_M_swap_137 (by decide) ?_
        refine e_iload_n (pc := 138) d_M_swap_138 rfl ?_
        refine e_iload (pc := 139) d_M_swap_139 rfl ?_
        refine e_iload (pc := 141) d_M_swap_141 rfl ?_
        refine e_cV4 (pc := 143) s_M_swap_143 (sM_note hm h17) rfl rfl rfl (Nat.le_of_ble_eq_true rfl) (Nat.le_of_ble_eq_true rfl) (Nat.le_of_ble_eq_true rfl) (zGo.n ?_)
        refine e_iconst (pc := 146) (v := 1) d_M_swap_146 (by decide) ?_
        exact e_iret (pc := 147) d_M_swap_147 rfl rfl (Nat.le_of_ble_eq_true rfl) (Nat.le_of_ble_eq_true rfl) (by rw [show swM T c (ad (T 0 c a)) m (T 0 c b) = _ from (if_neg (fun q => q (le0 h6 (by omega) hz4))).trans (if_pos hz5), show swR T c (ad (T 0 c a)) = _ from (if_neg (fun q => q (le0 h6 (by omega) hz4))).trans (if_pos hz5), show swU T c (ad (T 0 c a)) (T 0 c b) = _ from if_pos hz6])
    · replace hz5 := b0.mp hz5
      refine e_aload_n (pc := 36) d_M_swap_36 rfl ?_
      refine e_iload_n (pc := 37) d_M_swap_37 rfl ?_
      refine e_iload (pc := 38) d_M_swap_38 rfl ?_
      refine e_iconst (pc := 40) (v := 1) d_M_swap_40 (by decide) ?_
      refine e_cV3 (pc := 41) s_M_swap_41 (sM_askO hc) rfl rfl rfl (Nat.le_of_ble_eq_true rfl) (Nat.le_of_ble_eq_true rfl) (Nat.le_of_ble_eq_true rfl) (zGo.n ?_)
      refine e_iconst (pc := 44) (v := 0) d_M_swap_44 (by decide) ?_
      exact e_iret (pc := 45) d_M_swap_45 rfl rfl (Nat.le_of_ble_eq_true rfl) (Nat.le_of_ble_eq_true rfl) (by rw [show swM T c (ad (T 0 c a)) m (T 0 c b) = _ from (if_neg (fun q => q (le0 h6 (by omega) hz4))).trans (if_neg hz5), show swR T c (ad (T 0 c a)) = _ from (if_neg (fun q => q (le0 h6 (by omega) hz4))).trans (if_neg hz5)])
  · refine e_iconst (pc := 24) (v := 0) d_M_swap_24 (by decide) ?_
    exact e_iret (pc := 25) d_M_swap_25 rfl rfl (Nat.le_of_ble_eq_true rfl) (Nat.le_of_ble_eq_true rfl) (by rw [show swM T c (ad (T 0 c a)) m (T 0 c b) = _ from if_pos (fun q => hz4 (by rw [q]; decide)), show swR T c (ad (T 0 c a)) = _ from if_pos (fun q => hz4 (by rw [q]; decide))])
