/-! ===== the two sides agree, call by call ===== -/
theorem toN {x M : Int32} {b : Nat} (hM : M = nI b) (hb : b < 2 ^ 31) (h0 : 0 ≤ x) (h : x < M) : ∃ c, c < b ∧ x = nI c := by
  obtain ⟨j, hj, rfl⟩ := nI_of (Int32.not_lt.mpr h0)
  subst hM
  exact ⟨j, (nI_ltI hj hb).mp h, rfl⟩
theorem vA1 {a : Int32} {p : Prop} [Decidable p] {z : Bool} (h : (if 0 ≤ a ∧ a < 4 then z else false) = true) : ∃ a', a' < 4 ∧ a = nI a' := by
  by_cases h1 : 0 ≤ a ∧ a < 4
  · exact toN (b := 4) rfl (by decide) h1.1 h1.2
  · rw [if_neg h1] at h; exact absurd h (by decide)
theorem vA {a : Int32} {z : Bool} (h : (if 0 ≤ a ∧ a < 4 then z else false) = true) : (∃ a', a' < 4 ∧ a = nI a') ∧ z = true := by
  by_cases h1 : 0 ≤ a ∧ a < 4
  · rw [if_pos h1] at h
    exact ⟨toN (b := 4) rfl (by decide) h1.1 h1.2, h⟩
  · rw [if_neg h1] at h; exact absurd h (by decide)
theorem vAB {a b : Int32} (h : (if 0 ≤ a ∧ a < 4 then (if 0 ≤ b ∧ b < 4 then true else false) else false) = true) : (∃ a', a' < 4 ∧ a = nI a') ∧ ∃ b', b' < 4 ∧ b = nI b' :=
  ⟨(vA h).1, (vA (vA h).2).1⟩
theorem vAt6 {a b : Int32} (h : (if 0 ≤ a ∧ a < 4 then (if b < 0 then false else if 16 ≤ b then false else true) else false) = true) : (∃ a', a' < 4 ∧ a = nI a') ∧ ∃ b', b' < 16 ∧ b = nI b' := by
  obtain ⟨h1, h2⟩ := vA h
  refine ⟨h1, ?_⟩
  by_cases q : b < 0
  · rw [if_pos q] at h2; exact absurd h2 (by decide)
  · rw [if_neg q] at h2
    by_cases r : 16 ≤ b
    · rw [if_pos r] at h2; exact absurd h2 (by decide)
    · exact toN (b := 16) rfl (by decide) (Int32.not_lt.mp q) (Int32.not_le.mp r)
def AgV (l : Launch) (G : zGP) (K m : Nat) (S : St) (mL : zMI) (aL : List Value) (mM : zMI) (aM : List Value) : Prop :=
  ∀ th fo, ∃ (S' : St) (fo' : Nat → Int64) (code v : Int32) (m' : Nat), m' ≤ m + 1 ∧ Inv K S' m' ∧ (code = 0 → fo' 0 = v.toInt64) ∧ Rn l G mL aL (hpA K S S th fo) (.inl (some (.int code)), hpA K S' S th fo') ∧ Rn l G mM aM (hpA K S' S th fo') (.inl (some (.int v)), hpA K S' S' code fo')
def AgN (l : Launch) (G : zGP) (K m : Nat) (S : St) (mL : zMI) (aL : List Value) (mM : zMI) (aM : List Value) : Prop :=
  ∀ th fo, ∃ (S' : St) (fo' : Nat → Int64) (code : Int32) (m' : Nat), m' ≤ m + 1 ∧ Inv K S' m' ∧ Rn l G mL aL (hpA K S S th fo) (.inl (some (.int code)), hpA K S' S th fo') ∧ Rn l G mM aM (hpA K S' S th fo') (.inl none, hpA K S' S' code fo')
section
variable {l : Launch} {G : zGP} {K m : Nat} {S : St} {mL : zMI} {aL : List Value} {mM : zMI} {aM : List Value}
theorem agV {S' : St} {v : Int32} {m' : Nat} (hm : m' ≤ m + 1) (hi : Inv K S' m') (hL : ∀ th fo, Rn l G mL aL (hpA K S S th fo) (.inl (some (.int 0)), hpA K S' S th (vp_updL fo 0 v.toInt64))) (hM : ∀ th fo, Rn l G mM aM (hpA K S' S th fo) (.inl (some (.int v)), hpA K S' S' 0 fo)) : AgV l G K m S mL aL mM aM :=
  fun th fo => ⟨S', _, 0, v, m', hm, hi, fun _ => if_pos rfl, hL th fo, hM th _⟩
theorem agX {code v : Int32} (hc : ¬ code = 0) (hi : Inv K S m) (hL : ∀ th fo, Rn l G mL aL (hpA K S S th fo) (.inl (some (.int code)), hpA K S S th fo)) (hM : ∀ th fo, Rn l G mM aM (hpA K S S th fo) (.inl (some (.int v)), hpA K S S code fo)) : AgV l G K m S mL aL mM aM :=
  fun th fo => ⟨S, fo, code, v, m, by omega, hi, fun q => absurd q hc, hL th fo, hM th fo⟩
end
set_option maxHeartbeats 4000000 in
set_option maxRecDepth 100000 in
theorem ag_code {l : Launch} {G : zGP} {K m : Nat} {S : St} (h : Inv K S m) (hK4 : K ≤ 4) (hm : m < 1024) (x op a b : Int32) : AgV l G K m S m_L_code [.ref 0, .int x, .int op, .int a, .int b, .ref 65] m_M_code [.ref 45, .int x, .int op, .int a, .int b] := by
  obtain ⟨i1, i2, i3, i4, i5, i6, i7, i8⟩ := id h
  by_cases hx : 0 ≤ x ∧ x < 3
  · obtain ⟨c, hc, rfl⟩ := toN (b := 3) rfl (by decide) hx.1 hx.2
    have hW := (i6 c hc).2
    by_cases ho : op < 0 ∨ 8 ≤ op
    · exact agX (by decide) h (fun th fo => wX_code1 (S' := S) (sA_codeX1 hc ho)) (fun th fo => sM_codeX1 hc ho)
    · obtain ⟨n, hn, rfl⟩ := toN (x := op) (b := 8) rfl (by decide) (Int32.not_lt.mp (fun q => ho (Or.inl q))) (Int32.not_le.mp (fun q => ho (Or.inr q)))
      obtain ⟨q, hq, h1, -⟩ := i1 c hc
      rcases (show n = 0 ∨ n = 1 ∨ n = 2 ∨ n = 3 ∨ n = 4 ∨ n = 5 ∨ n = 6 ∨ n = 7 by omega) with rfl | rfl | rfl | rfl | rfl | rfl | rfl | rfl
      · by_cases hv : vB 0 a b = true
        · by_cases hq6 : q = 16
          · subst hq6
            exact agX (by decide) h (fun th fo => wX_code2 (S' := S) (sA_codeX0_3 hc hv h1)) (fun th fo => sM_codeX0_3 hc hv h1)
          · exact agV (Nat.le_succ m) (Inv_code (c := c) h (show q < 16 by omega) h1 hn hv) (fun th fo => wV_code (sA_code0 hc (by omega) hv h1)) (fun th fo => sM_code0 hc (by omega) hv h1)
        · exact agX (by decide) h (fun th fo => wX_code1 (S' := S) (sA_codeX0_2 hc (Bool.eq_false_iff.mpr hv))) (fun th fo => sM_codeX0_2 hc (Bool.eq_false_iff.mpr hv))
      · by_cases hv : vB 1 a b = true
        · by_cases hq6 : q = 16
          · subst hq6
            exact agX (by decide) h (fun th fo => wX_code2 (S' := S) (sA_codeX1_3 hc hv h1)) (fun th fo => sM_codeX1_3 hc hv h1)
          · exact agV (Nat.le_succ m) (Inv_code (c := c) h (show q < 16 by omega) h1 hn hv) (fun th fo => wV_code (sA_code1 hc (by omega) hv h1)) (fun th fo => sM_code1 hc (by omega) hv h1)
        · exact agX (by decide) h (fun th fo => wX_code1 (S' := S) (sA_codeX1_2 hc (Bool.eq_false_iff.mpr hv))) (fun th fo => sM_codeX1_2 hc (Bool.eq_false_iff.mpr hv))
      · by_cases hv : vB 2 a b = true
        · by_cases hq6 : q = 16
          · subst hq6
            exact agX (by decide) h (fun th fo => wX_code2 (S' := S) (sA_codeX2_3 hc hv h1)) (fun th fo => sM_codeX2_3 hc hv h1)
          · exact agV (Nat.le_succ m) (Inv_code (c := c) h (show q < 16 by omega) h1 hn hv) (fun th fo => wV_code (sA_code2 hc (by omega) hv h1)) (fun th fo => sM_code2 hc (by omega) hv h1)
        · exact agX (by decide) h (fun th fo => wX_code1 (S' := S) (sA_codeX2_2 hc (Bool.eq_false_iff.mpr hv))) (fun th fo => sM_codeX2_2 hc (Bool.eq_false_iff.mpr hv))
      · by_cases hv : vB 3 a b = true
        · by_cases hq6 : q = 16
          · subst hq6
            exact agX (by decide) h (fun th fo => wX_code2 (S' := S) (sA_codeX3_3 hc hv h1)) (fun th fo => sM_codeX3_3 hc hv h1)
          · exact agV (Nat.le_succ m) (Inv_code (c := c) h (show q < 16 by omega) h1 hn hv) (fun th fo => wV_code (sA_code3 hc (by omega) hv h1)) (fun th fo => sM_code3 hc (by omega) hv h1)
        · exact agX (by decide) h (fun th fo => wX_code1 (S' := S) (sA_codeX3_2 hc (Bool.eq_false_iff.mpr hv))) (fun th fo => sM_codeX3_2 hc (Bool.eq_false_iff.mpr hv))
      · by_cases hv : vB 4 a b = true
        · by_cases hq6 : q = 16
          · subst hq6
            exact agX (by decide) h (fun th fo => wX_code2 (S' := S) (sA_codeX4_3 hc hv h1)) (fun th fo => sM_codeX4_3 hc hv h1)
          · exact agV (Nat.le_succ m) (Inv_code (c := c) h (show q < 16 by omega) h1 hn hv) (fun th fo => wV_code (sA_code4 hc (by omega) hv h1)) (fun th fo => sM_code4 hc (by omega) hv h1)
        · exact agX (by decide) h (fun th fo => wX_code1 (S' := S) (sA_codeX4_2 hc (Bool.eq_false_iff.mpr hv))) (fun th fo => sM_codeX4_2 hc (Bool.eq_false_iff.mpr hv))
      · by_cases hv : vB 5 a b = true
        · by_cases hq6 : q = 16
          · subst hq6
            exact agX (by decide) h (fun th fo => wX_code2 (S' := S) (sA_codeX5_3 hc hv h1)) (fun th fo => sM_codeX5_3 hc hv h1)
          · exact agV (Nat.le_succ m) (Inv_code (c := c) h (show q < 16 by omega) h1 hn hv) (fun th fo => wV_code (sA_code5 hc (by omega) hv h1)) (fun th fo => sM_code5 hc (by omega) hv h1)
        · exact agX (by decide) h (fun th fo => wX_code1 (S' := S) (sA_codeX5_2 hc (Bool.eq_false_iff.mpr hv))) (fun th fo => sM_codeX5_2 hc (Bool.eq_false_iff.mpr hv))
      · by_cases hv : vB 6 a b = true
        · by_cases hq6 : q = 16
          · subst hq6
            exact agX (by decide) h (fun th fo => wX_code2 (S' := S) (sA_codeX6_3 hc hv h1)) (fun th fo => sM_codeX6_3 hc hv h1)
          · exact agV (Nat.le_succ m) (Inv_code (c := c) h (show q < 16 by omega) h1 hn hv) (fun th fo => wV_code (sA_code6 hc (by omega) hv h1)) (fun th fo => sM_code6 hc (by omega) hv h1)
        · exact agX (by decide) h (fun th fo => wX_code1 (S' := S) (sA_codeX6_2 hc (Bool.eq_false_iff.mpr hv))) (fun th fo => sM_codeX6_2 hc (Bool.eq_false_iff.mpr hv))
      · by_cases hv : vB 7 a b = true
        · by_cases hq6 : q = 16
          · subst hq6
            exact agX (by decide) h (fun th fo => wX_code2 (S' := S) (sA_codeX7_3 hc hv h1)) (fun th fo => sM_codeX7_3 hc hv h1)
          · exact agV (Nat.le_succ m) (Inv_code (c := c) h (show q < 16 by omega) h1 hn hv) (fun th fo => wV_code (sA_code7 hc (by omega) hv h1)) (fun th fo => sM_code7 hc (by omega) hv h1)
        · exact agX (by decide) h (fun th fo => wX_code1 (S' := S) (sA_codeX7_2 hc (Bool.eq_false_iff.mpr hv))) (fun th fo => sM_codeX7_2 hc (Bool.eq_false_iff.mpr hv))
  · exact agX (by decide) h (fun th fo => wX_code0 (S' := S) (sX_code hx)) (fun th fo => sY_code hx)
set_option maxHeartbeats 4000000 in
set_option maxRecDepth 100000 in
theorem ag_step {l : Launch} {G : zGP} {K m : Nat} {S : St} (h : Inv K S m) (hK4 : K ≤ 4) (hm : m < 1024) (x : Int32) : AgV l G K m S m_L_step [.ref 0, .int x, .ref 65] m_M_step [.ref 45, .int x] := by
  obtain ⟨i1, i2, i3, i4, i5, i6, i7, i8⟩ := id h
  by_cases hx : 0 ≤ x ∧ x < 3
  · obtain ⟨c, hc, rfl⟩ := toN (b := 3) rfl (by decide) hx.1 hx.2
    have hW := (i6 c hc).2
    obtain ⟨q, hq, h1, hP⟩ := i1 c hc
    obtain ⟨p, hp, h5⟩ := i2 c hc
    obtain ⟨n, hn, h6⟩ := i3 c hc
    by_cases hpq : q ≤ p
    · exact agV (Nat.le_succ m) h (fun th fo => wV_step (sA_stepE hc hp hq h5 h1 hpq)) (fun th fo => sM_stepE hc hp hq h5 h1 hpq)
    · obtain ⟨op, ho, h2, hv⟩ := hP p (by omega)
      have hp' : p < 16 := by omega
      have hpq' : p < q := by omega
      rcases (show op = 0 ∨ op = 1 ∨ op = 2 ∨ op = 3 ∨ op = 4 ∨ op = 5 ∨ op = 6 ∨ op = 7 by omega) with rfl | rfl | rfl | rfl | rfl | rfl | rfl | rfl
      · obtain ⟨⟨a, ha, h3⟩, b, hb, h4⟩ := vAB hv
        obtain ⟨m', hm', hI⟩ := Inv_ld (a := a) (n := n) h hc (ad_lt (S 0 c b)) hp' h5
        exact agV hm' hI (fun th fo => wV_step (sA_step0 hc hp' hq h5 h1 hpq' h2 h3 h4 ha hb hn hK4 hm h6 i8)) (fun th fo => by rw [← ldE hW]; exact sM_step0 hc hp' hq h5 h1 hpq' h2 h3 h4 ha hb (by omega) hm h6 i8)
      · obtain ⟨⟨a, ha, h3⟩, b, hb, h4⟩ := vAB hv
        exact agV (Nat.le_succ m) (Inv_st (v := S 0 c b) h (ad_lt (S 0 c a)) hn hp' h5) (fun th fo => wV_step (sA_step1 hc hp' hq h5 h1 hpq' h2 h3 h4 ha hb hn hK4 h6)) (fun th fo => by rw [← stE]; exact sM_step1 hc hp' hq h5 h1 hpq' h2 h3 h4 ha hb hn hK4 h6)
      · exact agV (Nat.le_succ m) (Inv_fn h hp' h5) (fun th fo => wV_step (sA_step2 hc hp' hq h5 h1 hpq' h2 rfl rfl)) (fun th fo => by rw [← fnE]; exact sM_step2 hc hp' hq h5 h1 hpq' h2 rfl rfl)
      · obtain ⟨⟨a, ha, h3⟩, b, hb, h4⟩ := vAB hv
        obtain ⟨⟨s, hs, h9⟩, -⟩ := i5 c (ad (S 0 c a) % 2) hc
        obtain ⟨m', hm', hI⟩ := Inv_sw (v := S 0 c b) h hc (ad_lt (S 0 c a)) hp' h5
        exact agV hm' hI (fun th fo => wV_step (sA_step3 hc hp' hq h5 h1 hpq' h2 h3 h4 ha hb hm i8)) (fun th fo => by rw [← swE hW]; exact sM_step3 hc hp' hq h5 h1 hpq' h2 h3 h4 ha hb hs (by omega) hm h6 i8 h9)
      · obtain ⟨⟨a, ha, h3⟩, b, hb, h4⟩ := vAB hv
        exact agV (Nat.le_succ m) (Inv_5 (Inv_s (f := 0) (c := c) (j := a) (v := S 0 c a + S 0 c b) h (by decide)) (p := p + 1) (v := S 5 c 0 + 1) (c := c) (by omega) (by rw [h5, nI_1])) (fun th fo => wV_step (sA_step4 hc hp' hq h5 h1 hpq' h2 h3 h4 ha hb)) (fun th fo => sM_step4 hc hp' hq h5 h1 hpq' h2 h3 h4 ha hb)
      · obtain ⟨⟨a, ha, h3⟩, -⟩ := vA hv
        exact agV (Nat.le_succ m) (Inv_5 (Inv_s (f := 0) (c := c) (j := a) (v := S 4 c p) h (by decide)) (p := p + 1) (v := S 5 c 0 + 1) (c := c) (by omega) (by rw [h5, nI_1])) (fun th fo => wV_step (sA_step5 hc hp' hq h5 h1 hpq' h2 h3 rfl ha)) (fun th fo => sM_step5 hc hp' hq h5 h1 hpq' h2 h3 rfl ha)
      · obtain ⟨⟨a, ha, h3⟩, b, hb, h4⟩ := vAt6 hv
        have hI : Inv K (brS S c a (S 4 c p)) m := by
          unfold brS
          by_cases z : S 0 c a = 0
          · rw [if_pos z]; exact Inv_5 h (p := p + 1) (by omega) (by rw [h5, nI_1])
          · rw [if_neg z]; exact Inv_5 h (p := b) (by omega) h4
        exact agV (Nat.le_succ m) hI (fun th fo => wV_step (sA_step6 hc hp' hq h5 h1 hpq' h2 h3 rfl ha)) (fun th fo => sM_step6 hc hp' hq h5 h1 hpq' h2 h3 rfl ha)
      · exact agV (Nat.le_succ m) h (fun th fo => wV_step (sA_step7 hc hp' hq h5 h1 hpq' h2 rfl rfl)) (fun th fo => sM_step7 hc hp' hq h5 h1 hpq' h2 rfl rfl)
  · exact agX (by decide) h (fun th fo => wX_step0 (S' := S) (sX_step hx)) (fun th fo => sY_step hx)
set_option maxHeartbeats 4000000 in
set_option maxRecDepth 100000 in
theorem ag_drain {l : Launch} {G : zGP} {K m : Nat} {S : St} (h : Inv K S m) (hK4 : K ≤ 4) (hm : m < 1024) (x : Int32) : AgV l G K m S m_L_drain [.ref 0, .int x, .ref 65] m_M_drain [.ref 45, .int x] := by
  obtain ⟨i1, i2, i3, i4, i5, i6, i7, i8⟩ := id h
  by_cases hx : 0 ≤ x ∧ x < 3
  · obtain ⟨c, hc, rfl⟩ := toN (b := 3) rfl (by decide) hx.1 hx.2
    have hW := (i6 c hc).2
    obtain ⟨n, hn, h6⟩ := i3 c hc
    by_cases h0 : n = 0
    · subst h0
      exact agV (Nat.le_succ m) h (fun th fo => wV_drain (sA_drain0 hc (h6.trans nI_0))) (fun th fo => sM_drain0 hc (h6.trans nI_0))
    · obtain ⟨k, hk, h7⟩ := i4 c 0 hc
      obtain ⟨⟨s, hs, h9⟩, -⟩ := i5 c (k % 2) hc
      have hn0 : 0 < n := by omega
      by_cases ho : ownS S c k
      · exact agV (Nat.le_refl _) (Inv_drain h hc hn ho) (fun th fo => wV_drain (sA_drain hc hk hn0 hn hK4 h6 h7 hm i8 ho)) (fun th fo => by rw [← drE]; exact sM_drain hc hk hn0 (by omega) hs h6 h7 h9 hm i8 ho)
      · exact agV (Nat.le_succ m) (Inv_ask (kd := 2) h hc hk (by decide)) (fun th fo => wV_drain (sA_drainA hc hk hn0 hn hK4 h6 h7 ho)) (fun th fo => by rw [← askE hW]; exact sM_drainA hc hk hn0 (by omega) hs h6 h7 h9 ho)
  · exact agX (by decide) h (fun th fo => wX_drain0 (S' := S) (sX_drain hx)) (fun th fo => sY_drain hx)
set_option maxHeartbeats 4000000 in
set_option maxRecDepth 100000 in
theorem ag_grant {l : Launch} {G : zGP} {K m : Nat} {S : St} (h : Inv K S m) (hK4 : K ≤ 4) (hm : m < 1024) (x : Int32) : AgV l G K m S m_L_grant [.ref 0, .int x, .ref 65] m_M_grant [.ref 45, .int x] := by
  obtain ⟨i1, i2, i3, i4, i5, i6, i7, i8⟩ := id h
  by_cases hx : 0 ≤ x ∧ x < 3
  · obtain ⟨c, hc, rfl⟩ := toN (b := 3) rfl (by decide) hx.1 hx.2
    have hW := (i6 c hc).2
    by_cases hN : S 12 c 0 = 0 ∨ ¬ S 14 c 0 = 0
    · exact agV (Nat.le_succ m) h (fun th fo => wV_grant (sA_grantN hc hN)) (fun th fo => sM_grantN hc hN)
    · have h12 : ¬ S 12 c 0 = 0 := fun q => hN (Or.inl q)
      have h14 : S 14 c 0 = 0 := Decidable.byContradiction (fun q => hN (Or.inr q))
      obtain ⟨k, hk, h13⟩ := (i6 c hc).1
      by_cases he : elF S c k
      · refine agV (Nat.le_succ m) h (fun th fo => wV_grant (sA_grantB hc hk h12 h14 h13 he)) (fun th fo => ?_)
        rcases (show c = 0 ∨ c = 1 ∨ c = 2 by omega) with rfl | rfl | rfl
        · exact sM_grantB0 hk h12 h14 h13 he
        · exact sM_grantB1 hk h12 h14 h13 he
        · exact sM_grantB2 hk h12 h14 h13 he
      · refine agV (Nat.le_succ m) (Inv_grant h hc hk h12 h13 he) (fun th fo => wV_grant (sA_grant hc hk h12 h14 h13 he (fun d j hd _ => (i5 d j hd).2))) (fun th fo => ?_)
        rw [← gnE (wdE (fun a b ha hb hn q => ((Inv_mr (c := c) (k := k) h).2.2.2.2.2.2.1 a b k ha hb hn hk).1 q))]
        obtain ⟨t0, ht0, q0⟩ := (i5 0 (k % 2) (by decide)).2
        obtain ⟨t1, ht1, q1⟩ := (i5 1 (k % 2) (by decide)).2
        obtain ⟨t2, ht2, q2⟩ := (i5 2 (k % 2) (by decide)).2
        rcases (show c = 0 ∨ c = 1 ∨ c = 2 by omega) with rfl | rfl | rfl
        · exact sM_grant0 hk h12 h14 h13 he ht0 ht1 ht2 q0 q1 q2
        · exact sM_grant1 hk h12 h14 h13 he ht0 ht1 ht2 q0 q1 q2
        · exact sM_grant2 hk h12 h14 h13 he ht0 ht1 ht2 q0 q1 q2
  · exact agX (by decide) h (fun th fo => wX_grant0 (S' := S) (sX_grant hx)) (fun th fo => sY_grant hx)
set_option maxHeartbeats 4000000 in
set_option maxRecDepth 100000 in
theorem ag_fill {l : Launch} {G : zGP} {K m : Nat} {S : St} (h : Inv K S m) (hK4 : K ≤ 4) (hm : m < 1024) (x : Int32) : AgV l G K m S m_L_fill [.ref 0, .int x, .ref 65] m_M_fill [.ref 45, .int x] := by
  obtain ⟨i1, i2, i3, i4, i5, i6, i7, i8⟩ := id h
  by_cases hx : 0 ≤ x ∧ x < 3
  · obtain ⟨c, hc, rfl⟩ := toN (b := 3) rfl (by decide) hx.1 hx.2
    have hW := (i6 c hc).2
    by_cases h14 : S 14 c 0 = 0
    · exact agV (Nat.le_succ m) h (fun th fo => wV_fill (sA_fillN hc h14)) (fun th fo => sM_fillN hc h14)
    · obtain ⟨k, hk, h13⟩ := (i6 c hc).1
      refine agV (Nat.le_succ m) (Inv_fill h hc hk h14 h13) (fun th fo => wV_fill (sA_fill hc hk h14 h13)) (fun th fo => ?_)
      rw [← flE]
      rcases (show c = 0 ∨ c = 1 ∨ c = 2 by omega) with rfl | rfl | rfl
      · exact sM_fill0 hk h14 h13
      · exact sM_fill1 hk h14 h13
      · exact sM_fill2 hk h14 h13
  · exact agX (by decide) h (fun th fo => wX_fill0 (S' := S) (sX_fill hx)) (fun th fo => sY_fill hx)
set_option maxHeartbeats 4000000 in
set_option maxRecDepth 100000 in
theorem ag_register {l : Launch} {G : zGP} {K m : Nat} {S : St} (h : Inv K S m) (hK4 : K ≤ 4) (hm : m < 1024) (x r : Int32) : AgV l G K m S m_L_register [.ref 0, .int x, .int r, .ref 65] m_M_register [.ref 45, .int x, .int r] := by
  obtain ⟨i1, i2, i3, i4, i5, i6, i7, i8⟩ := id h
  by_cases hx : 0 ≤ x ∧ x < 3
  · obtain ⟨c, hc, rfl⟩ := toN (b := 3) rfl (by decide) hx.1 hx.2
    have hW := (i6 c hc).2
    by_cases hr : 0 ≤ r ∧ r < 4
    · obtain ⟨i, hi, rfl⟩ := toN (x := r) (b := 4) rfl (by decide) hr.1 hr.2
      exact agV (Nat.le_succ m) h (fun th fo => wV_register (sA_register hc hi)) (fun th fo => sM_register hc hi)
    · exact agX (by decide) h (fun th fo => wX_register1 (S' := S) (sA_registerX hc hr)) (fun th fo => sM_registerX hc hr)
  · exact agX (by decide) h (fun th fo => wX_register0 (S' := S) (sX_register hx)) (fun th fo => sY_register hx)
set_option maxHeartbeats 4000000 in
set_option maxRecDepth 100000 in
theorem ag_place {l : Launch} {G : zGP} {K m : Nat} {S : St} (h : Inv K S m) (hK4 : K ≤ 4) (hm : m < 1024) (x : Int32) : AgV l G K m S m_L_place [.ref 0, .int x, .ref 65] m_M_place [.ref 45, .int x] := by
  obtain ⟨i1, i2, i3, i4, i5, i6, i7, i8⟩ := id h
  by_cases hx : 0 ≤ x ∧ x < 3
  · obtain ⟨c, hc, rfl⟩ := toN (b := 3) rfl (by decide) hx.1 hx.2
    have hW := (i6 c hc).2
    exact agV (Nat.le_succ m) h (fun th fo => wV_place (sA_place hc)) (fun th fo => sM_place hc)
  · exact agX (by decide) h (fun th fo => wX_place0 (S' := S) (sX_place hx)) (fun th fo => sY_place hx)
set_option maxHeartbeats 4000000 in
set_option maxRecDepth 100000 in
theorem ag_buffered {l : Launch} {G : zGP} {K m : Nat} {S : St} (h : Inv K S m) (hK4 : K ≤ 4) (hm : m < 1024) (x : Int32) : AgV l G K m S m_L_buffered [.ref 0, .int x, .ref 65] m_M_buffered [.ref 45, .int x] := by
  obtain ⟨i1, i2, i3, i4, i5, i6, i7, i8⟩ := id h
  by_cases hx : 0 ≤ x ∧ x < 3
  · obtain ⟨c, hc, rfl⟩ := toN (b := 3) rfl (by decide) hx.1 hx.2
    have hW := (i6 c hc).2
    exact agV (Nat.le_succ m) h (fun th fo => wV_buffered (sA_buffered hc)) (fun th fo => sM_buffered hc)
  · exact agX (by decide) h (fun th fo => wX_buffered0 (S' := S) (sX_buffered hx)) (fun th fo => sY_buffered hx)
set_option maxHeartbeats 4000000 in
set_option maxRecDepth 100000 in
theorem ag_request {l : Launch} {G : zGP} {K m : Nat} {S : St} (h : Inv K S m) (hK4 : K ≤ 4) (hm : m < 1024) (x : Int32) : AgV l G K m S m_L_request [.ref 0, .int x, .ref 65] m_M_request [.ref 45, .int x] := by
  obtain ⟨i1, i2, i3, i4, i5, i6, i7, i8⟩ := id h
  by_cases hx : 0 ≤ x ∧ x < 3
  · obtain ⟨c, hc, rfl⟩ := toN (b := 3) rfl (by decide) hx.1 hx.2
    have hW := (i6 c hc).2
    exact agV (Nat.le_succ m) h (fun th fo => wV_request (sA_request hc)) (fun th fo => sM_request hc)
  · exact agX (by decide) h (fun th fo => wX_request0 (S' := S) (sX_request hx)) (fun th fo => sY_request hx)
set_option maxHeartbeats 4000000 in
set_option maxRecDepth 100000 in
theorem ag_storeAddress {l : Launch} {G : zGP} {K m : Nat} {S : St} (h : Inv K S m) (hK4 : K ≤ 4) (hm : m < 1024) (x i : Int32) : AgV l G K m S m_L_storeAddress [.ref 0, .int x, .int i, .ref 65] m_M_storeAddress [.ref 45, .int x, .int i] := by
  obtain ⟨i1, i2, i3, i4, i5, i6, i7, i8⟩ := id h
  by_cases hx : 0 ≤ x ∧ x < 3
  · obtain ⟨c, hc, rfl⟩ := toN (b := 3) rfl (by decide) hx.1 hx.2
    have hW := (i6 c hc).2
    obtain ⟨n, hn, h6⟩ := i3 c hc
    by_cases hi : 0 ≤ i ∧ i < S 6 c 0
    · obtain ⟨q, hq, rfl⟩ := toN (x := i) (b := n) h6 (by omega) hi.1 hi.2
      exact agV (Nat.le_succ m) h (fun th fo => wV_storeAddress (sA_storeAddress hc hq hn hK4 h6)) (fun th fo => sM_storeAddress hc hq (by omega) h6)
    · exact agX (by decide) h (fun th fo => wX_storeAddress1 (S' := S) (sA_storeAddressX hc hi)) (fun th fo => sM_storeAddressX hc hi)
  · exact agX (by decide) h (fun th fo => wX_storeAddress0 (S' := S) (sX_storeAddress hx)) (fun th fo => sY_storeAddress hx)
set_option maxHeartbeats 4000000 in
set_option maxRecDepth 100000 in
theorem ag_storeValue {l : Launch} {G : zGP} {K m : Nat} {S : St} (h : Inv K S m) (hK4 : K ≤ 4) (hm : m < 1024) (x i : Int32) : AgV l G K m S m_L_storeValue [.ref 0, .int x, .int i, .ref 65] m_M_storeValue [.ref 45, .int x, .int i] := by
  obtain ⟨i1, i2, i3, i4, i5, i6, i7, i8⟩ := id h
  by_cases hx : 0 ≤ x ∧ x < 3
  · obtain ⟨c, hc, rfl⟩ := toN (b := 3) rfl (by decide) hx.1 hx.2
    have hW := (i6 c hc).2
    obtain ⟨n, hn, h6⟩ := i3 c hc
    by_cases hi : 0 ≤ i ∧ i < S 6 c 0
    · obtain ⟨q, hq, rfl⟩ := toN (x := i) (b := n) h6 (by omega) hi.1 hi.2
      exact agV (Nat.le_succ m) h (fun th fo => wV_storeValue (sA_storeValue hc hq hn hK4 h6)) (fun th fo => sM_storeValue hc hq (by omega) h6)
    · exact agX (by decide) h (fun th fo => wX_storeValue1 (S' := S) (sA_storeValueX hc hi)) (fun th fo => sM_storeValueX hc hi)
  · exact agX (by decide) h (fun th fo => wX_storeValue0 (S' := S) (sX_storeValue hx)) (fun th fo => sY_storeValue hx)
set_option maxHeartbeats 4000000 in
set_option maxRecDepth 100000 in
theorem ag_line {l : Launch} {G : zGP} {K m : Nat} {S : St} (h : Inv K S m) (hK4 : K ≤ 4) (hm : m < 1024) (x i : Int32) : AgV l G K m S m_L_line [.ref 0, .int x, .int i, .ref 65] m_M_line [.ref 45, .int x, .int i] := by
  obtain ⟨i1, i2, i3, i4, i5, i6, i7, i8⟩ := id h
  by_cases hx : 0 ≤ x ∧ x < 3
  · obtain ⟨c, hc, rfl⟩ := toN (b := 3) rfl (by decide) hx.1 hx.2
    have hW := (i6 c hc).2
    by_cases hi : 0 ≤ i ∧ i < 2
    · obtain ⟨j, hj, rfl⟩ := toN (x := i) (b := 2) rfl (by decide) hi.1 hi.2
      refine agV (Nat.le_succ m) h (fun th fo => wV_line (sA_line hc hj)) (fun th fo => ?_)
      rcases (show j = 0 ∨ j = 1 by omega) with rfl | rfl
      · exact sM_line0 hc
      · exact sM_line1 hc
    · exact agX (by decide) h (fun th fo => wX_line1 (S' := S) (sA_lineX hc hi)) (fun th fo => sM_lineX hc hi)
  · exact agX (by decide) h (fun th fo => wX_line0 (S' := S) (sX_line hx)) (fun th fo => sY_line hx)
set_option maxHeartbeats 4000000 in
set_option maxRecDepth 100000 in
theorem ag_cached {l : Launch} {G : zGP} {K m : Nat} {S : St} (h : Inv K S m) (hK4 : K ≤ 4) (hm : m < 1024) (x a : Int32) : AgV l G K m S m_L_cached [.ref 0, .int x, .int a, .ref 65] m_M_cached [.ref 45, .int x, .int a] := by
  obtain ⟨i1, i2, i3, i4, i5, i6, i7, i8⟩ := id h
  by_cases hx : 0 ≤ x ∧ x < 3
  · obtain ⟨c, hc, rfl⟩ := toN (b := 3) rfl (by decide) hx.1 hx.2
    have hW := (i6 c hc).2
    by_cases ha : 0 ≤ a ∧ a < 8
    · obtain ⟨k, hk, rfl⟩ := toN (x := a) (b := 8) rfl (by decide) ha.1 ha.2
      by_cases hh : hasS S c k
      · exact agV (Nat.le_succ m) h (fun th fo => wV_cached (sA_cached hc hk hh)) (fun th fo => sM_cached hc hk hh)
      · exact agX (by decide) h (fun th fo => wX_cached2 (S' := S) (sA_cachedX2 hc hk hh)) (fun th fo => sM_cachedX2 hc hk hh)
    · exact agX (by decide) h (fun th fo => wX_cached1 (S' := S) (sA_cachedX1 hc ha)) (fun th fo => sM_cachedX1 hc ha)
  · exact agX (by decide) h (fun th fo => wX_cached0 (S' := S) (sX_cached hx)) (fun th fo => sY_cached hx)
set_option maxHeartbeats 4000000 in
set_option maxRecDepth 100000 in
theorem ag_memory {l : Launch} {G : zGP} {K m : Nat} {S : St} (h : Inv K S m) (hK4 : K ≤ 4) (hm : m < 1024) (x : Int32) : AgV l G K m S m_L_memory [.ref 0, .int x, .ref 65] m_M_memory [.ref 45, .int x] := by
  obtain ⟨i1, i2, i3, i4, i5, i6, i7, i8⟩ := id h
  by_cases hx : 0 ≤ x ∧ x < 8
  · obtain ⟨k, hk, rfl⟩ := toN (b := 8) rfl (by decide) hx.1 hx.2
    exact agV (Nat.le_succ m) h (fun th fo => wV_memory (sA_memory hk)) (fun th fo => sM_memory hk)
  · exact agX (by decide) h (fun th fo => wX_memory0 (S' := S) (sX_memory hx)) (fun th fo => sY_memory hx)
set_option maxHeartbeats 4000000 in
set_option maxRecDepth 100000 in
theorem ag_word {l : Launch} {G : zGP} {K m : Nat} {S : St} (h : Inv K S m) (hK4 : K ≤ 4) (hm : m < 1024) (x : Int32) : AgV l G K m S m_L_word [.ref 0, .int x, .ref 65] m_M_word [.ref 45, .int x] := by
  obtain ⟨i1, i2, i3, i4, i5, i6, i7, i8⟩ := id h
  by_cases hx : 0 ≤ x ∧ x < 8
  · obtain ⟨k, hk, rfl⟩ := toN (b := 8) rfl (by decide) hx.1 hx.2
    exact agV (Nat.le_succ m) h (fun th fo => wV_word (sA_word hk)) (fun th fo => by rw [← wdE (fun a b ha hb hn q => (i7 a b k ha hb hn hk).1 q)]; exact sM_word hk)
  · exact agX (by decide) h (fun th fo => wX_word0 (S' := S) (sX_word hx)) (fun th fo => sY_word hx)
set_option maxHeartbeats 4000000 in
set_option maxRecDepth 100000 in
theorem ag_event {l : Launch} {G : zGP} {K m : Nat} {S : St} (h : Inv K S m) (hK4 : K ≤ 4) (hm : m < 1024) (x : Int32) : AgV l G K m S m_L_event [.ref 0, .int x, .ref 65] m_M_event [.ref 45, .int x] := by
  obtain ⟨i1, i2, i3, i4, i5, i6, i7, i8⟩ := id h
  by_cases hx : 0 ≤ x ∧ x < S 17 0 0 ∧ S 17 0 0 - 40 ≤ x
  · obtain ⟨q, hq, rfl⟩ := nI_of (Int32.not_lt.mpr hx.1)
    exact agV (Nat.le_succ m) h (fun th fo => wV_event (sA_event hq hx)) (fun th fo => sM_event hq hx)
  · exact agX (by decide) h (fun th fo => wX_event0 (S' := S) (sX_event hx)) (fun th fo => sY_event hx)
set_option maxHeartbeats 4000000 in
set_option maxRecDepth 100000 in
theorem ag_eventValue {l : Launch} {G : zGP} {K m : Nat} {S : St} (h : Inv K S m) (hK4 : K ≤ 4) (hm : m < 1024) (x : Int32) : AgV l G K m S m_L_eventValue [.ref 0, .int x, .ref 65] m_M_eventValue [.ref 45, .int x] := by
  obtain ⟨i1, i2, i3, i4, i5, i6, i7, i8⟩ := id h
  by_cases hx : 0 ≤ x ∧ x < S 17 0 0 ∧ S 17 0 0 - 40 ≤ x
  · obtain ⟨q, hq, rfl⟩ := nI_of (Int32.not_lt.mpr hx.1)
    exact agV (Nat.le_succ m) h (fun th fo => wV_eventValue (sA_eventValue hq hx)) (fun th fo => sM_eventValue hq hx)
  · exact agX (by decide) h (fun th fo => wX_eventValue0 (S' := S) (sX_eventValue hx)) (fun th fo => sY_eventValue hx)
set_option maxHeartbeats 4000000 in
set_option maxRecDepth 100000 in
theorem ag_poke {l : Launch} {G : zGP} {K m : Nat} {S : St} (h : Inv K S m) (hK4 : K ≤ 4) (hm : m < 1024) (x v : Int32) : AgN l G K m S m_L_poke [.ref 0, .int x, .int v] m_M_poke [.ref 45, .int x, .int v] := by
  obtain ⟨i1, i2, i3, i4, i5, i6, i7, i8⟩ := id h
  intro th fo
  by_cases hx : 0 ≤ x ∧ x < 8
  · obtain ⟨k, hk, rfl⟩ := toN (b := 8) rfl (by decide) hx.1 hx.2
    by_cases hu : useS S k
    · exact ⟨S, fo, 2, m, Nat.le_succ m, h, wX_poke1 (S' := S) (sA_pokeX hk hu), sM_pokeX hk hu⟩
    · exact ⟨su S 16 0 k v, fo, 0, m, Nat.le_succ m, Inv_s h (by decide), wV_poke (sA_poke hk hu), sM_poke hk hu⟩
  · exact ⟨S, fo, 1, m, Nat.le_succ m, h, wX_poke0 (S' := S) (sX_poke1 hx), sY_poke hx⟩
