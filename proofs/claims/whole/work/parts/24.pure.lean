/-! ===== the two sides' states are equal ===== -/
theorem askE {S : St} {c : Nat} {k x : Int32} (h : S 12 c 0 = 0 → S 14 c 0 = 0) : askM S c k x = askS S c k x := by
  unfold askM askS
  by_cases h0 : S 12 c 0 = 0
  · rw [if_pos h0, if_pos h0]
    exact su_self _ (by rw [su_o _ _ (by decide), su_o _ _ (by decide)]; exact h h0)
  · rw [if_neg h0, if_neg h0]
theorem noteS_o (S : St) (n : Nat) (a b x v : Int32) {f : Nat} (h7 : f ≠ 17) (h8 : f ≠ 18) (h9 : f ≠ 19) : noteS S n a b x v f = S f := by
  unfold noteS; rw [su_o _ _ h7, su_o _ _ h9, su_o _ _ h8]
theorem askS_o (S : St) (c : Nat) (k x : Int32) {f : Nat} (h2 : f ≠ 12) (h3 : f ≠ 13) : askS S c k x f = S f := by
  unfold askS
  split
  · rw [su_o _ _ h3, su_o _ _ h2]
  · rfl
theorem plS0 (S : St) (c : Nat) : plS S c 0 = S := by
  unfold plS; rw [if_neg (by decide)]; exact su_self _ rfl
theorem plS1 (S : St) (c : Nat) : plS S c 1 = su S 5 c 0 (S 5 c 0 + 1) := by
  unfold plS; rw [if_pos rfl]
theorem ldE {S : St} {c a k n m : Nat} (h : S 12 c 0 = 0 → S 14 c 0 = 0) : plS (ldM S c a k n m) c (ldR S c k n) = ldS S c a k n m := by
  unfold ldM ldR ldS
  by_cases h0 : ldB S c k n
  · rw [if_pos h0, if_pos h0, if_pos h0, plS0, askE h]
  · rw [if_neg h0, if_neg h0, if_neg h0, plS1, noteS_o _ _ _ _ _ _ (by decide) (by decide) (by decide), su_o _ _ (by decide)]
theorem stE {S : St} {K c k n : Nat} {v : Int32} : plS (stM S K c k n v) c (stR K n) = stS S K c k n v := by
  unfold stM stR stS
  by_cases h0 : n = K
  · rw [if_pos h0, if_pos h0, if_pos h0, plS0]
  · rw [if_neg h0, if_neg h0, if_neg h0, plS1, su_o _ _ (by decide), su_o _ _ (by decide), su_o _ _ (by decide)]
theorem fnE {S : St} {c : Nat} : plS S c (fnR S c) = fnS S c := by
  unfold fnR fnS
  by_cases h0 : S 6 c 0 = 0
  · rw [if_pos h0, if_pos h0, plS1]
  · rw [if_neg h0, if_neg h0, plS0]
theorem swUE {S : St} {c k : Nat} {v : Int32} : swU S c k v = swT S c k v := by
  unfold swU swT
  by_cases h0 : S 11 c (k % 2) = S 0 c 3
  · rw [if_pos h0, if_pos h0, su_comm S (f := 11) (f' := 9) _ _ (fun q => absurd q.1 (by decide))]
  · rw [if_neg h0, if_neg h0]
theorem swT_o (S : St) (c k : Nat) (v : Int32) {f : Nat} (h0 : f ≠ 0) (h9 : f ≠ 9) (h1 : f ≠ 11) : swT S c k v f = S f := by
  unfold swT
  split
  · rw [su_o _ _ h0, su_o _ _ h1, su_o _ _ h9]
  · rw [su_o _ _ h0]
theorem swE {S : St} {c k m : Nat} {v : Int32} (h : S 12 c 0 = 0 → S 14 c 0 = 0) : plS (swM S c k m v) c (swR S c k) = swS S c k m v := by
  unfold swM swR swS
  by_cases h0 : ¬ S 6 c 0 = 0
  · rw [if_pos h0, if_pos h0, if_pos h0, plS0]
  · rw [if_neg h0, if_neg h0, if_neg h0]
    by_cases h1 : ownS S c k
    · rw [if_pos h1, if_pos h1, if_pos h1, plS1, swUE, noteS_o _ _ _ _ _ _ (by decide) (by decide) (by decide), swT_o _ _ _ _ (by decide) (by decide) (by decide)]
    · rw [if_neg h1, if_neg h1, if_neg h1, plS0, askE h]
theorem drE {S : St} {c k n m : Nat} : drM S c k n m = drS S c k n m := by
  unfold drM drS
  rw [su_comm S (f := 11) (f' := 9) _ _ (fun q => absurd q.1 (by decide))]
theorem gmE {S : St} {c k : Nat} : gmS S c k = mrS S c k := by
  unfold gmS mrS
  by_cases h : hasS S c k
  · rw [if_pos h, if_neg (fun q => q.2 h.2)]
  · rw [if_neg h]
    by_cases h0 : S 9 c (k % 2) = 0
    · rw [if_neg (fun q => q.1 h0)]
      have e : wbS S c (k % 2) = S := if_neg (fun q => absurd (h0.symm.trans q) (by decide))
      rw [e]
      exact (su_self _ h0).symm
    · rw [if_pos ⟨h0, fun q => h ⟨h0, q⟩⟩]
theorem wdAbs {A0 A1 A2 : Prop} [Decidable A0] [Decidable A1] [Decidable A2] {v0 v1 v2 m : Int32} (h01 : A0 → ¬ A1) (h02 : A0 → ¬ A2) (h12 : A1 → ¬ A2) :
    (if A2 then v2 else if A1 then v1 else if A0 then v0 else m) = (if A0 then v0 else if A1 then v1 else if A2 then v2 else m) := by
  by_cases a0 : A0
  · rw [if_neg (h02 a0), if_neg (h01 a0), if_pos a0, if_pos a0]
  · by_cases a1 : A1
    · rw [if_neg (h12 a1), if_pos a1, if_neg a0, if_pos a1]
    · by_cases a2 : A2
      · rw [if_pos a2, if_neg a0, if_neg a1, if_pos a2]
      · rw [if_neg a2, if_neg a1, if_neg a0, if_neg a0, if_neg a1, if_neg a2]
theorem ne13 {x : Int32} (h : x = 3) : ¬ x = 1 := fun q => absurd (h.symm.trans q) (by decide)
theorem wdE {S : St} {k : Nat} (h : ∀ c d, c < 3 → d < 3 → c ≠ d → ownS S c k → ¬ hasS S d k) : wdM S k = wdS S k :=
  wdAbs (fun a b => h 0 1 (by decide) (by decide) (by decide) ⟨a.1, ne13 a.2⟩ b.1) (fun a b => h 0 2 (by decide) (by decide) (by decide) ⟨a.1, ne13 a.2⟩ b.1) (fun a b => h 1 2 (by decide) (by decide) (by decide) ⟨a.1, ne13 a.2⟩ b.1)
theorem hasS_e {S S' : St} (h9 : S' 9 = S 9) (h10 : S' 10 = S 10) {c k : Nat} : hasS S' c k ↔ hasS S c k := by
  unfold hasS; rw [h9, h10]
theorem ownS_e {S S' : St} (h9 : S' 9 = S 9) (h10 : S' 10 = S 10) {c k : Nat} : ownS S' c k ↔ ownS S c k := by
  unfold ownS; rw [h9, h10]
theorem wb15 {S : St} {c d j : Nat} {v : Int32} : wbS (su S 15 c 0 v) d j = su (wbS S d j) 15 c 0 v := by
  have e9 : su S 15 c 0 v 9 = S 9 := su_o _ _ (by decide)
  have e10 : su S 15 c 0 v 10 = S 10 := su_o _ _ (by decide)
  have e11 : su S 15 c 0 v 11 = S 11 := su_o _ _ (by decide)
  unfold wbS
  by_cases h3 : S 9 d j = 3
  · rw [if_pos h3, if_pos (show su S 15 c 0 v 9 d j = 3 by rw [e9]; exact h3), e10, e11, su_comm S (f := 15) (f' := 16) _ _ (fun q => absurd q.1 (by decide))]
  · rw [if_neg h3, if_neg (show ¬ su S 15 c 0 v 9 d j = 3 by rw [e9]; exact h3)]
theorem gw15 {S : St} {c d k : Nat} {v kd : Int32} : gwS (su S 15 c 0 v) d k kd = su (gwS S d k kd) 15 c 0 v := by
  have e : hasS (su S 15 c 0 v) d k ↔ hasS S d k := hasS_e (su_o _ _ (by decide)) (su_o _ _ (by decide))
  unfold gwS
  by_cases h : hasS S d k
  · rw [if_pos h, if_pos (e.mpr h), wb15, su_comm _ (f := 15) (f' := 9) _ _ (fun q => absurd q.1 (by decide))]
  · rw [if_neg h, if_neg (mt e.mp h)]
theorem gnE {S : St} {c k : Nat} (h : wdM (mrS S c k) k = wdS (mrS S c k) k) : gnM S c k = gnS S c k := by
  unfold gnM gnS
  rw [gmE, h]
  unfold gr2
  split <;> rw [gw15, gw15, su_comm _ (f := 15) (f' := 14) _ _ (fun q => absurd q.1 (by decide))]
theorem flE {S : St} {c k : Nat} : flM S c k = flS S c k := by
  unfold flM flS
  rw [su_comm _ (f := 11) (f' := 9) _ _ (fun q => absurd q.1 (by decide)), su_comm _ (f := 10) (f' := 9) _ _ (fun q => absurd q.1 (by decide))]
