/-! ===== the invariant, second half ===== -/
theorem Inv_s {K : Nat} {S : St} {m f c j : Nat} {v : Int32} (h : Inv K S m) (hf : f = 0 ∨ f = 8 ∨ f = 11 ∨ f = 15 ∨ f = 16) : Inv K (su S f c j v) m :=
  Inv_f h (fun g h0 h5 h8 h11 h15 h16 h17 h18 h19 => su_o _ _ (by omega)) (iA_f h.2.1 (su_o _ _ (by omega))) (by rw [su_o _ _ (by omega)]; exact h.2.2.2.2.2.2.2)
theorem Inv_note {K : Nat} {S : St} {m n : Nat} {a b x v : Int32} (h : Inv K S m) : Inv K (noteS S n a b x v) (m + 1) :=
  Inv_f h (fun g h0 h5 h8 h11 h15 h16 h17 h18 h19 => noteS_o _ _ _ _ _ _ h17 h18 h19) (iA_f h.2.1 (noteS_o _ _ _ _ _ _ (by decide) (by decide) (by decide)))
    (by unfold noteS; rw [su_at, h.2.2.2.2.2.2.2, nI_1])
theorem Inv_5 {K : Nat} {S : St} {m c p : Nat} {v : Int32} (h : Inv K S m) (hp : p ≤ 16) (hv : v = nI p) : Inv K (su S 5 c 0 v) m :=
  Inv_f h (fun g h0 h5 h8 h11 h15 h16 h17 h18 h19 => su_o _ _ h5) (iA_su h.2.1 hp hv) (by rw [su_o _ _ (by decide)]; exact h.2.2.2.2.2.2.2)
theorem Inv_6 {K : Nat} {S : St} {m c n : Nat} {v : Int32} (h : Inv K S m) (hn : n ≤ K) (hv : v = nI n) : Inv K (su S 6 c 0 v) m := by
  obtain ⟨i1, i2, i3, i4, i5, i6, i7, i8⟩ := h
  exact ⟨iP_f i1 (su_o _ _ (by decide)) (su_o _ _ (by decide)) (su_o _ _ (by decide)) (su_o _ _ (by decide)), iA_f i2 (su_o _ _ (by decide)), iB_su i3 hn hv, iX_f i4 (su_o _ _ (by decide)), iL_f i5 (su_o _ _ (by decide)) (su_o _ _ (by decide)), iW_f i6 (su_o _ _ (by decide)) (su_o _ _ (by decide)) (su_o _ _ (by decide)), iC_f i7 (su_o _ _ (by decide)) (su_o _ _ (by decide)) (su_o _ _ (by decide)) (su_o _ _ (by decide)) (su_o _ _ (by decide)), by rw [su_o _ _ (by decide)]; exact i8⟩
theorem Inv_7 {K : Nat} {S : St} {m c j k : Nat} {v : Int32} (h : Inv K S m) (hk : k < 8) (hv : v = nI k) : Inv K (su S 7 c j v) m := by
  obtain ⟨i1, i2, i3, i4, i5, i6, i7, i8⟩ := h
  exact ⟨iP_f i1 (su_o _ _ (by decide)) (su_o _ _ (by decide)) (su_o _ _ (by decide)) (su_o _ _ (by decide)), iA_f i2 (su_o _ _ (by decide)), iB_f i3 (su_o _ _ (by decide)), iX_su i4 hk hv, iL_f i5 (su_o _ _ (by decide)) (su_o _ _ (by decide)), iW_f i6 (su_o _ _ (by decide)) (su_o _ _ (by decide)) (su_o _ _ (by decide)), iC_f i7 (su_o _ _ (by decide)) (su_o _ _ (by decide)) (su_o _ _ (by decide)) (su_o _ _ (by decide)) (su_o _ _ (by decide)), by rw [su_o _ _ (by decide)]; exact i8⟩
theorem Inv_sh {K : Nat} {S : St} {m c : Nat} (hc : c < 3) (h : Inv K S m) : ∀ n, Inv K (shS S c n) m
  | 0 => h
  | n + 1 => by
    have ih := Inv_sh hc h n
    obtain ⟨k, hk, e⟩ := ih.2.2.2.1 c (n + 1) hc
    unfold shS
    exact Inv_s (Inv_7 ih hk e) (by decide)
theorem Inv_rm {K : Nat} {S : St} {m c n : Nat} (hc : c < 3) (h : Inv K S m) (hn : n ≤ K) : Inv K (rmS S c n) m :=
  Inv_sh hc (Inv_6 h (by omega) rfl) _
/-- the state of one line changes, where nobody gets more by it -/
theorem Inv_9 {K : Nat} {S : St} {m c j s : Nat} {v : Int32} (h : Inv K S m) (hs : s < 4) (hv : v = nI s) (h0 : S 9 c j = 0 → v = 0) (h1 : S 9 c j = 0 ∨ S 9 c j = 1 → v = 0 ∨ v = 1) : Inv K (su S 9 c j v) m := by
  obtain ⟨i1, i2, i3, i4, i5, i6, i7, i8⟩ := h
  have e10 : su S 9 c j v 10 = S 10 := su_o _ _ (by decide)
  have hh : ∀ d x, hasS (su S 9 c j v) d x → hasS S d x := fun d x q => by
    refine ⟨?_, by rw [← e10]; exact q.2⟩
    by_cases w : d = c ∧ x % 2 = j
    · obtain ⟨rfl, rfl⟩ := w
      have q1 := q.1
      rw [su_at] at q1
      exact fun z => q1 (h0 z)
    · have q1 := q.1
      rw [su_ne _ _ (fun z => w z.2)] at q1
      exact q1
  refine ⟨iP_f i1 (su_o _ _ (by decide)) (su_o _ _ (by decide)) (su_o _ _ (by decide)) (su_o _ _ (by decide)), iA_f i2 (su_o _ _ (by decide)), iB_f i3 (su_o _ _ (by decide)), iX_f i4 (su_o _ _ (by decide)), iL_su9 i5 hs hv, iW_f i6 (su_o _ _ (by decide)) (su_o _ _ (by decide)) (su_o _ _ (by decide)), ?_, by rw [su_o _ _ (by decide)]; exact i8⟩
  refine iC_dec i7 (fun d x _ _ q => hh d x q) (fun d x _ _ q => ⟨hh d x q.1, ?_⟩) (fun d x _ _ f => ⟨(flyS_e (su_o _ _ (by decide)) (su_o _ _ (by decide))).mp f, by rw [su_o _ _ (by decide)]⟩)
  by_cases w : d = c ∧ x % 2 = j
  · obtain ⟨rfl, rfl⟩ := w
    have q1 := q.1.1
    have q2 := q.2
    rw [su_at] at q1 q2
    exact fun z => (h1 (Or.inr z)).elim q1 q2
  · have q2 := q.2
    rw [su_ne _ _ (fun z => w z.2)] at q2
    exact q2
theorem Inv_own {K : Nat} {S : St} {m c k : Nat} (h : Inv K S m) (ho : ownS S c k) : Inv K (su S 9 c (k % 2) 3) m :=
  Inv_9 h (s := 3) (by decide) rfl (fun z => absurd z ho.1.1) (fun z => z.elim (fun z => absurd z ho.1.1) (fun z => absurd z ho.2))
theorem Inv_drain {K : Nat} {S : St} {m c k n : Nat} (h : Inv K S m) (hc : c < 3) (hn : n ≤ K) (ho : ownS S c k) : Inv K (drS S c k n m) (m + 1) :=
  Inv_note (Inv_rm hc (Inv_s (Inv_own h ho) (by decide)) hn)
theorem Inv_ld {K : Nat} {S : St} {m c a k n p : Nat} (h : Inv K S m) (hc : c < 3) (hk : k < 8) (hp : p < 16) (h5 : S 5 c 0 = nI p) : ∃ m', m' ≤ m + 1 ∧ Inv K (ldS S c a k n m) m' := by
  unfold ldS
  by_cases h0 : ldB S c k n
  · rw [if_pos h0]; exact ⟨m, by omega, Inv_ask h hc hk (by decide)⟩
  · rw [if_neg h0]; exact ⟨m + 1, by omega, Inv_5 (Inv_note (Inv_s h (by decide))) (p := p + 1) (by omega) (by rw [h5, nI_1])⟩
theorem Inv_st {K : Nat} {S : St} {m c k n p : Nat} {v : Int32} (h : Inv K S m) (hk : k < 8) (hn : n ≤ K) (hp : p < 16) (h5 : S 5 c 0 = nI p) : Inv K (stS S K c k n v) m := by
  unfold stS
  by_cases h0 : n = K
  · rw [if_pos h0]; exact h
  · rw [if_neg h0]; exact Inv_5 (Inv_6 (Inv_s (Inv_7 h hk rfl) (by decide)) (n := n + 1) (by omega) (by rw [nI_1])) (p := p + 1) (by omega) (by rw [h5, nI_1])
theorem Inv_fn {K : Nat} {S : St} {m c p : Nat} (h : Inv K S m) (hp : p < 16) (h5 : S 5 c 0 = nI p) : Inv K (fnS S c) m := by
  unfold fnS
  by_cases h0 : S 6 c 0 = 0
  · rw [if_pos h0]; exact Inv_5 h (p := p + 1) (by omega) (by rw [h5, nI_1])
  · rw [if_neg h0]; exact h
theorem Inv_sw {K : Nat} {S : St} {m c k p : Nat} {v : Int32} (h : Inv K S m) (hc : c < 3) (hk : k < 8) (hp : p < 16) (h5 : S 5 c 0 = nI p) : ∃ m', m' ≤ m + 1 ∧ Inv K (swS S c k m v) m' := by
  unfold swS
  by_cases h0 : ¬ S 6 c 0 = 0
  · rw [if_pos h0]; exact ⟨m, by omega, h⟩
  · rw [if_neg h0]
    by_cases h1 : ownS S c k
    · rw [if_pos h1]
      refine ⟨m + 1, by omega, Inv_5 (Inv_note ?_) (p := p + 1) (by omega) (by rw [h5, nI_1])⟩
      unfold swT
      by_cases h2 : S 11 c (k % 2) = S 0 c 3
      · rw [if_pos h2]; exact Inv_s (Inv_s (Inv_own h h1) (by decide)) (by decide)
      · rw [if_neg h2]; exact Inv_s h (by decide)
    · rw [if_neg h1]; exact ⟨m, by omega, Inv_ask h hc hk (by decide)⟩
/-! grant -/
theorem Inv_wb {K : Nat} {S : St} {m c j : Nat} (h : Inv K S m) : Inv K (wbS S c j) m := by
  unfold wbS
  split
  · exact Inv_s h (by decide)
  · exact h
theorem Inv_mr {K : Nat} {S : St} {m c k : Nat} (h : Inv K S m) : Inv K (mrS S c k) m := by
  unfold mrS
  by_cases h0 : hasS S c k
  · rw [if_pos h0]; exact h
  · rw [if_neg h0]; exact Inv_9 (Inv_wb h) (s := 0) (by decide) rfl (fun _ => rfl) (fun _ => Or.inl rfl)
theorem Inv_gw {K : Nat} {S : St} {m c k : Nat} {kd : Int32} (h : Inv K S m) : Inv K (gwS S c k kd) m := by
  unfold gwS
  by_cases h0 : hasS S c k
  · rw [if_pos h0]
    by_cases h1 : kd = 1
    · rw [if_pos h1]; exact Inv_9 (Inv_wb h) (s := 1) (by decide) rfl (fun z => absurd z (by rw [wbS_o _ _ _ (by decide)]; exact h0.1)) (fun _ => Or.inr rfl)
    · rw [if_neg h1]; exact Inv_9 (Inv_wb h) (s := 0) (by decide) rfl (fun _ => rfl) (fun _ => Or.inl rfl)
  · rw [if_neg h0]; exact h
theorem gw_has {S : St} {c k : Nat} {kd : Int32} {d x : Nat} (q : hasS (gwS S c k kd) d x) : hasS S d x := by
  unfold gwS at q
  by_cases h0 : hasS S c k
  · rw [if_pos h0] at q
    obtain ⟨q1, q2⟩ := q
    rw [su_o _ _ (by decide), wbS_o _ _ _ (by decide)] at q2
    refine ⟨?_, q2⟩
    by_cases w : d = c ∧ x % 2 = k % 2
    · rw [w.1, w.2]; exact h0.1
    · rw [su_ne _ _ (fun z => w z.2), wbS_o _ _ _ (by decide)] at q1
      exact q1
  · rw [if_neg h0] at q; exact q
theorem gw_own {S : St} {c k : Nat} {kd : Int32} {d x : Nat} (q : ownS (gwS S c k kd) d x) : ownS S d x := by
  refine ⟨gw_has q.1, ?_⟩
  unfold gwS at q
  by_cases h0 : hasS S c k
  · rw [if_pos h0] at q
    obtain ⟨⟨q1, -⟩, q2⟩ := q
    by_cases w : d = c ∧ x % 2 = k % 2
    · obtain ⟨rfl, w⟩ := w
      rw [w, su_at] at q1 q2
      by_cases h1 : kd = 1
      · rw [if_pos h1] at q2; exact absurd rfl q2
      · rw [if_neg h1] at q1; exact absurd rfl q1
    · rw [su_ne _ _ (fun z => w z.2), wbS_o _ _ _ (by decide)] at q2
      exact q2
  · rw [if_neg h0] at q; exact q.2
theorem gw_at {S : St} {c k : Nat} {kd : Int32} : ¬ ownS (gwS S c k kd) c k ∧ (kd = 2 → ¬ hasS (gwS S c k kd) c k) := by
  unfold gwS
  by_cases h0 : hasS S c k
  · rw [if_pos h0]
    refine ⟨fun q => ?_, fun e q => ?_⟩
    · obtain ⟨⟨q1, -⟩, q2⟩ := q
      rw [su_at] at q1 q2
      by_cases h1 : kd = 1
      · rw [if_pos h1] at q2; exact absurd rfl q2
      · rw [if_neg h1] at q1; exact absurd rfl q1
    · obtain ⟨q1, -⟩ := q
      rw [su_at, if_neg (by rw [e]; decide)] at q1
      exact absurd rfl q1
  · rw [if_neg h0]
    exact ⟨fun q => h0 q.1, fun _ q => h0 q⟩
theorem gr2_at {S : St} {c k : Nat} {kd : Int32} (hc : c < 3) {d : Nat} (hd : d < 3) (hn : d ≠ c) : ¬ ownS (gr2 S c k kd) d k ∧ (kd = 2 → ¬ hasS (gr2 S c k kd) d k) := by
  rcases (show c = 0 ∨ c = 1 ∨ c = 2 by omega) with rfl | rfl | rfl <;> rcases (show d = 0 ∨ d = 1 ∨ d = 2 by omega) with rfl | rfl | rfl <;>
    first
    | exact absurd rfl hn
    | exact gw_at
    | exact ⟨fun q => gw_at.1 (gw_own q), fun e q => gw_at.2 e (gw_has q)⟩
theorem Inv_gr2 {K : Nat} {S : St} {m c k : Nat} {kd : Int32} (h : Inv K S m) : Inv K (gr2 S c k kd) m := by
  unfold gr2
  split <;> exact Inv_gw (Inv_gw h)
theorem gr2_o {S : St} {c k : Nat} {kd : Int32} {f : Nat} (h9 : f ≠ 9) (h : f ≠ 16) : gr2 S c k kd f = S f := by
  unfold gr2
  split <;> rw [gwS_o _ _ _ _ h9 h, gwS_o _ _ _ _ h9 h]
theorem elF_not {S : St} {c k : Nat} (h : ¬ elF S c k) {d : Nat} (hd : d < 3) (hn : d ≠ c) : ¬ flyS S d k := fun q => by
  rcases (show d = 0 ∨ d = 1 ∨ d = 2 by omega) with rfl | rfl | rfl
  · exact h (Or.inl ⟨hn, q⟩)
  · exact h (Or.inr (Or.inl ⟨hn, q⟩))
  · exact h (Or.inr (Or.inr ⟨hn, q⟩))
theorem Inv_grant {K : Nat} {S : St} {m c k : Nat} (h : Inv K S m) (hc : c < 3) (hk : k < 8) (h12 : ¬ S 12 c 0 = 0) (h13 : S 13 c 0 = nI k) (he : ¬ elF S c k) : Inv K (gnS S c k) m := by
  unfold gnS
  refine Inv_s ?_ (by decide)
  have e : ∀ f, f ≠ 9 → f ≠ 16 → gr2 (mrS S c k) c k (S 12 c 0) f = S f := fun f a b => by rw [gr2_o a b, mrS_o _ _ _ a b]
  have A := fun (d : Nat) (hd : d < 3) (hn : d ≠ c) => gr2_at (S := mrS S c k) (k := k) (kd := S 12 c 0) hc hd hn
  obtain ⟨i1, i2, i3, i4, i5, i6, i7, i8⟩ := Inv_gr2 (c := c) (k := k) (kd := S 12 c 0) (Inv_mr (c := c) (k := k) h)
  have E12 := e 12 (by decide) (by decide)
  have E13 := e 13 (by decide) (by decide)
  have E14 := e 14 (by decide) (by decide)
  generalize gr2 (mrS S c k) c k (S 12 c 0) = Y at *
  have F : ∀ f, f ≠ 14 → su Y 14 c 0 1 f = Y f := fun f a => su_o _ _ a
  refine ⟨iP_f i1 (F _ (by decide)) (F _ (by decide)) (F _ (by decide)) (F _ (by decide)), iA_f i2 (F _ (by decide)), iB_f i3 (F _ (by decide)), iX_f i4 (F _ (by decide)), iL_f i5 (F _ (by decide)) (F _ (by decide)), ?_, ?_, by rw [F 17 (by decide)]; exact i8⟩
  · intro d hd
    rw [F 13 (by decide), F 12 (by decide)]
    refine ⟨(i6 d hd).1, fun z => ?_⟩
    by_cases q : d = c
    · subst q; rw [E12] at z; exact absurd z h12
    · rw [su_ne _ _ (fun w => q w.2.1)]; exact (i6 d hd).2 z
  · intro a b x ha hb hn hx
    have hH : ∀ d x, hasS (su Y 14 c 0 1) d x ↔ hasS Y d x := fun d x => hasS_e (F 9 (by decide)) (F 10 (by decide))
    have hO : ∀ d x, ownS (su Y 14 c 0 1) d x ↔ ownS Y d x := fun d x => ownS_e (F 9 (by decide)) (F 10 (by decide))
    have hF : ∀ d x, d ≠ c → (flyS (su Y 14 c 0 1) d x ↔ flyS Y d x) := fun d x q => by
      unfold flyS; rw [su_ne _ _ (fun w => q w.2.1), F 13 (by decide)]
    have hX : ∀ x, x < 8 → flyS (su Y 14 c 0 1) c x → x = k := fun x hx q => by
      have q2 := q.2
      rw [F 13 (by decide), E13, h13] at q2
      exact (nInj (by omega) (by omega) q2).symm
    have hN : ∀ d, d < 3 → d ≠ c → ¬ flyS Y d k := fun d hd q z => elF_not he hd q ((flyS_e E13 E14).mp z)
    obtain ⟨a1, a2, a3, a4⟩ := i7 a b x ha hb hn hx
    rw [hH, hO, hO, F 12 (by decide)]
    by_cases q : a = c
    · subst q
      refine ⟨a1, fun f z => ?_, fun f => ?_, fun f g => ?_⟩
      · obtain rfl := hX x hx f
        rw [E12] at z
        exact (A b hb hn.symm).2 z
      · obtain rfl := hX x hx f
        exact (A b hb hn.symm).1
      · obtain rfl := hX x hx f
        exact hN b hb hn.symm ((hF b _ hn.symm).mp g)
    · rw [hF a x q]
      refine ⟨a1, a2, a3, fun f g => ?_⟩
      by_cases r : b = c
      · subst r
        obtain rfl := hX x hx g
        exact hN a ha q f
      · exact a4 f ((hF b x r).mp g)
/-! fill -/
theorem Inv_fill {K : Nat} {S : St} {m c k : Nat} (h : Inv K S m) (hc : c < 3) (hk : k < 8) (h14 : ¬ S 14 c 0 = 0) (h13 : S 13 c 0 = nI k) : Inv K (flS S c k) m := by
  have hfl : flyS S c k := ⟨h14, h13⟩
  have T12 : flT S c k = 1 ∨ flT S c k = 2 := by
    unfold flT; split
    · exact Or.inr rfl
    · exact Or.inl rfl
  have e9 : ∀ d j, ¬ (d = c ∧ j = k % 2) → flS S c k 9 d j = S 9 d j := fun d j w => by
    unfold flS; rw [su_o _ _ (by decide), su_o _ _ (by decide), su_o _ _ (by decide), su_o _ _ (by decide), su_ne _ _ (fun z => w z.2)]
  have e10 : ∀ d j, ¬ (d = c ∧ j = k % 2) → flS S c k 10 d j = S 10 d j := fun d j w => by
    unfold flS; rw [su_o _ _ (by decide), su_o _ _ (by decide), su_o _ _ (by decide), su_ne _ _ (fun z => w z.2), su_o _ _ (by decide)]
  have g9 : flS S c k 9 c (k % 2) = flT S c k := by
    unfold flS; rw [su_o _ _ (by decide), su_o _ _ (by decide), su_o _ _ (by decide), su_o _ _ (by decide), su_at]
  have g10 : flS S c k 10 c (k % 2) = nI k := by
    unfold flS; rw [su_o _ _ (by decide), su_o _ _ (by decide), su_o _ _ (by decide), su_at]
  have g14 : flS S c k 14 c 0 = 0 := by unfold flS; rw [su_at]
  have e14 : ∀ d, d ≠ c → flS S c k 14 d 0 = S 14 d 0 := fun d w => by
    unfold flS; rw [su_ne _ _ (fun z => w z.2.1), su_o _ _ (by decide), su_o _ _ (by decide), su_o _ _ (by decide), su_o _ _ (by decide)]
  have e12 : ∀ d, d ≠ c → flS S c k 12 d 0 = S 12 d 0 := fun d w => by
    unfold flS; rw [su_o _ _ (by decide), su_ne _ _ (fun z => w z.2.1), su_o _ _ (by decide), su_o _ _ (by decide), su_o _ _ (by decide)]
  have F : ∀ f, f ≠ 9 → f ≠ 10 → f ≠ 11 → f ≠ 12 → f ≠ 14 → flS S c k f = S f := fun f a1 a2 a3 a4 a5 => by
    unfold flS; rw [su_o _ _ a5, su_o _ _ a4, su_o _ _ a3, su_o _ _ a2, su_o _ _ a1]
  obtain ⟨i1, i2, i3, i4, i5, i6, i7, i8⟩ := h
  have hF : ∀ d x, flyS (flS S c k) d x → d ≠ c ∧ flyS S d x := fun d x q => by
    by_cases w : d = c
    · subst w; exact absurd g14 q.1
    · refine ⟨w, by rw [← e14 d w]; exact q.1, ?_⟩
      have q2 := q.2
      rw [F 13 (by decide) (by decide) (by decide) (by decide) (by decide)] at q2
      exact q2
  have hX : ∀ x, x < 8 → flS S c k 10 c (k % 2) = nI x → x = k := fun x hx q => (nInj (by omega) (by omega) (g10.symm.trans q)).symm
  have hH : ∀ d x, x < 8 → hasS (flS S c k) d x → (d = c ∧ x = k) ∨ hasS S d x := fun d x hx q => by
    by_cases w : d = c ∧ x % 2 = k % 2
    · obtain ⟨rfl, w⟩ := w
      refine Or.inl ⟨rfl, hX x hx ?_⟩
      rw [← w]; exact q.2
    · refine Or.inr ⟨?_, ?_⟩
      · rw [← e9 d _ w]; exact q.1
      · rw [← e10 d _ w]; exact q.2
  have hO : ∀ d x, x < 8 → ownS (flS S c k) d x → (d = c ∧ x = k ∧ flT S c k = 2) ∨ ownS S d x := fun d x hx q => by
    by_cases w : d = c ∧ x % 2 = k % 2
    · obtain ⟨rfl, w⟩ := w
      refine Or.inl ⟨rfl, hX x hx (by rw [← w]; exact q.1.2), ?_⟩
      have q2 := q.2
      rw [w, g9] at q2
      exact T12.resolve_left q2
    · refine Or.inr ⟨⟨?_, ?_⟩, ?_⟩
      · rw [← e9 d _ w]; exact q.1.1
      · rw [← e10 d _ w]; exact q.1.2
      · rw [← e9 d _ w]; exact q.2
  refine ⟨iP_f i1 (F _ (by decide) (by decide) (by decide) (by decide) (by decide)) (F _ (by decide) (by decide) (by decide) (by decide) (by decide)) (F _ (by decide) (by decide) (by decide) (by decide) (by decide)) (F _ (by decide) (by decide) (by decide) (by decide) (by decide)), iA_f i2 (F _ (by decide) (by decide) (by decide) (by decide) (by decide)), iB_f i3 (F _ (by decide) (by decide) (by decide) (by decide) (by decide)), iX_f i4 (F _ (by decide) (by decide) (by decide) (by decide) (by decide)), ?_, ?_, ?_, by rw [F 17 (by decide) (by decide) (by decide) (by decide) (by decide)]; exact i8⟩
  · intro d j hd
    by_cases w : d = c ∧ j = k % 2
    · obtain ⟨rfl, rfl⟩ := w
      refine ⟨?_, k, hk, g10⟩
      rcases T12 with q | q
      · exact ⟨1, by decide, g9.trans q⟩
      · exact ⟨2, by decide, g9.trans q⟩
    · rw [e9 d j w, e10 d j w]; exact i5 d j hd
  · intro d hd
    rw [F 13 (by decide) (by decide) (by decide) (by decide) (by decide)]
    by_cases w : d = c
    · subst w; exact ⟨(i6 d hd).1, fun _ => g14⟩
    · rw [e12 d w, e14 d w]; exact i6 d hd
  · intro a b x ha hb hn hx
    obtain ⟨a1, a2, a3, a4⟩ := i7 a b x ha hb hn hx
    refine ⟨fun o q => ?_, fun f z q => ?_, fun f q => ?_, fun f q => ?_⟩
    · rcases hO a x hx o with ⟨rfl, rfl, t2⟩ | o'
      · rcases hH b x hx q with ⟨w, -⟩ | q'
        · exact hn w.symm
        · by_cases z : S 12 a 0 = 2
          · exact a2 hfl z q'
          · have ne : ¬ elH S a x := fun y => absurd (t2.symm.trans (if_neg (fun w => w.elim z (fun w => w y)))) (by decide)
            rcases (show b = 0 ∨ b = 1 ∨ b = 2 by omega) with rfl | rfl | rfl
            · exact ne (Or.inl ⟨hn.symm, q'⟩)
            · exact ne (Or.inr (Or.inl ⟨hn.symm, q'⟩))
            · exact ne (Or.inr (Or.inr ⟨hn.symm, q'⟩))
      · rcases hH b x hx q with ⟨rfl, rfl⟩ | q'
        · exact (i7 b a x hb ha hn.symm hx).2.2.1 hfl o'
        · exact a1 o' q'
    · obtain ⟨w, f'⟩ := hF a x f
      rw [e12 a w] at z
      rcases hH b x hx q with ⟨rfl, rfl⟩ | q'
      · exact a4 f' hfl
      · exact a2 f' z q'
    · obtain ⟨w, f'⟩ := hF a x f
      rcases hO b x hx q with ⟨rfl, rfl, -⟩ | q'
      · exact a4 f' hfl
      · exact a3 f' q'
    · exact a4 (hF a x f).2 (hF b x q).2
