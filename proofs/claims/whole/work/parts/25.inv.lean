/-! ===== the invariant ===== -/
theorem nInj {a b : Nat} (ha : a < 2 ^ 31) (hb : b < 2 ^ 31) (h : nI a = nI b) : a = b := by
  have h1 := congrArg Int32.toNatClampNeg h
  rwa [nI_clamp ha, nI_clamp hb] at h1
def iP (S : St) : Prop := ∀ c, c < 3 → ∃ q, q ≤ 16 ∧ S 1 c 0 = nI q ∧ ∀ i, i < q → ∃ op, op < 8 ∧ S 2 c i = nI op ∧ vB op (S 3 c i) (S 4 c i) = true
def iA (S : St) : Prop := ∀ c, c < 3 → ∃ p, p ≤ 16 ∧ S 5 c 0 = nI p
def iB (K : Nat) (S : St) : Prop := ∀ c, c < 3 → ∃ n, n ≤ K ∧ S 6 c 0 = nI n
def iX (S : St) : Prop := ∀ c j, c < 3 → ∃ k, k < 8 ∧ S 7 c j = nI k
def iL (S : St) : Prop := ∀ c j, c < 3 → (∃ s, s < 4 ∧ S 9 c j = nI s) ∧ ∃ t, t < 8 ∧ S 10 c j = nI t
def iW (S : St) : Prop := ∀ c, c < 3 → (∃ k, k < 8 ∧ S 13 c 0 = nI k) ∧ (S 12 c 0 = 0 → S 14 c 0 = 0)
def iC (S : St) : Prop := ∀ c d x, c < 3 → d < 3 → c ≠ d → x < 8 → (ownS S c x → ¬ hasS S d x) ∧ (flyS S c x → S 12 c 0 = 2 → ¬ hasS S d x) ∧ (flyS S c x → ¬ ownS S d x) ∧ (flyS S c x → ¬ flyS S d x)
def Inv (K : Nat) (S : St) (m : Nat) : Prop := iP S ∧ iA S ∧ iB K S ∧ iX S ∧ iL S ∧ iW S ∧ iC S ∧ S 17 0 0 = nI m
theorem iP_f {S S' : St} (h : iP S) (e1 : S' 1 = S 1) (e2 : S' 2 = S 2) (e3 : S' 3 = S 3) (e4 : S' 4 = S 4) : iP S' := by
  unfold iP; rw [e1, e2, e3, e4]; exact h
theorem iA_f {S S' : St} (h : iA S) (e : S' 5 = S 5) : iA S' := by
  unfold iA; rw [e]; exact h
theorem iB_f {K : Nat} {S S' : St} (h : iB K S) (e : S' 6 = S 6) : iB K S' := by
  unfold iB; rw [e]; exact h
theorem iX_f {S S' : St} (h : iX S) (e : S' 7 = S 7) : iX S' := by
  unfold iX; rw [e]; exact h
theorem iL_f {S S' : St} (h : iL S) (e9 : S' 9 = S 9) (e10 : S' 10 = S 10) : iL S' := by
  unfold iL; rw [e9, e10]; exact h
theorem iW_f {S S' : St} (h : iW S) (e2 : S' 12 = S 12) (e3 : S' 13 = S 13) (e4 : S' 14 = S 14) : iW S' := by
  unfold iW; rw [e2, e3, e4]; exact h
theorem flyS_e {S S' : St} (h3 : S' 13 = S 13) (h4 : S' 14 = S 14) {c k : Nat} : flyS S' c k ↔ flyS S c k := by
  unfold flyS; rw [h3, h4]
theorem iC_dec {S S' : St} (h : iC S) (hh : ∀ c x, c < 3 → x < 8 → hasS S' c x → hasS S c x) (ho : ∀ c x, c < 3 → x < 8 → ownS S' c x → ownS S c x) (hf : ∀ c x, c < 3 → x < 8 → flyS S' c x → flyS S c x ∧ S' 12 c 0 = S 12 c 0) : iC S' := by
  intro c d x hc hd hn hx
  obtain ⟨a1, a2, a3, a4⟩ := h c d x hc hd hn hx
  refine ⟨fun o q => a1 (ho c x hc hx o) (hh d x hd hx q), fun f e q => ?_, fun f q => a3 (hf c x hc hx f).1 (ho d x hd hx q), fun f q => a4 (hf c x hc hx f).1 (hf d x hd hx q).1⟩
  obtain ⟨f1, f2⟩ := hf c x hc hx f
  exact a2 f1 (f2 ▸ e) (hh d x hd hx q)
theorem iC_f {S S' : St} (h : iC S) (e9 : S' 9 = S 9) (e10 : S' 10 = S 10) (e2 : S' 12 = S 12) (e3 : S' 13 = S 13) (e4 : S' 14 = S 14) : iC S' :=
  iC_dec h (fun _ _ _ _ q => (hasS_e e9 e10).mp q) (fun _ _ _ _ q => (ownS_e e9 e10).mp q) (fun c _ _ _ q => ⟨(flyS_e e3 e4).mp q, by rw [e2]⟩)
/-- nothing but registers, places, values, memory and the log has changed -/
theorem Inv_f {K : Nat} {S S' : St} {m m' : Nat} (h : Inv K S m) (e : ∀ f, f ≠ 0 → f ≠ 5 → f ≠ 8 → f ≠ 11 → f ≠ 15 → f ≠ 16 → f ≠ 17 → f ≠ 18 → f ≠ 19 → S' f = S f) (hA : iA S') (h17 : S' 17 0 0 = nI m') : Inv K S' m' := by
  obtain ⟨a, b, c, d, f, g, i, _⟩ := h
  have E : ∀ f, (f = 1 ∨ f = 2 ∨ f = 3 ∨ f = 4 ∨ f = 6 ∨ f = 7 ∨ f = 9 ∨ f = 10 ∨ f = 12 ∨ f = 13 ∨ f = 14) → S' f = S f := fun f q => e f (by omega) (by omega) (by omega) (by omega) (by omega) (by omega) (by omega) (by omega) (by omega)
  exact ⟨iP_f a (E 1 (by omega)) (E 2 (by omega)) (E 3 (by omega)) (E 4 (by omega)), hA, iB_f c (E 6 (by omega)), iX_f d (E 7 (by omega)), iL_f f (E 9 (by omega)) (E 10 (by omega)), iW_f g (E 12 (by omega)) (E 13 (by omega)) (E 14 (by omega)), iC_f i (E 9 (by omega)) (E 10 (by omega)) (E 12 (by omega)) (E 13 (by omega)) (E 14 (by omega)), h17⟩
theorem iA_su {S : St} {c p : Nat} {v : Int32} (h : iA S) (hp : p ≤ 16) (hv : v = nI p) : iA (su S 5 c 0 v) := by
  intro d hd
  by_cases q : d = c
  · subst q; exact ⟨p, hp, by rw [su_at, hv]⟩
  · obtain ⟨p', a, b⟩ := h d hd
    exact ⟨p', a, by rw [su_ne _ _ (fun z => q z.2.1)]; exact b⟩
theorem iB_su {K : Nat} {S : St} {c n : Nat} {v : Int32} (h : iB K S) (hn : n ≤ K) (hv : v = nI n) : iB K (su S 6 c 0 v) := by
  intro d hd
  by_cases q : d = c
  · subst q; exact ⟨n, hn, by rw [su_at, hv]⟩
  · obtain ⟨p', a, b⟩ := h d hd
    exact ⟨p', a, by rw [su_ne _ _ (fun z => q z.2.1)]; exact b⟩
theorem iX_su {S : St} {c j k : Nat} {v : Int32} (h : iX S) (hk : k < 8) (hv : v = nI k) : iX (su S 7 c j v) := by
  intro d i hd
  by_cases q : d = c ∧ i = j
  · obtain ⟨rfl, rfl⟩ := q; exact ⟨k, hk, by rw [su_at, hv]⟩
  · obtain ⟨p', a, b⟩ := h d i hd
    exact ⟨p', a, by rw [su_ne _ _ (fun z => q z.2)]; exact b⟩
theorem iX_sh {S : St} {c : Nat} (hc : c < 3) (h : iX S) : ∀ m, iX (shS S c m)
  | 0 => h
  | m + 1 => by
    have ih := iX_sh hc h m
    obtain ⟨k, hk, e⟩ := ih c (m + 1) hc
    unfold shS
    exact iX_f (iX_su ih hk e) (su_o _ _ (by decide))
theorem iL_su9 {S : St} {c j s : Nat} {v : Int32} (h : iL S) (hs : s < 4) (hv : v = nI s) : iL (su S 9 c j v) := by
  intro d i hd
  obtain ⟨⟨s', a, b⟩, t, a2, b2⟩ := h d i hd
  refine ⟨?_, t, a2, by rw [su_o _ _ (by decide)]; exact b2⟩
  by_cases q : d = c ∧ i = j
  · obtain ⟨rfl, rfl⟩ := q; exact ⟨s, hs, by rw [su_at, hv]⟩
  · exact ⟨s', a, by rw [su_ne _ _ (fun z => q z.2)]; exact b⟩
theorem iL_su10 {S : St} {c j s : Nat} {v : Int32} (h : iL S) (hs : s < 8) (hv : v = nI s) : iL (su S 10 c j v) := by
  intro d i hd
  obtain ⟨⟨s', a, b⟩, t, a2, b2⟩ := h d i hd
  refine ⟨⟨s', a, by rw [su_o _ _ (by decide)]; exact b⟩, ?_⟩
  by_cases q : d = c ∧ i = j
  · obtain ⟨rfl, rfl⟩ := q; exact ⟨s, hs, by rw [su_at, hv]⟩
  · exact ⟨t, a2, by rw [su_ne _ _ (fun z => q z.2)]; exact b2⟩
/-! the program -/
theorem iP_code {S : St} {c q op : Nat} {a b : Int32} (h : iP S) (hq : q < 16) (h1 : S 1 c 0 = nI q) (ho : op < 8) (hv : vB op a b = true) : iP (su (su (su (su S 2 c q (nI op)) 3 c q a) 4 c q b) 1 c 0 (nI q + 1)) := by
  have e2 : (su (su (su (su S 2 c q (nI op)) 3 c q a) 4 c q b) 1 c 0 (nI q + 1)) 2 = su S 2 c q (nI op) 2 := by rw [su_o _ _ (by decide), su_o _ _ (by decide), su_o _ _ (by decide)]
  have e3 : (su (su (su (su S 2 c q (nI op)) 3 c q a) 4 c q b) 1 c 0 (nI q + 1)) 3 = su (su S 2 c q (nI op)) 3 c q a 3 := by rw [su_o _ _ (by decide), su_o _ _ (by decide)]
  have e4 : (su (su (su (su S 2 c q (nI op)) 3 c q a) 4 c q b) 1 c 0 (nI q + 1)) 4 = su (su (su S 2 c q (nI op)) 3 c q a) 4 c q b 4 := by rw [su_o _ _ (by decide)]
  have f2 : ∀ d i, ¬ (d = c ∧ i = q) → (su (su (su (su S 2 c q (nI op)) 3 c q a) 4 c q b) 1 c 0 (nI q + 1)) 2 d i = S 2 d i := fun d i w => by rw [e2, su_ne _ _ (fun z => w z.2)]
  have f3 : ∀ d i, ¬ (d = c ∧ i = q) → (su (su (su (su S 2 c q (nI op)) 3 c q a) 4 c q b) 1 c 0 (nI q + 1)) 3 d i = S 3 d i := fun d i w => by rw [e3, su_ne _ _ (fun z => w z.2), su_o _ _ (by decide)]
  have f4 : ∀ d i, ¬ (d = c ∧ i = q) → (su (su (su (su S 2 c q (nI op)) 3 c q a) 4 c q b) 1 c 0 (nI q + 1)) 4 d i = S 4 d i := fun d i w => by rw [e4, su_ne _ _ (fun z => w z.2), su_o _ _ (by decide), su_o _ _ (by decide)]
  intro d hd
  by_cases z : d = c
  · subst z
    refine ⟨q + 1, by omega, by rw [su_at, nI_1], fun i hi => ?_⟩
    by_cases y : i = q
    · subst y
      exact ⟨op, ho, by rw [e2, su_at], by rw [e3, e4, su_at, su_at]; exact hv⟩
    · obtain ⟨q', hq16, hq', hh⟩ := h d hd
      have hqq : q' = q := nInj (by omega) (by omega) (hq'.symm.trans h1)
      obtain ⟨o, x1, x2, x3⟩ := hh i (by omega)
      exact ⟨o, x1, (f2 d i (fun w => y w.2)).trans x2, by rw [f3 d i (fun w => y w.2), f4 d i (fun w => y w.2)]; exact x3⟩
  · obtain ⟨q', a', b', hh⟩ := h d hd
    refine ⟨q', a', by rw [su_ne _ _ (fun w => z w.2.1), su_o _ _ (by decide), su_o _ _ (by decide), su_o _ _ (by decide)]; exact b', fun i hi => ?_⟩
    obtain ⟨o, x1, x2, x3⟩ := hh i hi
    exact ⟨o, x1, (f2 d i (fun w => z w.1)).trans x2, by rw [f3 d i (fun w => z w.1), f4 d i (fun w => z w.1)]; exact x3⟩
theorem Inv_code {K : Nat} {S : St} {c q op m : Nat} {a b : Int32} (h : Inv K S m) (hq : q < 16) (h1 : S 1 c 0 = nI q) (ho : op < 8) (hv : vB op a b = true) : Inv K (su (su (su (su S 2 c q (nI op)) 3 c q a) 4 c q b) 1 c 0 (nI q + 1)) m := by
  have E : ∀ f, f ≠ 1 → f ≠ 2 → f ≠ 3 → f ≠ 4 → (su (su (su (su S 2 c q (nI op)) 3 c q a) 4 c q b) 1 c 0 (nI q + 1)) f = S f := fun f p1 p2 p3 p4 => by rw [su_o _ _ p1, su_o _ _ p4, su_o _ _ p3, su_o _ _ p2]
  obtain ⟨i1, i2, i3, i4, i5, i6, i7, i8⟩ := h
  exact ⟨iP_code i1 hq h1 ho hv, iA_f i2 (E 5 (by decide) (by decide) (by decide) (by decide)), iB_f i3 (E 6 (by decide) (by decide) (by decide) (by decide)), iX_f i4 (E 7 (by decide) (by decide) (by decide) (by decide)), iL_f i5 (E 9 (by decide) (by decide) (by decide) (by decide)) (E 10 (by decide) (by decide) (by decide) (by decide)), iW_f i6 (E 12 (by decide) (by decide) (by decide) (by decide)) (E 13 (by decide) (by decide) (by decide) (by decide)) (E 14 (by decide) (by decide) (by decide) (by decide)), iC_f i7 (E 9 (by decide) (by decide) (by decide) (by decide)) (E 10 (by decide) (by decide) (by decide) (by decide)) (E 12 (by decide) (by decide) (by decide) (by decide)) (E 13 (by decide) (by decide) (by decide) (by decide)) (E 14 (by decide) (by decide) (by decide) (by decide)), by rw [E 17 (by decide) (by decide) (by decide) (by decide)]; exact i8⟩
/-! a wish -/
theorem Inv_ask {K : Nat} {S : St} {c k m : Nat} {kd : Int32} (h : Inv K S m) (hc : c < 3) (hk : k < 8) (hkd : ¬ kd = 0) : Inv K (askS S c kd (nI k)) m := by
  obtain ⟨i1, i2, i3, i4, i5, i6, i7, i8⟩ := h
  by_cases h0 : S 12 c 0 = 0
  · have h14 := (i6 c hc).2 h0
    have E : ∀ f, f ≠ 12 → f ≠ 13 → askS S c kd (nI k) f = S f := fun f p q => askS_o S c kd (nI k) p q
    have e : askS S c kd (nI k) = su (su S 12 c 0 kd) 13 c 0 (nI k) := if_pos h0
    have E2 : ∀ d, d ≠ c → askS S c kd (nI k) 12 d 0 = S 12 d 0 := fun d q => by rw [e, su_o _ _ (by decide), su_ne _ _ (fun z => q z.2.1)]
    have E3 : ∀ d, d ≠ c → askS S c kd (nI k) 13 d 0 = S 13 d 0 := fun d q => by rw [e, su_ne _ _ (fun z => q z.2.1), su_o _ _ (by decide)]
    have E4 : askS S c kd (nI k) 14 = S 14 := E 14 (by decide) (by decide)
    refine ⟨iP_f i1 (E _ (by decide) (by decide)) (E _ (by decide) (by decide)) (E _ (by decide) (by decide)) (E _ (by decide) (by decide)), iA_f i2 (E _ (by decide) (by decide)), iB_f i3 (E _ (by decide) (by decide)), iX_f i4 (E _ (by decide) (by decide)), iL_f i5 (E _ (by decide) (by decide)) (E _ (by decide) (by decide)), ?_, ?_, by rw [E 17 (by decide) (by decide)]; exact i8⟩
    · intro d hd
      by_cases q : d = c
      · subst q
        refine ⟨⟨k, hk, by rw [e, su_at]⟩, fun z => absurd ?_ hkd⟩
        rw [← z, e, su_o _ _ (by decide), su_at]
      · rw [E2 d q, E3 d q, E4]; exact i6 d hd
    · refine iC_dec i7 (fun _ _ _ _ q => (hasS_e (E _ (by decide) (by decide)) (E _ (by decide) (by decide))).mp q) (fun _ _ _ _ q => (ownS_e (E _ (by decide) (by decide)) (E _ (by decide) (by decide))).mp q) (fun d x hd hx f => ?_)
      by_cases q : d = c
      · subst q
        exact absurd (by rw [E4]; exact h14) f.1
      · exact ⟨⟨by rw [← E4]; exact f.1, by rw [← E3 d q]; exact f.2⟩, E2 d q⟩
  · rw [show askS S c kd (nI k) = S from if_neg h0]
    exact ⟨i1, i2, i3, i4, i5, i6, i7, i8⟩
