/-! ===== the state: field, core, index; both sides hold the same numbers ===== -/
/-- fields: 0 registers, 1 length, 2 ops, 3 as, 4 bs, 5 at, 6 size, 7 addresses, 8 values (buffer), 9 state, 10 address, 11 value (line), 12 kind, 13 address, 14 in flight, 15 value (request), 16 memory, 17 count, 18 heads, 19 values (log) -/
abbrev St : Type := Nat → Nat → Nat → Int32
def su (S : St) (f c j : Nat) (v : Int32) : St := fun f' c' => if f' = f ∧ c' = c then upd (S f' c') j v else S f' c'
theorem su_at (S : St) (f c j : Nat) (v : Int32) : su S f c j v f c j = v := by simp [su, upd]
theorem su_ne (S : St) {f c j f' c' j' : Nat} (v : Int32) (h : ¬ (f' = f ∧ c' = c ∧ j' = j)) : su S f c j v f' c' j' = S f' c' j' := by
  unfold su
  by_cases h1 : f' = f ∧ c' = c
  · rw [if_pos h1]
    unfold upd
    rw [if_neg (fun q => h ⟨h1.1, h1.2, q⟩)]
  · rw [if_neg h1]
theorem su_comm (S : St) {f c j f' c' j' : Nat} (v v' : Int32) (h : ¬ (f' = f ∧ c' = c ∧ j' = j)) : su (su S f c j v) f' c' j' v' = su (su S f' c' j' v') f c j v := by
  funext a b d
  by_cases h1 : a = f ∧ b = c ∧ d = j
  · obtain ⟨rfl, rfl, rfl⟩ := h1
    rw [su_ne _ _ (fun q => h ⟨q.1.symm, q.2.1.symm, q.2.2.symm⟩), su_at, su_at]
  · by_cases h2 : a = f' ∧ b = c' ∧ d = j'
    · obtain ⟨rfl, rfl, rfl⟩ := h2
      rw [su_at, su_ne _ _ h1, su_at]
    · rw [su_ne _ _ h2, su_ne _ _ h1, su_ne _ _ h1, su_ne _ _ h2]
theorem su_self (S : St) {f c j : Nat} {v : Int32} (h : S f c j = v) : su S f c j v = S := by
  funext a b d
  by_cases h1 : a = f ∧ b = c ∧ d = j
  · obtain ⟨rfl, rfl, rfl⟩ := h1
    rw [su_at, h]
  · rw [su_ne _ _ h1]
/-- the flat arrays of the reference -/
theorem fl1 (T : St) (f c : Nat) (v : Int32) : upd (fun i => T f i 0) c v = fun i => su T f c 0 v f i 0 := by
  funext i
  by_cases h : i = c
  · subst h; simp [upd, su]
  · simp [upd, su, h]
theorem fl2 (T : St) (f c a : Nat) (v : Int32) (ha : a < 2) : upd (fun i => T f (i / 2) (i % 2)) (2 * c + a) v = fun i => su T f c a v f (i / 2) (i % 2) := by
  funext i
  unfold upd
  by_cases h : i = 2 * c + a
  · have h1 : i / 2 = c := by omega
    have h2 : i % 2 = a := by omega
    rw [if_pos h, h1, h2, su_at]
  · rw [if_neg h, su_ne _ _ (fun q => h (by omega))]
theorem fl4 (T : St) (f c a : Nat) (v : Int32) (ha : a < 4) : upd (fun i => T f (i / 4) (i % 4)) (4 * c + a) v = fun i => su T f c a v f (i / 4) (i % 4) := by
  funext i
  unfold upd
  by_cases h : i = 4 * c + a
  · have h1 : i / 4 = c := by omega
    have h2 : i % 4 = a := by omega
    rw [if_pos h, h1, h2, su_at]
  · rw [if_neg h, su_ne _ _ (fun q => h (by omega))]
theorem fl16 (T : St) (f c a : Nat) (v : Int32) (ha : a < 16) : upd (fun i => T f (i / 16) (i % 16)) (16 * c + a) v = fun i => su T f c a v f (i / 16) (i % 16) := by
  funext i
  unfold upd
  by_cases h : i = 16 * c + a
  · have h1 : i / 16 = c := by omega
    have h2 : i % 16 = a := by omega
    rw [if_pos h, h1, h2, su_at]
  · rw [if_neg h, su_ne _ _ (fun q => h (by omega))]
def lnR (b : Nat) : Nat → Option Nat := va_up (va_up (fun _ => none) 0 (some (b + 11))) 1 (some (b + 12))
def crR : Nat → Option Nat := va_up (va_up (va_up (fun _ => none) 0 (some 3)) 1 (some 16)) 2 (some 29)
def pC (c : Nat) : Nat := 3 + 13 * c
def hpA (K : Nat) (S T : St) (th : Int32) (fo : Nat → Int64) : List va_E := [.inr (6, [.ref 1, .ref 2, .ref 42]), .inl (0, 8, .inl (S 16 0)), .inl (3, 3, .inr (.inr (.inr (.inr crR)))), .inr (0, [.int (nI 0), .ref 4, .ref 5, .ref 11, .ref 9, .ref 10, .int (S 5 0 0)]), .inl (0, 4, .inl (S 0 0)), .inr (3, [.ref 6, .ref 7, .ref 8, .int (S 1 0 0)]), .inl (0, 16, .inl (S 2 0)), .inl (0, 16, .inl (S 3 0)), .inl (0, 16, .inl (S 4 0)), .inl (4, 2, .inr (.inr (.inr (.inr (lnR 3))))), .inr (4, [.int (S 12 0 0), .int (S 13 0 0), .int (S 14 0 0), .int (S 15 0 0)]), .inr (5, [.ref 12, .ref 13, .int (S 6 0 0)]), .inl (0, K, .inl (S 7 0)), .inl (0, K, .inl (S 8 0)), .inr (1, [.int (S 9 0 0), .int (S 10 0 0), .int (S 11 0 0)]), .inr (1, [.int (S 9 0 1), .int (S 10 0 1), .int (S 11 0 1)]), .inr (0, [.int (nI 1), .ref 17, .ref 18, .ref 24, .ref 22, .ref 23, .int (S 5 1 0)]), .inl (0, 4, .inl (S 0 1)), .inr (3, [.ref 19, .ref 20, .ref 21, .int (S 1 1 0)]), .inl (0, 16, .inl (S 2 1)), .inl (0, 16, .inl (S 3 1)), .inl (0, 16, .inl (S 4 1)), .inl (4, 2, .inr (.inr (.inr (.inr (lnR 16))))), .inr (4, [.int (S 12 1 0), .int (S 13 1 0), .int (S 14 1 0), .int (S 15 1 0)]), .inr (5, [.ref 25, .ref 26, .int (S 6 1 0)]), .inl (0, K, .inl (S 7 1)), .inl (0, K, .inl (S 8 1)), .inr (1, [.int (S 9 1 0), .int (S 10 1 0), .int (S 11 1 0)]), .inr (1, [.int (S 9 1 1), .int (S 10 1 1), .int (S 11 1 1)]), .inr (0, [.int (nI 2), .ref 30, .ref 31, .ref 37, .ref 35, .ref 36, .int (S 5 2 0)]), .inl (0, 4, .inl (S 0 2)), .inr (3, [.ref 32, .ref 33, .ref 34, .int (S 1 2 0)]), .inl (0, 16, .inl (S 2 2)), .inl (0, 16, .inl (S 3 2)), .inl (0, 16, .inl (S 4 2)), .inl (4, 2, .inr (.inr (.inr (.inr (lnR 29))))), .inr (4, [.int (S 12 2 0), .int (S 13 2 0), .int (S 14 2 0), .int (S 15 2 0)]), .inr (5, [.ref 38, .ref 39, .int (S 6 2 0)]), .inl (0, K, .inl (S 7 2)), .inl (0, K, .inl (S 8 2)), .inr (1, [.int (S 9 2 0), .int (S 10 2 0), .int (S 11 2 0)]), .inr (1, [.int (S 9 2 1), .int (S 10 2 1), .int (S 11 2 1)]), .inr (2, [.ref 43, .ref 44, .int (S 17 0 0)]), .inl (0, 40, .inl (S 18 0)), .inl (0, 40, .inl (S 19 0)), .inr (7, [.int th, .int (nI K), .ref 46, .ref 47, .ref 48, .ref 49, .ref 50, .ref 51, .ref 52, .ref 53, .ref 54, .ref 55, .ref 56, .ref 57, .ref 58, .ref 59, .ref 60, .ref 61, .ref 62, .int (T 17 0 0), .ref 63, .ref 64]), .inl (0, 8, .inl (T 16 0)), .inl (0, 12, .inl (fun i => T 0 (i / 4) (i % 4))), .inl (0, 3, .inl (fun i => T 1 i 0)), .inl (0, 48, .inl (fun i => T 2 (i / 16) (i % 16))), .inl (0, 48, .inl (fun i => T 3 (i / 16) (i % 16))), .inl (0, 48, .inl (fun i => T 4 (i / 16) (i % 16))), .inl (0, 3, .inl (fun i => T 5 i 0)), .inl (0, 3, .inl (fun i => T 6 i 0)), .inl (0, 12, .inl (fun i => T 7 (i / 4) (i % 4))), .inl (0, 12, .inl (fun i => T 8 (i / 4) (i % 4))), .inl (0, 6, .inl (fun i => T 9 (i / 2) (i % 2))), .inl (0, 6, .inl (fun i => T 10 (i / 2) (i % 2))), .inl (0, 6, .inl (fun i => T 11 (i / 2) (i % 2))), .inl (0, 3, .inl (fun i => T 12 i 0)), .inl (0, 3, .inl (fun i => T 13 i 0)), .inl (2, 3, .inl (fun i => T 14 i 0)), .inl (0, 3, .inl (fun i => T 15 i 0)), .inl (0, 40, .inl (T 18 0)), .inl (0, 40, .inl (T 19 0)), .inl (1, 1, .inr (.inl fo))]
set_option maxRecDepth 100000 in
theorem rC {K : Nat} {S T : St} {th : Int32} {fo : Nat → Int64} {c : Nat} (hc : c < 3) : (hpA K S T th fo)[pC c]? = some (.inr (0, [.int (nI c), .ref (pC c + 1), .ref (pC c + 2), .ref (pC c + 8), .ref (pC c + 6), .ref (pC c + 7), .int (S 5 c 0)])) := by
  rcases (show c = 0 ∨ c = 1 ∨ c = 2 by omega) with rfl | rfl | rfl <;> rfl
set_option maxRecDepth 100000 in
theorem rRg {K : Nat} {S T : St} {th : Int32} {fo : Nat → Int64} {c : Nat} (hc : c < 3) : (hpA K S T th fo)[pC c + 1]? = some (.inl (0, 4, .inl (S 0 c))) := by
  rcases (show c = 0 ∨ c = 1 ∨ c = 2 by omega) with rfl | rfl | rfl <;> rfl
set_option maxRecDepth 100000 in
theorem rPr {K : Nat} {S T : St} {th : Int32} {fo : Nat → Int64} {c : Nat} (hc : c < 3) : (hpA K S T th fo)[pC c + 2]? = some (.inr (3, [.ref (pC c + 3), .ref (pC c + 4), .ref (pC c + 5), .int (S 1 c 0)])) := by
  rcases (show c = 0 ∨ c = 1 ∨ c = 2 by omega) with rfl | rfl | rfl <;> rfl
set_option maxRecDepth 100000 in
theorem rOp {K : Nat} {S T : St} {th : Int32} {fo : Nat → Int64} {c : Nat} (hc : c < 3) : (hpA K S T th fo)[pC c + 3]? = some (.inl (0, 16, .inl (S 2 c))) := by
  rcases (show c = 0 ∨ c = 1 ∨ c = 2 by omega) with rfl | rfl | rfl <;> rfl
set_option maxRecDepth 100000 in
theorem rAs {K : Nat} {S T : St} {th : Int32} {fo : Nat → Int64} {c : Nat} (hc : c < 3) : (hpA K S T th fo)[pC c + 4]? = some (.inl (0, 16, .inl (S 3 c))) := by
  rcases (show c = 0 ∨ c = 1 ∨ c = 2 by omega) with rfl | rfl | rfl <;> rfl
set_option maxRecDepth 100000 in
theorem rBs {K : Nat} {S T : St} {th : Int32} {fo : Nat → Int64} {c : Nat} (hc : c < 3) : (hpA K S T th fo)[pC c + 5]? = some (.inl (0, 16, .inl (S 4 c))) := by
  rcases (show c = 0 ∨ c = 1 ∨ c = 2 by omega) with rfl | rfl | rfl <;> rfl
set_option maxRecDepth 100000 in
theorem rLs {K : Nat} {S T : St} {th : Int32} {fo : Nat → Int64} {c : Nat} (hc : c < 3) : (hpA K S T th fo)[pC c + 6]? = some (.inl (4, 2, .inr (.inr (.inr (.inr (lnR (pC c))))))) := by
  rcases (show c = 0 ∨ c = 1 ∨ c = 2 by omega) with rfl | rfl | rfl <;> rfl
set_option maxRecDepth 100000 in
theorem rQ {K : Nat} {S T : St} {th : Int32} {fo : Nat → Int64} {c : Nat} (hc : c < 3) : (hpA K S T th fo)[pC c + 7]? = some (.inr (4, [.int (S 12 c 0), .int (S 13 c 0), .int (S 14 c 0), .int (S 15 c 0)])) := by
  rcases (show c = 0 ∨ c = 1 ∨ c = 2 by omega) with rfl | rfl | rfl <;> rfl
set_option maxRecDepth 100000 in
theorem rB {K : Nat} {S T : St} {th : Int32} {fo : Nat → Int64} {c : Nat} (hc : c < 3) : (hpA K S T th fo)[pC c + 8]? = some (.inr (5, [.ref (pC c + 9), .ref (pC c + 10), .int (S 6 c 0)])) := by
  rcases (show c = 0 ∨ c = 1 ∨ c = 2 by omega) with rfl | rfl | rfl <;> rfl
set_option maxRecDepth 100000 in
theorem rBa {K : Nat} {S T : St} {th : Int32} {fo : Nat → Int64} {c : Nat} (hc : c < 3) : (hpA K S T th fo)[pC c + 9]? = some (.inl (0, K, .inl (S 7 c))) := by
  rcases (show c = 0 ∨ c = 1 ∨ c = 2 by omega) with rfl | rfl | rfl <;> rfl
set_option maxRecDepth 100000 in
theorem rBv {K : Nat} {S T : St} {th : Int32} {fo : Nat → Int64} {c : Nat} (hc : c < 3) : (hpA K S T th fo)[pC c + 10]? = some (.inl (0, K, .inl (S 8 c))) := by
  rcases (show c = 0 ∨ c = 1 ∨ c = 2 by omega) with rfl | rfl | rfl <;> rfl
set_option maxRecDepth 100000 in
theorem rL {K : Nat} {S T : St} {th : Int32} {fo : Nat → Int64} {c : Nat} {j : Nat} (hc : c < 3) (hj : j < 2) : (hpA K S T th fo)[pC c + 11 + j]? = some (.inr (1, [.int (S 9 c j), .int (S 10 c j), .int (S 11 c j)])) := by
  rcases (show c = 0 ∨ c = 1 ∨ c = 2 by omega) with rfl | rfl | rfl <;> rcases (show j = 0 ∨ j = 1 by omega) with rfl | rfl <;> rfl
set_option maxRecDepth 100000 in
theorem wAt {K : Nat} {S T : St} {th : Int32} {fo : Nat → Int64} {c : Nat} {x : Int32} (hc : c < 3) : (hpA K S T th fo).set (pC c) (.inr (0, [.int (nI c), .ref (pC c + 1), .ref (pC c + 2), .ref (pC c + 8), .ref (pC c + 6), .ref (pC c + 7), .int x])) = hpA K (su S 5 c 0 x) T th fo := by
  rcases (show c = 0 ∨ c = 1 ∨ c = 2 by omega) with rfl | rfl | rfl <;> rfl
set_option maxRecDepth 100000 in
theorem wRg {K : Nat} {S T : St} {th : Int32} {fo : Nat → Int64} {c : Nat} {x i : Int32} {j : Nat} (hc : c < 3) (hi : i.toNatClampNeg = j) : (hpA K S T th fo).set (pC c + 1) (.inl (0, 4, .inl (upd (S 0 c) i.toNatClampNeg x))) = hpA K (su S 0 c j x) T th fo := by
  subst hi
  rcases (show c = 0 ∨ c = 1 ∨ c = 2 by omega) with rfl | rfl | rfl <;> rfl
set_option maxRecDepth 100000 in
theorem wLen {K : Nat} {S T : St} {th : Int32} {fo : Nat → Int64} {c : Nat} {x : Int32} (hc : c < 3) : (hpA K S T th fo).set (pC c + 2) (.inr (3, [.ref (pC c + 3), .ref (pC c + 4), .ref (pC c + 5), .int x])) = hpA K (su S 1 c 0 x) T th fo := by
  rcases (show c = 0 ∨ c = 1 ∨ c = 2 by omega) with rfl | rfl | rfl <;> rfl
set_option maxRecDepth 100000 in
theorem wOp {K : Nat} {S T : St} {th : Int32} {fo : Nat → Int64} {c : Nat} {x i : Int32} {j : Nat} (hc : c < 3) (hi : i.toNatClampNeg = j) : (hpA K S T th fo).set (pC c + 3) (.inl (0, 16, .inl (upd (S 2 c) i.toNatClampNeg x))) = hpA K (su S 2 c j x) T th fo := by
  subst hi
  rcases (show c = 0 ∨ c = 1 ∨ c = 2 by omega) with rfl | rfl | rfl <;> rfl
set_option maxRecDepth 100000 in
theorem wAs {K : Nat} {S T : St} {th : Int32} {fo : Nat → Int64} {c : Nat} {x i : Int32} {j : Nat} (hc : c < 3) (hi : i.toNatClampNeg = j) : (hpA K S T th fo).set (pC c + 4) (.inl (0, 16, .inl (upd (S 3 c) i.toNatClampNeg x))) = hpA K (su S 3 c j x) T th fo := by
  subst hi
  rcases (show c = 0 ∨ c = 1 ∨ c = 2 by omega) with rfl | rfl | rfl <;> rfl
set_option maxRecDepth 100000 in
theorem wBs {K : Nat} {S T : St} {th : Int32} {fo : Nat → Int64} {c : Nat} {x i : Int32} {j : Nat} (hc : c < 3) (hi : i.toNatClampNeg = j) : (hpA K S T th fo).set (pC c + 5) (.inl (0, 16, .inl (upd (S 4 c) i.toNatClampNeg x))) = hpA K (su S 4 c j x) T th fo := by
  subst hi
  rcases (show c = 0 ∨ c = 1 ∨ c = 2 by omega) with rfl | rfl | rfl <;> rfl
set_option maxRecDepth 100000 in
theorem wSz {K : Nat} {S T : St} {th : Int32} {fo : Nat → Int64} {c : Nat} {x : Int32} (hc : c < 3) : (hpA K S T th fo).set (pC c + 8) (.inr (5, [.ref (pC c + 9), .ref (pC c + 10), .int x])) = hpA K (su S 6 c 0 x) T th fo := by
  rcases (show c = 0 ∨ c = 1 ∨ c = 2 by omega) with rfl | rfl | rfl <;> rfl
set_option maxRecDepth 100000 in
theorem wBa {K : Nat} {S T : St} {th : Int32} {fo : Nat → Int64} {c : Nat} {x i : Int32} {j : Nat} (hc : c < 3) (hi : i.toNatClampNeg = j) : (hpA K S T th fo).set (pC c + 9) (.inl (0, K, .inl (upd (S 7 c) i.toNatClampNeg x))) = hpA K (su S 7 c j x) T th fo := by
  subst hi
  rcases (show c = 0 ∨ c = 1 ∨ c = 2 by omega) with rfl | rfl | rfl <;> rfl
set_option maxRecDepth 100000 in
theorem wBv {K : Nat} {S T : St} {th : Int32} {fo : Nat → Int64} {c : Nat} {x i : Int32} {j : Nat} (hc : c < 3) (hi : i.toNatClampNeg = j) : (hpA K S T th fo).set (pC c + 10) (.inl (0, K, .inl (upd (S 8 c) i.toNatClampNeg x))) = hpA K (su S 8 c j x) T th fo := by
  subst hi
  rcases (show c = 0 ∨ c = 1 ∨ c = 2 by omega) with rfl | rfl | rfl <;> rfl
set_option maxRecDepth 100000 in
theorem wQ {K : Nat} {S T : St} {th : Int32} {fo : Nat → Int64} {c : Nat} {k x f v : Int32} (hc : c < 3) : (hpA K S T th fo).set (pC c + 7) (.inr (4, [.int k, .int x, .int f, .int v])) = hpA K (su (su (su (su S 12 c 0 k) 13 c 0 x) 14 c 0 f) 15 c 0 v) T th fo := by
  rcases (show c = 0 ∨ c = 1 ∨ c = 2 by omega) with rfl | rfl | rfl <;> rfl
set_option maxRecDepth 100000 in
theorem wL {K : Nat} {S T : St} {th : Int32} {fo : Nat → Int64} {c : Nat} {j : Nat} {s a v : Int32} (hc : c < 3) (hj : j < 2) : (hpA K S T th fo).set (pC c + 11 + j) (.inr (1, [.int s, .int a, .int v])) = hpA K (su (su (su S 9 c j s) 10 c j a) 11 c j v) T th fo := by
  rcases (show c = 0 ∨ c = 1 ∨ c = 2 by omega) with rfl | rfl | rfl <;> rcases (show j = 0 ∨ j = 1 by omega) with rfl | rfl <;> rfl
set_option maxRecDepth 100000 in
theorem wMem {K : Nat} {S T : St} {th : Int32} {fo : Nat → Int64} {x i : Int32} {j : Nat} (hi : i.toNatClampNeg = j) : (hpA K S T th fo).set 1 (.inl (0, 8, .inl (upd (S 16 0) i.toNatClampNeg x))) = hpA K (su S 16 0 j x) T th fo := by subst hi; rfl
set_option maxRecDepth 100000 in
theorem wCnt {K : Nat} {S T : St} {th : Int32} {fo : Nat → Int64} {x : Int32} : (hpA K S T th fo).set 42 (.inr (2, [.ref 43, .ref 44, .int x])) = hpA K (su S 17 0 0 x) T th fo := rfl
set_option maxRecDepth 100000 in
theorem wHd {K : Nat} {S T : St} {th : Int32} {fo : Nat → Int64} {x i : Int32} {j : Nat} (hi : i.toNatClampNeg = j) : (hpA K S T th fo).set 43 (.inl (0, 40, .inl (upd (S 18 0) i.toNatClampNeg x))) = hpA K (su S 18 0 j x) T th fo := by subst hi; rfl
set_option maxRecDepth 100000 in
theorem wHv {K : Nat} {S T : St} {th : Int32} {fo : Nat → Int64} {x i : Int32} {j : Nat} (hi : i.toNatClampNeg = j) : (hpA K S T th fo).set 44 (.inl (0, 40, .inl (upd (S 19 0) i.toNatClampNeg x))) = hpA K (su S 19 0 j x) T th fo := by subst hi; rfl
set_option maxRecDepth 100000 in
theorem wOut {K : Nat} {S T : St} {th : Int32} {fo : Nat → Int64} {g : Nat → Int64} : (hpA K S T th fo).set 65 (.inl (1, 1, .inr (.inl g))) = hpA K S T th g := rfl
set_option maxRecDepth 100000 in
theorem wTh {K : Nat} {S T : St} {th : Int32} {fo : Nat → Int64} {x : Int32} : (hpA K S T th fo).set 45 (.inr (7, [.int x, .int (nI K), .ref 46, .ref 47, .ref 48, .ref 49, .ref 50, .ref 51, .ref 52, .ref 53, .ref 54, .ref 55, .ref 56, .ref 57, .ref 58, .ref 59, .ref 60, .ref 61, .ref 62, .int (T 17 0 0), .ref 63, .ref 64])) = hpA K S T x fo := rfl
set_option maxRecDepth 100000 in
theorem vEv {K : Nat} {S T : St} {th : Int32} {fo : Nat → Int64} {x : Int32} : (hpA K S T th fo).set 45 (.inr (7, [.int th, .int (nI K), .ref 46, .ref 47, .ref 48, .ref 49, .ref 50, .ref 51, .ref 52, .ref 53, .ref 54, .ref 55, .ref 56, .ref 57, .ref 58, .ref 59, .ref 60, .ref 61, .ref 62, .int x, .ref 63, .ref 64])) = hpA K S (su T 17 0 0 x) th fo := rfl
set_option maxRecDepth 100000 in
theorem vMem {K : Nat} {S T : St} {th : Int32} {fo : Nat → Int64} {x i : Int32} {j : Nat} (hi : i.toNatClampNeg = j) : (hpA K S T th fo).set 46 (.inl (0, 8, .inl (upd (T 16 0) i.toNatClampNeg x))) = hpA K S (su T 16 0 j x) th fo := by subst hi; rfl
set_option maxRecDepth 100000 in
theorem vHd {K : Nat} {S T : St} {th : Int32} {fo : Nat → Int64} {x i : Int32} {j : Nat} (hi : i.toNatClampNeg = j) : (hpA K S T th fo).set 63 (.inl (0, 40, .inl (upd (T 18 0) i.toNatClampNeg x))) = hpA K S (su T 18 0 j x) th fo := by subst hi; rfl
set_option maxRecDepth 100000 in
theorem vHv {K : Nat} {S T : St} {th : Int32} {fo : Nat → Int64} {x i : Int32} {j : Nat} (hi : i.toNatClampNeg = j) : (hpA K S T th fo).set 64 (.inl (0, 40, .inl (upd (T 19 0) i.toNatClampNeg x))) = hpA K S (su T 19 0 j x) th fo := by subst hi; rfl
set_option maxRecDepth 100000 in
theorem vRg {K : Nat} {S T : St} {th : Int32} {fo : Nat → Int64} {x z : Int32} {c a : Nat} (hi : z.toNatClampNeg = 4 * c + a) (ha : a < 4) : (hpA K S T th fo).set 47 (.inl (0, 12, .inl (upd (fun i => T 0 (i / 4) (i % 4)) z.toNatClampNeg x))) = hpA K S (su T 0 c a x) th fo := by
  rw [hi, fl4 T 0 c a x ha]; rfl
set_option maxRecDepth 100000 in
theorem vLen {K : Nat} {S T : St} {th : Int32} {fo : Nat → Int64} {x z : Int32} {c : Nat} (hi : z.toNatClampNeg = c) : (hpA K S T th fo).set 48 (.inl (0, 3, .inl (upd (fun i => T 1 i 0) z.toNatClampNeg x))) = hpA K S (su T 1 c 0 x) th fo := by
  rw [hi, fl1]; rfl
set_option maxRecDepth 100000 in
theorem vOp {K : Nat} {S T : St} {th : Int32} {fo : Nat → Int64} {x z : Int32} {c a : Nat} (hi : z.toNatClampNeg = 16 * c + a) (ha : a < 16) : (hpA K S T th fo).set 49 (.inl (0, 48, .inl (upd (fun i => T 2 (i / 16) (i % 16)) z.toNatClampNeg x))) = hpA K S (su T 2 c a x) th fo := by
  rw [hi, fl16 T 2 c a x ha]; rfl
set_option maxRecDepth 100000 in
theorem vAs {K : Nat} {S T : St} {th : Int32} {fo : Nat → Int64} {x z : Int32} {c a : Nat} (hi : z.toNatClampNeg = 16 * c + a) (ha : a < 16) : (hpA K S T th fo).set 50 (.inl (0, 48, .inl (upd (fun i => T 3 (i / 16) (i % 16)) z.toNatClampNeg x))) = hpA K S (su T 3 c a x) th fo := by
  rw [hi, fl16 T 3 c a x ha]; rfl
set_option maxRecDepth 100000 in
theorem vBs {K : Nat} {S T : St} {th : Int32} {fo : Nat → Int64} {x z : Int32} {c a : Nat} (hi : z.toNatClampNeg = 16 * c + a) (ha : a < 16) : (hpA K S T th fo).set 51 (.inl (0, 48, .inl (upd (fun i => T 4 (i / 16) (i % 16)) z.toNatClampNeg x))) = hpA K S (su T 4 c a x) th fo := by
  rw [hi, fl16 T 4 c a x ha]; rfl
set_option maxRecDepth 100000 in
theorem vAt {K : Nat} {S T : St} {th : Int32} {fo : Nat → Int64} {x z : Int32} {c : Nat} (hi : z.toNatClampNeg = c) : (hpA K S T th fo).set 52 (.inl (0, 3, .inl (upd (fun i => T 5 i 0) z.toNatClampNeg x))) = hpA K S (su T 5 c 0 x) th fo := by
  rw [hi, fl1]; rfl
set_option maxRecDepth 100000 in
theorem vSz {K : Nat} {S T : St} {th : Int32} {fo : Nat → Int64} {x z : Int32} {c : Nat} (hi : z.toNatClampNeg = c) : (hpA K S T th fo).set 53 (.inl (0, 3, .inl (upd (fun i => T 6 i 0) z.toNatClampNeg x))) = hpA K S (su T 6 c 0 x) th fo := by
  rw [hi, fl1]; rfl
set_option maxRecDepth 100000 in
theorem vBa {K : Nat} {S T : St} {th : Int32} {fo : Nat → Int64} {x z : Int32} {c a : Nat} (hi : z.toNatClampNeg = 4 * c + a) (ha : a < 4) : (hpA K S T th fo).set 54 (.inl (0, 12, .inl (upd (fun i => T 7 (i / 4) (i % 4)) z.toNatClampNeg x))) = hpA K S (su T 7 c a x) th fo := by
  rw [hi, fl4 T 7 c a x ha]; rfl
set_option maxRecDepth 100000 in
theorem vBv {K : Nat} {S T : St} {th : Int32} {fo : Nat → Int64} {x z : Int32} {c a : Nat} (hi : z.toNatClampNeg = 4 * c + a) (ha : a < 4) : (hpA K S T th fo).set 55 (.inl (0, 12, .inl (upd (fun i => T 8 (i / 4) (i % 4)) z.toNatClampNeg x))) = hpA K S (su T 8 c a x) th fo := by
  rw [hi, fl4 T 8 c a x ha]; rfl
set_option maxRecDepth 100000 in
theorem vSt {K : Nat} {S T : St} {th : Int32} {fo : Nat → Int64} {x z : Int32} {c a : Nat} (hi : z.toNatClampNeg = 2 * c + a) (ha : a < 2) : (hpA K S T th fo).set 56 (.inl (0, 6, .inl (upd (fun i => T 9 (i / 2) (i % 2)) z.toNatClampNeg x))) = hpA K S (su T 9 c a x) th fo := by
  rw [hi, fl2 T 9 c a x ha]; rfl
set_option maxRecDepth 100000 in
theorem vTg {K : Nat} {S T : St} {th : Int32} {fo : Nat → Int64} {x z : Int32} {c a : Nat} (hi : z.toNatClampNeg = 2 * c + a) (ha : a < 2) : (hpA K S T th fo).set 57 (.inl (0, 6, .inl (upd (fun i => T 10 (i / 2) (i % 2)) z.toNatClampNeg x))) = hpA K S (su T 10 c a x) th fo := by
  rw [hi, fl2 T 10 c a x ha]; rfl
set_option maxRecDepth 100000 in
theorem vVl {K : Nat} {S T : St} {th : Int32} {fo : Nat → Int64} {x z : Int32} {c a : Nat} (hi : z.toNatClampNeg = 2 * c + a) (ha : a < 2) : (hpA K S T th fo).set 58 (.inl (0, 6, .inl (upd (fun i => T 11 (i / 2) (i % 2)) z.toNatClampNeg x))) = hpA K S (su T 11 c a x) th fo := by
  rw [hi, fl2 T 11 c a x ha]; rfl
set_option maxRecDepth 100000 in
theorem vWk {K : Nat} {S T : St} {th : Int32} {fo : Nat → Int64} {x z : Int32} {c : Nat} (hi : z.toNatClampNeg = c) : (hpA K S T th fo).set 59 (.inl (0, 3, .inl (upd (fun i => T 12 i 0) z.toNatClampNeg x))) = hpA K S (su T 12 c 0 x) th fo := by
  rw [hi, fl1]; rfl
set_option maxRecDepth 100000 in
theorem vWx {K : Nat} {S T : St} {th : Int32} {fo : Nat → Int64} {x z : Int32} {c : Nat} (hi : z.toNatClampNeg = c) : (hpA K S T th fo).set 60 (.inl (0, 3, .inl (upd (fun i => T 13 i 0) z.toNatClampNeg x))) = hpA K S (su T 13 c 0 x) th fo := by
  rw [hi, fl1]; rfl
set_option maxRecDepth 100000 in
theorem vWf {K : Nat} {S T : St} {th : Int32} {fo : Nat → Int64} {x z : Int32} {c : Nat} (hi : z.toNatClampNeg = c) : (hpA K S T th fo).set 61 (.inl (2, 3, .inl (upd (fun i => T 14 i 0) z.toNatClampNeg x))) = hpA K S (su T 14 c 0 x) th fo := by
  rw [hi, fl1]; rfl
set_option maxRecDepth 100000 in
theorem vWv {K : Nat} {S T : St} {th : Int32} {fo : Nat → Int64} {x z : Int32} {c : Nat} (hi : z.toNatClampNeg = c) : (hpA K S T th fo).set 62 (.inl (0, 3, .inl (upd (fun i => T 15 i 0) z.toNatClampNeg x))) = hpA K S (su T 15 c 0 x) th fo := by
  rw [hi, fl1]; rfl
set_option maxRecDepth 100000 in
theorem wQb {K : Nat} {S T : St} {th : Int32} {fo : Nat → Int64} {c : Nat} {k x : Int32} (hc : c < 3) : (hpA K S T th fo).set (pC c + 7) (.inr (4, [.int k, .int x, .int (S 14 c 0), .int (S 15 c 0)])) = hpA K (su (su S 12 c 0 k) 13 c 0 x) T th fo := by
  rcases (show c = 0 ∨ c = 1 ∨ c = 2 by omega) with rfl | rfl | rfl <;> rfl
set_option maxRecDepth 100000 in
theorem wQt {K : Nat} {S T : St} {th : Int32} {fo : Nat → Int64} {c : Nat} {v : Int32} (hc : c < 3) : (hpA K S T th fo).set (pC c + 7) (.inr (4, [.int (S 12 c 0), .int (S 13 c 0), .int 1, .int v])) = hpA K (su (su S 14 c 0 1) 15 c 0 v) T th fo := by
  rcases (show c = 0 ∨ c = 1 ∨ c = 2 by omega) with rfl | rfl | rfl <;> rfl
set_option maxRecDepth 100000 in
theorem wQf {K : Nat} {S T : St} {th : Int32} {fo : Nat → Int64} {c : Nat} (hc : c < 3) : (hpA K S T th fo).set (pC c + 7) (.inr (4, [.int 0, .int (S 13 c 0), .int 0, .int (S 15 c 0)])) = hpA K (su (su S 12 c 0 0) 14 c 0 0) T th fo := by
  rcases (show c = 0 ∨ c = 1 ∨ c = 2 by omega) with rfl | rfl | rfl <;> rfl
set_option maxRecDepth 100000 in
theorem wLs {K : Nat} {S T : St} {th : Int32} {fo : Nat → Int64} {c : Nat} {j : Nat} {s : Int32} (hc : c < 3) (hj : j < 2) : (hpA K S T th fo).set (pC c + 11 + j) (.inr (1, [.int s, .int (S 10 c j), .int (S 11 c j)])) = hpA K (su S 9 c j s) T th fo := by
  rcases (show c = 0 ∨ c = 1 ∨ c = 2 by omega) with rfl | rfl | rfl <;> rcases (show j = 0 ∨ j = 1 by omega) with rfl | rfl <;> rfl
set_option maxRecDepth 100000 in
theorem wLv {K : Nat} {S T : St} {th : Int32} {fo : Nat → Int64} {c : Nat} {j : Nat} {s v : Int32} (hc : c < 3) (hj : j < 2) : (hpA K S T th fo).set (pC c + 11 + j) (.inr (1, [.int s, .int (S 10 c j), .int v])) = hpA K (su (su S 9 c j s) 11 c j v) T th fo := by
  rcases (show c = 0 ∨ c = 1 ∨ c = 2 by omega) with rfl | rfl | rfl <;> rcases (show j = 0 ∨ j = 1 by omega) with rfl | rfl <;> rfl
set_option maxRecDepth 100000 in
theorem ixf {f : Nat → Int32} {i : Int32} {n : Nat} (h : i.toNatClampNeg = n) : f i.toNatClampNeg = f n := by rw [h]
set_option maxRecDepth 100000 in
theorem ixg {f : Nat → Option Nat} {i : Int32} {n : Nat} {v : Option Nat} (h : i.toNatClampNeg = n) (e : f n = v) : f i.toNatClampNeg = v := by rw [h]; exact e
set_option maxRecDepth 100000 in
theorem lnR_at {b j : Nat} (hj : j < 2) : lnR b j = some (b + 11 + j) := by
  rcases (show j = 0 ∨ j = 1 by omega) with rfl | rfl <;> rfl
set_option maxRecDepth 100000 in
theorem crR_at {c : Nat} (hc : c < 3) : crR c = some (pC c) := by
  rcases (show c = 0 ∨ c = 1 ∨ c = 2 by omega) with rfl | rfl | rfl <;> rfl
