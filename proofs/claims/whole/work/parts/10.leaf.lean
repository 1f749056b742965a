/-! ===== the leaves ===== -/
theorem zset_self {hp : List va_E} {i : Nat} {e e2 : va_E} (h : hp[i]? = some e) : (hp.set i e2)[i]? = some e2 := List.getElem?_set_self (List.getElem?_eq_some_iff.mp h).1
theorem Rn.ofF {l : Launch} {G : zGP} {M : zMI} {av : List Value} {hp : List va_E} {R : zRes} {ws' : List Cond} (hy : plainFor M.1 = true) (hw : M.2.2.2.2.1 = Cond.code M.1 M.2.1 M.2.2.1 M.2.2.2.1 :: ws') (hh : M.2.2.2.2.2.2 = []) (hn : av.length ≤ M.2.2.1) (hc : (av.all fun v => v.category == 1) = true) (hret : ∃ v, R.1 = .inl v)
    (k : Ev l G M 0 (av ++ List.replicate (M.2.2.1 - av.length) (.double 0)) [] hp 0 0 R) : Rn l G M av hp R := by
  intro ws cav hst
  have hM : Met l M.1 M.2.2.2.2.1 M.2.2.2.2.2.1 (va_Pc cav (fun U => zI l G U U.heap ∧ zW G hp ws U.heap)) (zQc G (zN ws) R) M.2.2.2.2.2.1.cells M.2.2.2.2.2.1.slots (zA G) := by
    refine va_MetF (cc := M.2.1) (maxL := M.2.2.1) (ret := M.2.2.2.1) hy hw ?_
    intro p e s m args below meth c s₁ B hml hv
    obtain ⟨rfl, hI, hW⟩ := hv
    obtain ⟨hcc, hl⟩ := zEntry hst hn (fun v hv => by have h9 := List.all_eq_true.mp hc v hv; simpa using h9)
    rw [entry_eq m cav hcc]
    have htb : c.exceptionTable.toList = [] := by
      obtain ⟨meth9, c9, h1, h2, -, -, -, -, h7, -⟩ := Cond.code_spec B.named (atoms_spec (ws := M.2.2.2.2.1) B.pre _ (by rw [hw]; exact List.mem_cons_self))
      cases Option.some.inj (h1.symm.trans B.method)
      cases Option.some.inj (h2.symm.trans (Stand.of_body B).code)
      rw [Array.isEmpty_iff.mp h7]
    have h := k p e s m _ below meth c s.heap [] _ [] ws (zN ws) ⟨B.exec, B.bytes, hml, atoms_spec (ws := M.2.2.2.2.1) B.pre, findClass_of_methodNamed B.named, B.returns, B.notSynchronized, (name_of_methodNamed B.named B.method).1, by rw [hh]; exact htb, hI⟩ va_S.rf hl rfl hW zX.rf
    intro Tt hT X
    obtain ⟨t, a1, o, b1, b2, b3⟩ := h Tt hT X
    rcases b3 with b3 | ⟨q, -, E, ce, L, ⟨ws9, hx, -⟩, -⟩
    · exact ⟨t, a1, o, b1, b2, b3.1, b3.2⟩
    · obtain ⟨v, hv⟩ := hret
      rw [hv] at hx
      cases hx
  intro p e h1 h2 h3 s m args below h4 h5 h6 h7
  obtain ⟨n, o, q1, q2, q3, q4⟩ := hM p e h1 h2 h3 s m args below h4 h5 h6 h7
  exact ⟨n, o, q1, q2, q3, Or.inl q4⟩
set_option maxHeartbeats 4000000 in
set_option maxRecDepth 100000 in
theorem sp_has {l : Launch} {G : zGP} {hp : List va_E} {i : Nat} {s a v x : Int32} (he : hp[i]? = some (.inr (1, [.int s, .int a, .int v]))) : Rn l G m_Li_has [.ref i, .int x] hp (.inl (some (.int (if ¬ s = 0 ∧ a = x then 1 else 0))), hp) := by
  refine Rn.of (by decide) rfl rfl (Nat.le_of_ble_eq_true rfl) rfl ?_
  show Ev l G m_Li_has 0 [.ref i, .int x] [] hp 0 0 _
  refine e_aload_n (pc := 0) d_Li_has_0 rfl ?_
  refine e_get (pc := 1) s_Li_has_1 he rfl ?_
  refine e_if_eq (pc := 4) (tgt := 19) d_Li_has_4 (by decide) (fun h1 => ?_) (fun h1 => ?_)
  · refine e_iconst (pc := 19) (v := 0) d_Li_has_19 (by decide) ?_
    exact e_iret (pc := 20) d_Li_has_20 rfl (by decide) (Nat.le_of_ble_eq_true rfl) (Nat.le_of_ble_eq_true rfl) (by simp [h1])
  · refine e_aload_n (pc := 7) d_Li_has_7 rfl ?_
    refine e_get (pc := 8) s_Li_has_8 he rfl ?_
    refine e_iload_n (pc := 11) d_Li_has_11 rfl ?_
    refine e_icmp_ne (pc := 12) (tgt := 19) d_Li_has_12 (by decide) (fun h2 => ?_) (fun h2 => ?_)
    · refine e_iconst (pc := 19) (v := 0) d_Li_has_19 (by decide) ?_
      exact e_iret (pc := 20) d_Li_has_20 rfl (by decide) (Nat.le_of_ble_eq_true rfl) (Nat.le_of_ble_eq_true rfl) (by simp [h1, h2])
    · refine e_iconst (pc := 15) (v := 1) d_Li_has_15 (by decide) ?_
      refine e_goto (pc := 16) (tgt := 20) d_Li_has_16 (by decide) ?_
      exact e_iret (pc := 20) d_Li_has_20 rfl (by decide) (Nat.le_of_ble_eq_true rfl) (Nat.le_of_ble_eq_true rfl) (by simp [h1, h2])
set_option maxHeartbeats 4000000 in
set_option maxRecDepth 100000 in
theorem sp_owns {l : Launch} {G : zGP} {hp : List va_E} {i : Nat} {s a v x : Int32} (he : hp[i]? = some (.inr (1, [.int s, .int a, .int v]))) : Rn l G m_Li_owns [.ref i, .int x] hp (.inl (some (.int (if (¬ s = 0 ∧ a = x) ∧ ¬ s = 1 then 1 else 0))), hp) := by
  refine Rn.of (by decide) rfl rfl (Nat.le_of_ble_eq_true rfl) rfl ?_
  show Ev l G m_Li_owns 0 [.ref i, .int x] [] hp 0 0 _
  refine e_aload_n (pc := 0) d_Li_owns_0 rfl ?_
  refine e_iload_n (pc := 1) d_Li_owns_1 rfl ?_
  refine e_cV1 (pc := 2) s_Li_owns_2 (sp_has he) he rfl rfl (Nat.le_of_ble_eq_true rfl) (Nat.le_of_ble_eq_true rfl) (Nat.le_of_ble_eq_true rfl) (zGo.v ?_)
  refine e_if_eq (pc := 5) (tgt := 20) d_Li_owns_5 (by decide) (fun h3 => ?_) (fun h3 => ?_)
  · refine e_iconst (pc := 20) (v := 0) d_Li_owns_20 (by decide) ?_
    exact e_iret (pc := 21) d_Li_owns_21 rfl (by decide) (Nat.le_of_ble_eq_true rfl) (Nat.le_of_ble_eq_true rfl) (by simp_all)
  · refine e_aload_n (pc := 8) d_Li_owns_8 rfl ?_
    refine e_get (pc := 9) s_Li_owns_9 he rfl ?_
    refine e_iconst (pc := 12) (v := 1) d_Li_owns_12 (by decide) ?_
    refine e_icmp_eq (pc := 13) (tgt := 20) d_Li_owns_13 (by decide) (fun h4 => ?_) (fun h4 => ?_)
    · refine e_iconst (pc := 20) (v := 0) d_Li_owns_20 (by decide) ?_
      exact e_iret (pc := 21) d_Li_owns_21 rfl (by decide) (Nat.le_of_ble_eq_true rfl) (Nat.le_of_ble_eq_true rfl) (by simp_all)
    · refine e_iconst (pc := 16) (v := 1) d_Li_owns_16 (by decide) ?_
      refine e_goto (pc := 17) (tgt := 21) d_Li_owns_17 (by decide) ?_
      exact e_iret (pc := 21) d_Li_owns_21 rfl (by decide) (Nat.le_of_ble_eq_true rfl) (Nat.le_of_ble_eq_true rfl) (by simp_all)
set_option maxHeartbeats 4000000 in
set_option maxRecDepth 100000 in
theorem sp_take {l : Launch} {G : zGP} {hp : List va_E} {i : Nat} {s a v n x w : Int32} (he : hp[i]? = some (.inr (1, [.int s, .int a, .int v]))) : Rn l G m_Li_take [.ref i, .int n, .int x, .int w] hp (.inl none, hp.set i (.inr (1, [.int n, .int x, .int w]))) := by
  refine Rn.of (by decide) rfl rfl (Nat.le_of_ble_eq_true rfl) rfl ?_
  show Ev l G m_Li_take 0 [.ref i, .int n, .int x, .int w] [] hp 0 0 _
  refine e_aload_n (pc := 0) d_Li_take_0 rfl ?_
  refine e_iload_n (pc := 1) d_Li_take_1 rfl ?_
  refine e_put (pc := 2) s_Li_take_2 he (Nat.le_of_ble_eq_true rfl) zFit.int rfl ?_
  refine e_aload_n (pc := 5) d_Li_take_5 rfl ?_
  refine e_iload_n (pc := 6) d_Li_take_6 rfl ?_
  refine e_put (pc := 7) s_Li_take_7 (zset_self he) (Nat.le_of_ble_eq_true rfl) zFit.int rfl ?_
  refine e_aload_n (pc := 10) d_Li_take_10 rfl ?_
  refine e_iload_n (pc := 11) d_Li_take_11 rfl ?_
  refine e_put (pc := 12) s_Li_take_12 (zset_self (zset_self he)) (Nat.le_of_ble_eq_true rfl) zFit.int rfl ?_
  exact e_vret (pc := 15) d_Li_take_15 rfl (Nat.le_of_ble_eq_true rfl) (Nat.le_of_ble_eq_true rfl) (by simp [List.set_set])
set_option maxHeartbeats 4000000 in
set_option maxRecDepth 100000 in
theorem sp_modify {l : Launch} {G : zGP} {hp : List va_E} {i : Nat} {s a v w : Int32} (he : hp[i]? = some (.inr (1, [.int s, .int a, .int v]))) : Rn l G m_Li_modify [.ref i, .int w] hp (.inl none, hp.set i (.inr (1, [.int 3, .int a, .int w]))) := by
  refine Rn.of (by decide) rfl rfl (Nat.le_of_ble_eq_true rfl) rfl ?_
  show Ev l G m_Li_modify 0 [.ref i, .int w] [] hp 0 0 _
  refine e_aload_n (pc := 0) d_Li_modify_0 rfl ?_
  refine e_iconst (pc := 1) (v := 3) d_Li_modify_1 (by decide) ?_
  refine e_put (pc := 2) s_Li_modify_2 he (Nat.le_of_ble_eq_true rfl) zFit.int rfl ?_
  refine e_aload_n (pc := 5) d_Li_modify_5 rfl ?_
  refine e_iload_n (pc := 6) d_Li_modify_6 rfl ?_
  refine e_put (pc := 7) s_Li_modify_7 (zset_self he) (Nat.le_of_ble_eq_true rfl) zFit.int rfl ?_
  exact e_vret (pc := 10) d_Li_modify_10 rfl (Nat.le_of_ble_eq_true rfl) (Nat.le_of_ble_eq_true rfl) (by simp [List.set_set])
set_option maxHeartbeats 4000000 in
set_option maxRecDepth 100000 in
theorem sp_fliesFor {l : Launch} {G : zGP} {hp : List va_E} {i : Nat} {k x f v : Int32} (he : hp[i]? = some (.inr (4, [.int k, .int x, .int f, .int v]))) {y : Int32} : Rn l G m_Rq_fliesFor [.ref i, .int y] hp (.inl (some (.int (if ¬ f = 0 ∧ x = y then 1 else 0))), hp) := by
  refine Rn.of (by decide) rfl rfl (Nat.le_of_ble_eq_true rfl) rfl ?_
  show Ev l G m_Rq_fliesFor 0 [.ref i, .int y] [] hp 0 0 _
  refine e_aload_n (pc := 0) d_Rq_fliesFor_0 rfl ?_
  refine e_get (pc := 1) s_Rq_fliesFor_1 he rfl ?_
  refine e_if_eq (pc := 4) (tgt := 19) d_Rq_fliesFor_4 (by decide) (fun h5 => ?_) (fun h5 => ?_)
  · refine e_iconst (pc := 19) (v := 0) d_Rq_fliesFor_19 (by decide) ?_
    exact e_iret (pc := 20) d_Rq_fliesFor_20 rfl (by decide) (Nat.le_of_ble_eq_true rfl) (Nat.le_of_ble_eq_true rfl) (by simp [h5])
  · refine e_aload_n (pc := 7) d_Rq_fliesFor_7 rfl ?_
    refine e_get (pc := 8) s_Rq_fliesFor_8 he rfl ?_
    refine e_iload_n (pc := 11) d_Rq_fliesFor_11 rfl ?_
    refine e_icmp_ne (pc := 12) (tgt := 19) d_Rq_fliesFor_12 (by decide) (fun h6 => ?_) (fun h6 => ?_)
    · refine e_iconst (pc := 19) (v := 0) d_Rq_fliesFor_19 (by decide) ?_
      exact e_iret (pc := 20) d_Rq_fliesFor_20 rfl (by decide) (Nat.le_of_ble_eq_true rfl) (Nat.le_of_ble_eq_true rfl) (by simp [h5, h6])
    · refine e_iconst (pc := 15) (v := 1) d_Rq_fliesFor_15 (by decide) ?_
      refine e_goto (pc := 16) (tgt := 20) d_Rq_fliesFor_16 (by decide) ?_
      exact e_iret (pc := 20) d_Rq_fliesFor_20 rfl (by decide) (Nat.le_of_ble_eq_true rfl) (Nat.le_of_ble_eq_true rfl) (by simp [h5, h6])
set_option maxHeartbeats 4000000 in
set_option maxRecDepth 100000 in
theorem sp_begin {l : Launch} {G : zGP} {hp : List va_E} {i : Nat} {k x f v : Int32} (he : hp[i]? = some (.inr (4, [.int k, .int x, .int f, .int v]))) {k2 x2 : Int32} : Rn l G m_Rq_begin [.ref i, .int k2, .int x2] hp (.inl none, hp.set i (.inr (4, [.int k2, .int x2, .int f, .int v]))) := by
  refine Rn.of (by decide) rfl rfl (Nat.le_of_ble_eq_true rfl) rfl ?_
  show Ev l G m_Rq_begin 0 [.ref i, .int k2, .int x2] [] hp 0 0 _
  refine e_aload_n (pc := 0) d_Rq_begin_0 rfl ?_
  refine e_iload_n (pc := 1) d_Rq_begin_1 rfl ?_
  refine e_put (pc := 2) s_Rq_begin_2 he (Nat.le_of_ble_eq_true rfl) zFit.int rfl ?_
  refine e_aload_n (pc := 5) d_Rq_begin_5 rfl ?_
  refine e_iload_n (pc := 6) d_Rq_begin_6 rfl ?_
  refine e_put (pc := 7) s_Rq_begin_7 (zset_self he) (Nat.le_of_ble_eq_true rfl) zFit.int rfl ?_
  exact e_vret (pc := 10) d_Rq_begin_10 rfl (Nat.le_of_ble_eq_true rfl) (Nat.le_of_ble_eq_true rfl) (by simp [List.set_set])
set_option maxHeartbeats 4000000 in
set_option maxRecDepth 100000 in
theorem sp_takeOff {l : Launch} {G : zGP} {hp : List va_E} {i : Nat} {k x f v : Int32} (he : hp[i]? = some (.inr (4, [.int k, .int x, .int f, .int v]))) {v2 : Int32} : Rn l G m_Rq_takeOff [.ref i, .int v2] hp (.inl none, hp.set i (.inr (4, [.int k, .int x, .int 1, .int v2]))) := by
  refine Rn.of (by decide) rfl rfl (Nat.le_of_ble_eq_true rfl) rfl ?_
  show Ev l G m_Rq_takeOff 0 [.ref i, .int v2] [] hp 0 0 _
  refine e_aload_n (pc := 0) d_Rq_takeOff_0 rfl ?_
  refine e_iconst (pc := 1) (v := 1) d_Rq_takeOff_1 (by decide) ?_
  refine e_put (pc := 2) s_Rq_takeOff_2 he (Nat.le_of_ble_eq_true rfl) zFit.z1 rfl ?_
  refine e_aload_n (pc := 5) d_Rq_takeOff_5 rfl ?_
  refine e_iload_n (pc := 6) d_Rq_takeOff_6 rfl ?_
  refine e_put (pc := 7) s_Rq_takeOff_7 (zset_self he) (Nat.le_of_ble_eq_true rfl) zFit.int rfl ?_
  exact e_vret (pc := 10) d_Rq_takeOff_10 rfl (Nat.le_of_ble_eq_true rfl) (Nat.le_of_ble_eq_true rfl) (by simp [List.set_set])
set_option maxHeartbeats 4000000 in
set_option maxRecDepth 100000 in
theorem sp_forget {l : Launch} {G : zGP} {hp : List va_E} {i : Nat} {k x f v : Int32} (he : hp[i]? = some (.inr (4, [.int k, .int x, .int f, .int v]))) : Rn l G m_Rq_forget [.ref i] hp (.inl none, hp.set i (.inr (4, [.int 0, .int x, .int 0, .int v]))) := by
  refine Rn.of (by decide) rfl rfl (Nat.le_of_ble_eq_true rfl) rfl ?_
  show Ev l G m_Rq_forget 0 [.ref i] [] hp 0 0 _
  refine e_aload_n (pc := 0) d_Rq_forget_0 rfl ?_
  refine e_iconst (pc := 1) (v := 0) d_Rq_forget_1 (by decide) ?_
  refine e_put (pc := 2) s_Rq_forget_2 he (Nat.le_of_ble_eq_true rfl) zFit.int rfl ?_
  refine e_aload_n (pc := 5) d_Rq_forget_5 rfl ?_
  refine e_iconst (pc := 6) (v := 0) d_Rq_forget_6 (by decide) ?_
  refine e_put (pc := 7) s_Rq_forget_7 (zset_self he) (Nat.le_of_ble_eq_true rfl) zFit.z0 rfl ?_
  exact e_vret (pc := 10) d_Rq_forget_10 rfl (Nat.le_of_ble_eq_true rfl) (Nat.le_of_ble_eq_true rfl) (by simp [List.set_set])
set_option maxHeartbeats 4000000 in
set_option maxRecDepth 100000 in
theorem sp_isRegister {l : Launch} {G : zGP} {hp : List va_E} {r : Int32} : Rn l G m_B_isRegister [.int r] hp (.inl (some (.int (if 0 ≤ r ∧ r < 4 then 1 else 0))), hp) := by
  refine Rn.of (by decide) rfl rfl (Nat.le_of_ble_eq_true rfl) rfl ?_
  show Ev l G m_B_isRegister 0 [.int r] [] hp 0 0 _
  refine e_iload_n (pc := 0) d_B_isRegister_0 rfl ?_
  refine e_if_lt (pc := 1) (tgt := 13) d_B_isRegister_1 (by decide) (fun h7 => ?_) (fun h7 => ?_)
  · refine e_iconst (pc := 13) (v := 0) d_B_isRegister_13 (by decide) ?_
    exact e_iret (pc := 14) d_B_isRegister_14 rfl (by decide) (Nat.le_of_ble_eq_true rfl) (Nat.le_of_ble_eq_true rfl) (by first | (simp_all [Int32.not_lt, Int32.not_le]; done) | (rw [if_neg (fun q => absurd q.1 (Int32.not_le.mpr h7))]))
  · refine e_iload_n (pc := 4) d_B_isRegister_4 rfl ?_
    refine e_iconst (pc := 5) (v := 4) d_B_isRegister_5 (by decide) ?_
    refine e_icmp_ge (pc := 6) (tgt := 13) d_B_isRegister_6 (by decide) (fun h8 => ?_) (fun h8 => ?_)
    · refine e_iconst (pc := 13) (v := 0) d_B_isRegister_13 (by decide) ?_
      exact e_iret (pc := 14) d_B_isRegister_14 rfl (by decide) (Nat.le_of_ble_eq_true rfl) (Nat.le_of_ble_eq_true rfl) (by first | (simp_all [Int32.not_lt, Int32.not_le]; done) | (rw [if_neg (fun q => absurd q.1 (Int32.not_le.mpr h7, h8))]))
    · refine e_iconst (pc := 9) (v := 1) d_B_isRegister_9 (by decide) ?_
      refine e_goto (pc := 10) (tgt := 14) d_B_isRegister_10 (by decide) ?_
      exact e_iret (pc := 14) d_B_isRegister_14 rfl (by decide) (Nat.le_of_ble_eq_true rfl) (Nat.le_of_ble_eq_true rfl) (by first | (simp_all [Int32.not_lt, Int32.not_le]; done) | (rw [if_neg (fun q => absurd q.1 (Int32.not_le.mpr h7, h8))]))
set_option maxHeartbeats 4000000 in
set_option maxRecDepth 100000 in
theorem sp_MisRegister {l : Launch} {G : zGP} {hp : List va_E} {r : Int32} : Rn l G m_M_isRegister [.int r] hp (.inl (some (.int (if 0 ≤ r ∧ r < 4 then 1 else 0))), hp) := by
  refine Rn.of (by decide) rfl rfl (Nat.le_of_ble_eq_true rfl) rfl ?_
  show Ev l G m_M_isRegister 0 [.int r] [] hp 0 0 _
  refine e_iload_n (pc := 0) d_M_isRegister_0 rfl ?_
  refine e_if_lt (pc := 1) (tgt := 13) d_M_isRegister_1 (by decide) (fun h9 => ?_) (fun h9 => ?_)
  · refine e_iconst (pc := 13) (v := 0) d_M_isRegister_13 (by decide) ?_
    exact e_iret (pc := 14) d_M_isRegister_14 rfl (by decide) (Nat.le_of_ble_eq_true rfl) (Nat.le_of_ble_eq_true rfl) (by first | (simp_all [Int32.not_lt, Int32.not_le]; done) | (rw [if_neg (fun q => absurd q.1 (Int32.not_le.mpr h9))]))
  · refine e_iload_n (pc := 4) d_M_isRegister_4 rfl ?_
    refine e_iconst (pc := 5) (v := 4) d_M_isRegister_5 (by decide) ?_
    refine e_icmp_ge (pc := 6) (tgt := 13) d_M_isRegister_6 (by decide) (fun h10 => ?_) (fun h10 => ?_)
    · refine e_iconst (pc := 13) (v := 0) d_M_isRegister_13 (by decide) ?_
      exact e_iret (pc := 14) d_M_isRegister_14 rfl (by decide) (Nat.le_of_ble_eq_true rfl) (Nat.le_of_ble_eq_true rfl) (by first | (simp_all [Int32.not_lt, Int32.not_le]; done) | (rw [if_neg (fun q => absurd q.1 (Int32.not_le.mpr h9, h10))]))
    · refine e_iconst (pc := 9) (v := 1) d_M_isRegister_9 (by decide) ?_
      refine e_goto (pc := 10) (tgt := 14) d_M_isRegister_10 (by decide) ?_
      exact e_iret (pc := 14) d_M_isRegister_14 rfl (by decide) (Nat.le_of_ble_eq_true rfl) (Nat.le_of_ble_eq_true rfl) (by first | (simp_all [Int32.not_lt, Int32.not_le]; done) | (rw [if_neg (fun q => absurd q.1 (Int32.not_le.mpr h9, h10))]))
