/-! ===== throw new NoSuchElementException("text"): the first constructor's own entry a variable ===== -/
def zOwnX (own : String) (ic : Nat) (X : String) (ix : Nat) (rx : ByteArray) (Y : String) (r : List String) : List Cond :=
  Bundle.throwableAtoms ++ Bundle.throwableSAtoms ++ (Bundle.passSAtoms X Y ix rx ++ Bundle.chainSAtoms Y r) ++
  [.methodLink own ic (Bundle.initS X), .instantiable X 6, .castable X X, .selects X Bundle.tFill0 Bundle.tFill0, .selects X Bundle.tFill Bundle.tFill,
   .lays X Bundle.tN "cause" "Ljava/lang/Throwable;", .lays X Bundle.tN "stackTrace" Bundle.steD, .lays X Bundle.tN "suppressedExceptions" Bundle.listD, .lays X Bundle.tN "detailMessage" "Ljava/lang/String;",
   .isRef (.static Bundle.tN "UNASSIGNED_STACK" Bundle.steD), .isRef (.static Bundle.tN "SUPPRESSED_SENTINEL" Bundle.listD),
   .fieldLink Bundle.tN 198 Bundle.tN "backtrace" "Ljava/lang/Object;", .lays Bundle.tN Bundle.tN "backtrace" "Ljava/lang/Object;", .lays X Bundle.tN "backtrace" "Ljava/lang/Object;"]
section ZX
variable {p : Program} {l : Launch} {e : Env} {R : Room} {s : State} {m₀ : MethodId} {args : Array Value} {below : List Frame} {meth : Method} {c : Code} {W : State} {locs : List Loc} {cells slots : Nat}
/-- what a word on selection says, in the launch's own platform -/
theorem zxSel (X : Stand p l e R s m₀ args below meth c W locs cells slots) {cls : String} {y : MethodName} {q : ClassId} {k : MethodId} (hc : s.vm.findClass cls = some q) (hf : s.methodFound? y.cls y.name y.desc = some k) (hn : s.methodNamed? y = some k)
    (w : (Cond.selects cls y y).before args s = true) : selectMethod e.platform s.vm q k = .method k := by
  obtain ⟨q', k', k'', e1, e2, e3, e4, -⟩ := Cond.selects_spec w
  obtain rfl : q = q' := Option.some.inj (hc.symm.trans e1)
  obtain rfl : k = k' := Option.some.inj (hf.symm.trans e2)
  obtain rfl : k = k'' := Option.some.inj (hn.symm.trans e3)
  rw [Launch.admits_selectMethod X.admits]
  exact e4
/-- locations of one new object add nothing to what was written -/
theorem zxNew {t : State} {a : Addr} {L : List Loc} {k n : Nat} (hs : s.sameButNew t (locs ++ L) k n) (hL : ∀ y ∈ L, y.base = a) (ha : s.heap.size ≤ a) : s.sameButNew t locs k n :=
  hs.weaken (fun y hy lt => (List.mem_append.mp hy).elim id (fun z => absurd (hL y z ▸ lt) (Nat.not_lt.mpr ha))) (Nat.le_refl _) (Nat.le_refl _)
set_option maxHeartbeats 4000000 in
/-- the constructor's call and the throw behind it, where the constructor of cls reaches the one of Ys by the entry ix of its pool; put together of Steps.initColdS, Stand.ctorMessageOffV and Stand.athrowLeaves -/
theorem zCtorX (X : Stand p l e R s m₀ args below meth c W locs cells slots) (hexec : p.tables.exec = Jvm.exec) (htr : e.platform.stackTraces = false) {own cls Ys : String} {r : List String} {ic ix : Nat} {rx : ByteArray}
    (x0 : decode rx 0 = .ok (.aload_n 0, 1)) (x1 : decode rx 1 = .ok (.aload_n 1, 1)) (x2 : decode rx 2 = .ok (.invokespecial ix, 3)) (x5 : decode rx 5 = .ok (.return_, 1))
    (hown : s.vm.findClass own = some m₀.cls) (hcls : Bundle.fit cls = true) (hY : Bundle.fit Ys = true) (hr : ∀ n ∈ r, Bundle.fit n = true)
    (h : ∀ w ∈ zOwnX own ic cls ix rx Ys r, w.before args s = true)
    (hlocs : ∀ y ∈ locs, ∀ ce, s.heap[y.base]? = some ce → ce.vm.isStatics = false)
    {a : Addr} {cX : ClassId} {kX : Class} (hfoundX : s.vm.findClass cls = some cX) (hkX : s.vm.classes[cX]? = some kX) (hcell : W.heap[a]? = some (freshCell cX kX)) (hnew : s.heap.size ≤ a)
    {msg : Value} (hmsg : msg.isRef = true)
    {g : JFrame} (hg : g.method = m₀) (hsize : g.locals.size = c.maxLocals) (hlocked : g.locked = none) (hentered : g.entered = []) {rest : List Value} (hstack : g.stack = msg :: .ref a :: .ref a :: rest)
    (hd6 : decode c.code g.pc = .ok (.invokespecial ic, 3)) (hd9 : decode c.code (g.pc + 3) = .ok (.athrow, 1)) (hout : ∀ y ∈ c.exceptionTable.toList, covers y (g.pc + 3) = false)
    (hRframes : r.length + 1 + 3 < R.frames) (hRlocals : 2 * g.monitorRoom + ((Value.ref a :: rest).map fun v => v.category).sum + (13 * (r.length + 1 + 1) + 42) ≤ R.locals) (hlocks : meth.locks = false) :
    ∃ U : State, Steps p.tables e below (W.setTop g) U ∧ U.status = .running ∧ Ended U below (.threw a) ∧ s.WarmedH U.vm ∧ s.sameButNew ({ U with vm := s.vm } : State) locs cells slots ∧
      ∃ ce, U.heap[a]? = some ce ∧ ce.vm = .none ∧ s.vm.findClass cls = some ce.cls := by
  have pm : e.platform.magicAccessors = ({} : Platform).magicAccessors := by rw [X.admits.platform]
  -- the constructors, from Throwable's up to the exception's own
  obtain ⟨T, Z0, LT, -, Y⟩ := ThrowableC.of_atoms (args := args) (by rw [X.admits.platform]) (by rw [X.admits.platform]) pm (fun w hw => h w (by simp [zOwnX, hw]))
  obtain ⟨Z, Mg, LZ, LM, nZ⟩ := Init0T.ofS_atoms (args := args) pm LT Y (fun w hw => h w (by simp [zOwnX, hw]))
  obtain ⟨Pb, Ps, len, Lb, Ls, nb, sb, pb⟩ := Bundle.chainS (args := args) pm nZ r Ys hY hr (fun w hw => h w (by simp [zOwnX, hw]))
  obtain ⟨Pa, La, na, sa⟩ := PassC.ofS_atoms (args := args) (s := s) pm (X := cls) (Y := Ys) (Bundle.fit_spec hcls).1 (Bundle.fit_spec hY).2 x0 x1 x2 x5 (fun w hw => h w (by simp [zOwnX, hw]))
  have links : ∀ P, P ∈ Pa :: Pb :: Ps → P.LinksS e.platform s := List.forall_mem_cons.mpr ⟨La, List.forall_mem_cons.mpr ⟨Lb, Ls⟩⟩
  have chain : PassesOn (Z.m T.toThrowableT) ((Pa :: Pb :: Ps).map (·.toPassT)) := ⟨Option.some.inj (sa.symm.trans nb), sb, pb⟩
  -- the exception's class
  have fX := findClass_of_methodNamed na
  obtain rfl : Pa.m.cls = cX := Option.some.inj (fX.symm.trans hfoundX)
  obtain ⟨c1, k1, f1, f2, ord, -⟩ := Cond.instantiable_spec (h (.instantiable cls 6) (by simp [zOwnX]))
  obtain rfl : Pa.m.cls = c1 := Option.some.inj (fX.symm.trans f1)
  obtain rfl : kX = k1 := Option.some.inj (hkX.symm.trans f2)
  have sel0 := zxSel X fX (State.methodFound?_of_named Y.fill0 (by decide)) Y.fill0 (h (.selects cls Bundle.tFill0 Bundle.tFill0) (by simp [zOwnX]))
  have selF := zxSel X fX (State.methodFound?_of_named Y.fill (by decide)) Y.fill (h (.selects cls Bundle.tFill Bundle.tFill) (by simp [zOwnX]))
  -- the two statics of Throwable, then and now
  obtain ⟨ce0, at0, isS⟩ := Y.statics
  obtain ⟨u0, v0⟩ := Cond.staticRefV Y.unassigned LT.unassignedStatic LT.statics at0 isS (h (.isRef (.static Bundle.tN "UNASSIGNED_STACK" Bundle.steD)) (by simp [zOwnX]))
  obtain ⟨sen, v1⟩ := Cond.staticRefV Y.sentinel LT.sentinelStatic LT.statics at0 isS (h (.isRef (.static Bundle.tN "SUPPRESSED_SENTINEL" Bundle.listD)) (by simp [zOwnX]))
  obtain ⟨ce1, at1, vm1, -, kept⟩ := X.same.2.2.2.2.2 T.aS ce0 at0
  have free : ∀ i, (⟨T.aS, i⟩ : Loc) ∉ locs := fun i z => Bool.noConfusion ((hlocs _ z ce0 at0).symm.trans isS)
  have known : ce1.vm ≠ .unknown := fun z => by
    have y : ce0.vm = .unknown := by rw [← z, vm1]
    rw [y] at isS
    cases isS
  have other : T.aS ≠ a := fun z => absurd (Array.getElem?_eq_some_iff.mp at0).1 (Nat.not_lt.mpr (z ▸ hnew))
  -- the fields, each of its type, and the backtrace apart from the three that are written
  obtain ⟨jM, fM⟩ := Y.msg
  obtain ⟨jp, jf, fB, g1, g2, g3, g4, -, nB, tB, fB'⟩ := Cond.ownField (t := .object "java/lang/Object") Y.found LT.cls (by decide +kernel) (h (.fieldLink Bundle.tN 198 Bundle.tN "backtrace" "Ljava/lang/Object;") (by simp [zOwnX])) (h (.lays Bundle.tN Bundle.tN "backtrace" "Ljava/lang/Object;") (by simp [zOwnX])) e.platform pm
  obtain ⟨yB, dB, oB, mB⟩ := Cond.laysAt fX hkX fB' (h (.lays cls Bundle.tN "backtrace" "Ljava/lang/Object;") (by simp [zOwnX]))
  obtain ⟨yM, _, _, _⟩ := Cond.laysAt fX hkX fM (h (.lays cls Bundle.tN "detailMessage" "Ljava/lang/String;") (by simp [zOwnX]))
  obtain ⟨yC, dC, oC, mC⟩ := Cond.laysAt fX hkX Y.cause (h (.lays cls Bundle.tN "cause" "Ljava/lang/Throwable;") (by simp [zOwnX]))
  obtain ⟨yS, dS, oS, mS⟩ := Cond.laysAt fX hkX Y.stack (h (.lays cls Bundle.tN "stackTrace" Bundle.steD) (by simp [zOwnX]))
  obtain ⟨yP, dP, oP, mP⟩ := Cond.laysAt fX hkX Y.supp (h (.lays cls Bundle.tN "suppressedExceptions" Bundle.listD) (by simp [zOwnX]))
  have aC := Cond.laysApart oB oC mB mC (by rw [nB, Y.causeName]; decide)
  have aS := Cond.laysApart oB oS mB mS (by rw [nB, Y.stackName]; decide)
  have aP := Cond.laysApart oB oP mB mP (by rw [nB, Y.suppName]; decide)
  have bare := fresh_default (c := Pa.m.cls) yB
  rw [tB] at bare
  have skip : SkipFacts T e.platform s (fun u => u) u0 ((preparedCellV T.toThrowableT (freshCell Pa.m.cls kX) a u0 sen).withEntry W.cur) := by
    refine ⟨{ ci198 := jp, i198 := jf, fBack := fB }, ⟨g1, g2, g3, g4⟩, ?_, fun _ _ => rfl⟩
    simpa [preparedCellV, Cell.setSlot, Cell.withEntry, Array.getElem?_setIfInBounds, aC, aS, aP, aC.symm, aS.symm, aP.symm, defaultValue] using bare
  -- the call, the constructors, the throw
  obtain ⟨tm, _, _, _, vm₁, nT, -, -, -, -, -, -, -, warm, go1⟩ := Steps.initColdS (tb := p.tables) (e := e) (below := below) (s := s) (U := W) X.here hexec X.warmed pm hown (t := Bundle.initS cls) rfl rfl (Bundle.fit_spec hcls).2
    (h (.methodLink own ic (Bundle.initS cls)) (by simp [zOwnX])) (h (.instanceMethod (Bundle.initS cls)) (by simp [zOwnX, Bundle.passSAtoms])) (bytes := rx) (maxL := 2) (h (.code (Bundle.initS cls) rx 2 none) (by simp [zOwnX, Bundle.passSAtoms])) (f := g) hg hstack hd6
  obtain rfl : Pa.m = tm := Option.some.inj (na.symm.trans nT)
  obtain ⟨vm₂, X₂, go2⟩ := (X.noted warm).ctorMessageOffV hexec (g := { g with stack := .ref a :: rest }) hg hsize T LT Z LZ Mg LM (Pa :: Pb :: Ps) links chain (u0 := u0) (sen := sen) (self := a) hmsg (cell := freshCell Pa.m.cls kX) (cellS := ce1)
    hcell (fun _ => by simp) (by simp) rfl rfl sel0 selF at1 other known ((kept _ (free _)).trans v0) ((kept _ (free _)).trans v1)
    (Takes.of_laid hkX ord yC (by rw [Y.causeType]; rfl)) (Takes.of_laid hkX ord yS (by rw [Y.stackType]; exact fits_refV_array _ u0)) (Takes.of_laid hkX ord yP (by rw [Y.suppType]; exact fits_refV_object _ sen)) (Takes.of_laid hkX ord yM (by rw [Y.msgType]; exact fits_refV_object _ ⟨msg, hmsg⟩))
    Y.objLocals skip htr [] hd6 (by simp only [List.length_cons, len]; omega) (by simp only [List.length_cons, len]; exact hRlocals)
  obtain ⟨go3, run, ended, warmU, same⟩ := X₂.athrowLeaves hexec (g := { g with stack := .ref a :: rest, pc := g.pc + 3 }) hg hlocked hentered hout (a := a) (rest := rest) rfl hd9
  refine ⟨_, go1 _ (fun acts => ?_), run, ended, warmU, zxNew same (fun y hy => ?_) hnew, _, heapAt_setCell_self (s := (W.setVm vm₁).setVm vm₂) _ (Array.getElem?_eq_some_iff.mp hcell).1, rfl, fX⟩
  · rw [doInvoke_state]
    exact go2 _ go3
  · simp only [List.mem_cons, List.not_mem_nil, or_false] at hy
    rcases hy with rfl | rfl | rfl | rfl | rfl <;> rfl
end ZX
section ZY
variable {p : Program} {l : Launch} {e : Env} {R : Room} {s : State} {m : MethodId} {args : Array Value} {below : List Frame} {meth : Method} {c : Code} {H : Heap} {locs : List Loc} {cells slots : Nat} {Q : State → Prop}
variable {mc ms : Nat} {free : Addr → Prop} {A0 A1 : Nat → Prop} {H0 : Heap} {a : Array Value} {ls : Array Slot} {st0 rest : List Value}
variable {Qc : Array Value → State → Outcome → State → Prop} {XC : String → State → State → Prop}
set_option maxHeartbeats 4000000 in
theorem zThrowX {cc : ByteArray} {pc : Nat} (hexec : p.tables.exec = Jvm.exec) (hb : c.code = cc) (hl : l.stackTraces = false) {own cls text Y : String} {r : List String} {ik is ic ix mc ms sa : Nat} {rx : ByteArray} {A : Nat → Prop}
    (hown : s.vm.findClass own = some m.cls) (hcls : Bundle.fit cls = true) (hY : Bundle.fit Y = true) (hr : ∀ n ∈ r, Bundle.fit n = true) (x0 : decode rx 0 = .ok (.aload_n 0, 1)) (x1 : decode rx 1 = .ok (.aload_n 1, 1)) (x2 : decode rx 2 = .ok (.invokespecial ix, 3)) (x5 : decode rx 5 = .ok (.return_, 1))
    (hk : (Cond.classLink own ik cls).before args s = true) (hini : (Cond.initialized cls).before args s = true) (hstr : vk_R own is text sa s) (hat : ∀ w ∈ (zOwnX own ic cls ix rx Y r).filter vx_no, w.before args s = true)
    (hgood : ∀ w ∈ Cond.classLink own ik cls :: Cond.initialized cls :: (zOwnX own ic cls ix rx Y r).filter vx_no, vx_ot w = true)
    (hU : vx_Zq Bundle.tN "UNASSIGNED_STACK" Bundle.steD A s s.heap) (hN : vx_Zq Bundle.tN "SUPPRESSED_SENTINEL" Bundle.listD A s s.heap) (hS : va_S A s.heap H locs) (hsize : ls.size = c.maxLocals)
    (d0 : decode cc pc = .ok (.new ik, 3)) (d3 : decode cc (pc + 3) = .ok (.dup, 1)) (d4 : decode cc (pc + 4) = .ok (.ldc is, 2)) (d6 : decode cc (pc + 6) = .ok (.invokespecial ic, 3)) (d9 : decode cc (pc + 9) = .ok (.athrow, 1))
    (hout : ∀ x ∈ c.exceptionTable.toList, covers x (pc + 9) = false)
    (hRframes : r.length + 1 + 3 < R.frames) (hRlocals : (rest.map fun v => v.category).sum + (13 * (r.length + 1 + 1) + 43) ≤ R.locals) (hRcells : cells + 1 ≤ R.cells) (hRslots : slots + 6 ≤ R.slots) (hlocks : meth.locks = false)
    (hx : ∀ t : State, s.vm.Alike t.vm → H.size ≤ t.heap.size → (∀ q : Nat, q < H.size → t.heap[q]? = H[q]?) → XC cls s t)
    (hf : ∀ z ∈ locs, free z.base) (hc : cells + 1 ≤ mc) (hs : slots + 6 ≤ ms) :
    W p l e R s m args below meth c H locs cells slots (vx_MQ below Qc XC args s mc ms free) (F0 m pc ls rest) := by
  intro T hT X
  have htr : e.platform.stackTraces = false := (show e.platform.stackTraces = l.stackTraces by rw [X.admits.platform]).trans hl
  have Y9 := vx_rebase X (R' := { frames := R.frames, locals := R.locals, cells := 1, slots := 6 }) (Nat.le_refl _) (Nat.le_refl _) hRcells hRslots
  obtain ⟨s', hA⟩ : ∃ z, z = (T.setVm s.vm).setFrames (.invoking m args :: below) := ⟨_, rfl⟩
  rw [← hA] at Y9
  have hvm : s'.vm = s.vm := by rw [hA]; rfl
  have hhp : s'.heap = H := by rw [hA]; exact hT
  have hW0 : s.WarmedH s'.vm := by rw [hvm]; exact State.WarmedH.refl s
  have hat' : ∀ w ∈ (zOwnX own ic cls ix rx Y r).filter vx_no, w.before args s' = true := fun w hw => vx_ot_at hW0 hvm.symm (hgood w (List.mem_cons_of_mem _ (List.mem_cons_of_mem _ hw))) (hat w hw)
  have hk' : (Cond.classLink own ik cls).before args s' = true := vx_ot_at hW0 hvm.symm (hgood _ List.mem_cons_self) hk
  have hini' : (Cond.initialized cls).before args s' = true := vx_ot_at hW0 hvm.symm (hgood _ (List.mem_cons_of_mem _ List.mem_cons_self)) hini
  have hU' : vx_Zq Bundle.tN "UNASSIGNED_STACK" Bundle.steD A s' s'.heap := by rw [hhp]; exact vx_Zq.moved hW0.alike (hU.kept hS.2.1)
  have hN' : vx_Zq Bundle.tN "SUPPRESSED_SENTINEL" Bundle.listD A s' s'.heap := by rw [hhp]; exact vx_Zq.moved hW0.alike (hN.kept hS.2.1)
  have h : ∀ w ∈ zOwnX own ic cls ix rx Y r, w.before args s' = true := vx_own hat' (vx_isRefq hU'.1) (vx_isRefq hN'.1) hU'.2.word hN'.2.word
  have hown' : s'.vm.findClass own = some m.cls := by rw [hvm]; exact hown
  have hins : (Cond.instantiable cls 6).before args s' = true := h _ (by simp [zOwnX])
  obtain ⟨vm₁, cX, kX, hfX, hkX, -, -, X₁, st1⟩ := Y9.newCold hexec (own := own) (C := cls) (index := ik) (n := 6) hown' hk' hins hini'
    (g := F0 m pc ls rest) rfl (by rw [hb]; exact d0) (Nat.le_refl _) (Nat.le_refl _)
  generalize hT1 : (T.setVm vm₁).pushCell { cls := cX, slots := kX.instanceTypes.map defaultValue, vm := .none } = T1 at X₁ st1
  have hcat : (Value.ref T.heap.size).category = 1 := rfl
  have hcellA : T1.heap[T.heap.size]? = some (freshCell cX kX) := by rw [← hT1]; exact State.heap_pushCell_size _ _
  have d3' : decode c.code (pc + 3) = .ok (.dup, 1) := by rw [hb]; exact d3
  have d4' : decode c.code (pc + 4) = .ok (.ldc is, 2) := by rw [hb]; exact d4
  have hstr' : vk_R own is text sa s' := vk_R.warm hW0 hstr
  obtain ⟨U, hsteps, hrun, hend, hW, hsame, ce, hce, hO1, hO2⟩ := zCtorX X₁ hexec htr (own := own) (cls := cls) (Ys := Y) (r := r) (ic := ic) x0 x1 x2 x5 hown' hcls hY hr h (fun x hx => nomatch hx) hfX hkX hcellA (by rw [hhp, hT]; exact Nat.le_refl _) (msg := .ref sa) rfl
    (g := { method := m, pc := pc + 6, locals := ls, stack := .ref sa :: .ref T.heap.size :: .ref T.heap.size :: rest, locked := none }) rfl hsize rfl rfl (rest := rest) rfl
    (by rw [hb]; exact d6) (by rw [hb]; exact d9) hout hRframes (by simp only [List.map_cons, List.sum_cons, hcat]; omega) hlocks
  obtain ⟨f1, f2⟩ := vx_frame hsame
  rw [hhp] at f1 f2
  have hWs : s.WarmedH U.vm := State.WarmedH.trans hW0 hW
  have hcl : s.vm.findClass cls = some ce.cls := by
    have h9 := hO2
    rw [hvm] at h9
    exact h9
  have hall : s.sameButNew ({ U with vm := s.vm } : State) locs mc ms := by
    subst hA
    obtain ⟨e1, e2⟩ := hsame
    rw [State.setFrames_setFrames] at e1
    have h2 : (T.setVm s.vm).sameButNew ({ U with vm := s.vm } : State) [] (0 + 1) (0 + 6) := ⟨e1, e2⟩
    have h3 := X.same.trans h2
    rw [List.append_nil] at h3
    exact h3.mono hc hs
  refine ⟨U, ?_, .threw T.heap.size, hrun, hend, Or.inr ⟨T.heap.size, rfl, cls, ce, locs, hx U hWs.alike f1 (fun q hq => f2 q hq (fun z hz => nomatch hz)), hce, hO1, hcl, hWs, hall, hf⟩⟩
  refine st1 _ ?_
  show Steps p.tables e below (T1.setTop { method := m, pc := pc + 3, locals := ls, stack := .ref T.heap.size :: rest, locked := none }) _
  jvm_step X₁.here [X₁.here.top, hexec, d3', Value.category]
  exact X₁.ldcString hexec (own := own) (text := text) (index := is) (a := sa) hown' hstr'.1 hstr'.2
    (g := { method := m, pc := pc + 4, locals := ls, stack := .ref T.heap.size :: .ref T.heap.size :: rest, locked := none }) rfl d4' _ hsteps
end ZY
/-- the site of it -/
def zThrX (M : zMI) (pc : Nat) : Prop := ∃ (ik is ic k : Nat) (text : String), decode M.2.1 pc = .ok (.new ik, 3) ∧ decode M.2.1 (pc + 3) = .ok (.dup, 1) ∧ decode M.2.1 (pc + 4) = .ok (.ldc is, 2) ∧ decode M.2.1 (pc + 6) = .ok (.invokespecial ic, 3) ∧ decode M.2.1 (pc + 9) = .ok (.athrow, 1) ∧
  zStr[k]? = some (M.1.cls, is, text) ∧ Cond.classLink M.1.cls ik "java/util/NoSuchElementException" ∈ M.2.2.2.2.1 ∧ Cond.initialized "java/util/NoSuchElementException" ∈ M.2.2.2.2.1 ∧ (∀ w ∈ ((zOwnX M.1.cls ic "java/util/NoSuchElementException" 13 prog_18_method_4_code "java/lang/RuntimeException" ["java/lang/Exception"]).filter vx_no).filter goodWord, w ∈ M.2.2.2.2.1) ∧
  (∀ w ∈ ((zOwnX M.1.cls ic "java/util/NoSuchElementException" 13 prog_18_method_4_code "java/lang/RuntimeException" ["java/lang/Exception"]).filter vx_no).filter (fun w => !goodWord w), w ∈ zCs.map (fun q => Cond.castable q.1 q.2) ++ zDs.map Cond.declares) ∧
  (∀ w ∈ Cond.classLink M.1.cls ik "java/util/NoSuchElementException" :: Cond.initialized "java/util/NoSuchElementException" :: (zOwnX M.1.cls ic "java/util/NoSuchElementException" 13 prog_18_method_4_code "java/lang/RuntimeException" ["java/lang/Exception"]).filter vx_no, vx_ot w = true) ∧ M.2.2.2.2.2.2 = [] ∧ 5 < M.2.2.2.2.2.1.frames
theorem e_thrX {l : Launch} {G : zGP} {M : zMI} {pc : Nat} {lc st : List Value} {hp : List va_E} {cs sl : Nat} {R : zRes} (d : zThrX M pc) (hlo : (st.map fun v => v.category).sum + (13 * 3 + 43) ≤ M.2.2.2.2.2.1.locals) (hcs : cs + 1 ≤ M.2.2.2.2.2.1.cells) (hsl : sl + 6 ≤ M.2.2.2.2.2.1.slots) (hR : R = (.inr "java/util/NoSuchElementException", hp)) : Ev l G M pc lc st hp cs sl R := by
  subst hR
  obtain ⟨ik, is, ic, k, text, d0, d3, d4, d6, d9, hstr, w1, w2, w3, w4, w5, hh, hfr⟩ := d
  intro p e s m args below meth c H locs ls cst ws env0 hC hS hl hst hw hx0
  have htb : c.exceptionTable.toList = [] := by rw [hC.2.2.2.2.2.2.2.2.1, hh]; rfl
  refine zThrowX (cls := "java/util/NoSuchElementException") (Y := "java/lang/RuntimeException") (r := ["java/lang/Exception"]) (ix := 13) (rx := prog_18_method_4_code) (text := text) (ik := ik) (is := is) (ic := ic) (A := zA G) (sa := G.2.2.2.2.2.2 k) hC.1 hC.2.1 hC.I.1 hC.own (by decide +kernel) (by decide +kernel) (by decide +kernel) (by decide +kernel) (by decide +kernel) (by decide +kernel) (by decide +kernel) (hC.ts _ w1) (hC.ts _ w2) (hC.I.2.2.2.2.2.1 k _ hstr) (vx_hat (B := zCs.map (fun q => Cond.castable q.1 q.2) ++ zDs.map Cond.declares) (fun w hw9 => hC.ts w (w3 w hw9)) w4 (fun w hw9 => ?_)) w5 hC.I.2.2.2.2.2.2.1 hC.I.2.2.2.2.2.2.2.1 hS (hl.1.trans hC.2.2.1.symm) d0 d3 d4 d6 d9 (fun z hz => by rw [htb] at hz; cases hz) hfr (by rw [hst.cats]; exact hlo) hcs hsl hC.lk (fun t hvm hz hk => ⟨ws, rfl, hw.kept hk, hx0, Nat.le_trans hS.1 hz, fun q h1 h2 => (hk q (Nat.lt_of_lt_of_le h1 hS.1)).trans (hS.2.1 q h1 h2)⟩) hS.2.2 hcs hsl
  rcases List.mem_append.mp hw9 with h | h
  · obtain ⟨q, hq, rfl⟩ := List.mem_map.mp h
    exact va_Nw.use rfl (hC.I.2.2.2.2.2.2.2.2.1 q hq)
  · obtain ⟨y, hy, rfl⟩ := List.mem_map.mp h
    exact va_Nw.use rfl (hC.I.2.2.2.2.2.2.2.2.2.1 y hy)
set_option maxRecDepth 100000 in
theorem wx_1 : (Jvm.Cond.classLink "BufferedCores" (211 : Nat) "java/util/NoSuchElementException") ∈ zT := zT.of (i := 495) (by decide +kernel) (by decide +kernel)
set_option maxRecDepth 100000 in
theorem wx_2 : (Jvm.Cond.initialized "java/util/NoSuchElementException") ∈ zT := zT.of (i := 16) (by decide +kernel) (by decide +kernel)
set_option maxRecDepth 100000 in
theorem wx_3 : ∀ w ∈ ((zOwnX "BufferedCores" 215 "java/util/NoSuchElementException" 13 prog_18_method_4_code "java/lang/RuntimeException" ["java/lang/Exception"]).filter vx_no).filter goodWord, w ∈ lw_tbl := by decide +kernel
set_option maxRecDepth 100000 in
theorem s_B_requireStore_12 : zThrX m_B_requireStore 12 := ⟨211, 234, 215, 6, "no such store", d_B_requireStore_12, d_B_requireStore_15, d_B_requireStore_16, d_B_requireStore_18, d_B_requireStore_21, rfl, List.mem_cons_of_mem _ wx_1, List.mem_cons_of_mem _ wx_2, fun w hw => List.mem_cons_of_mem _ (zT.at (wx_3 w hw) (List.mem_filter.mp hw).2), by decide +kernel, by decide +kernel, rfl, by decide⟩
set_option maxRecDepth 100000 in
theorem s_B_requireEvent_11 : zThrX m_B_requireEvent 11 := ⟨211, 239, 215, 9, "no such event", d_B_requireEvent_11, d_B_requireEvent_14, d_B_requireEvent_15, d_B_requireEvent_17, d_B_requireEvent_20, rfl, List.mem_cons_of_mem _ wx_1, List.mem_cons_of_mem _ wx_2, fun w hw => List.mem_cons_of_mem _ (zT.at (wx_3 w hw) (List.mem_filter.mp hw).2), by decide +kernel, by decide +kernel, rfl, by decide⟩
set_option maxRecDepth 100000 in
theorem s_B_cached_26 : zThrX m_B_cached 26 := ⟨211, 213, 215, 8, "the core has not the word", d_B_cached_26, d_B_cached_29, d_B_cached_30, d_B_cached_32, d_B_cached_35, rfl, List.mem_cons_of_mem _ wx_1, List.mem_cons_of_mem _ wx_2, fun w hw => List.mem_cons_of_mem _ (zT.at (wx_3 w hw) (List.mem_filter.mp hw).2), by decide +kernel, by decide +kernel, rfl, by decide⟩
