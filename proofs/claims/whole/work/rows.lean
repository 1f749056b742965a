section
-- ===== PART A: goes FIRST, ahead of the names: the tables' words, and 'selects' of the private methods out of them =====
/-- a private method of a class that the tables say can be made, by its rows of tables_1 -/
def lw_okq (q : MethodName × Nat) : Prop := (q.1.cls ≠ "java/lang/invoke/MethodHandle" ∧ q.1.cls ≠ "java/lang/invoke/VarHandle") ∧ Cond.instantiable q.1.cls q.2 ∈ tables_1 ∧ Cond.privateMethod q.1 ∈ tables_1 ∧ Cond.instanceMethod q.1 ∈ tables_1
theorem lw_p0 : lw_okq (⟨"BufferedCores", "coreAt", "(I)LBufferedCores$Core;"⟩, 3) := ⟨⟨by decide +kernel, by decide +kernel⟩, List.mem_of_getElem? (i := 18) (by decide +kernel), List.mem_of_getElem? (i := 199) (by decide +kernel), List.mem_of_getElem? (i := 200) (by decide +kernel)⟩
theorem lw_p1 : lw_okq (⟨"java/lang/Throwable", "fillInStackTrace", "(I)Ljava/lang/Throwable;"⟩, 6) := ⟨⟨by decide +kernel, by decide +kernel⟩, List.mem_of_getElem? (i := 242) (by decide +kernel), List.mem_of_getElem? (i := 240) (by decide +kernel), List.mem_of_getElem? (i := 241) (by decide +kernel)⟩
theorem lw_p2 : lw_okq (⟨"BufferedCores", "isInUse", "(I)Z"⟩, 3) := ⟨⟨by decide +kernel, by decide +kernel⟩, List.mem_of_getElem? (i := 18) (by decide +kernel), List.mem_of_getElem? (i := 325) (by decide +kernel), List.mem_of_getElem? (i := 326) (by decide +kernel)⟩
theorem lw_p3 : lw_okq (⟨"BufferedCores", "execute", "(LBufferedCores$Core;III)I"⟩, 3) := ⟨⟨by decide +kernel, by decide +kernel⟩, List.mem_of_getElem? (i := 18) (by decide +kernel), List.mem_of_getElem? (i := 349) (by decide +kernel), List.mem_of_getElem? (i := 350) (by decide +kernel)⟩
theorem lw_p4 : lw_okq (⟨"BufferedCores", "executeLoad", "(LBufferedCores$Core;II)I"⟩, 3) := ⟨⟨by decide +kernel, by decide +kernel⟩, List.mem_of_getElem? (i := 18) (by decide +kernel), List.mem_of_getElem? (i := 353) (by decide +kernel), List.mem_of_getElem? (i := 354) (by decide +kernel)⟩
theorem lw_p5 : lw_okq (⟨"BufferedCores", "executeSwap", "(LBufferedCores$Core;II)I"⟩, 3) := ⟨⟨by decide +kernel, by decide +kernel⟩, List.mem_of_getElem? (i := 18) (by decide +kernel), List.mem_of_getElem? (i := 389) (by decide +kernel), List.mem_of_getElem? (i := 390) (by decide +kernel)⟩
theorem lw_p6 : lw_okq (⟨"BufferedCores", "isInFlightElsewhere", "(LBufferedCores$Core;I)Z"⟩, 3) := ⟨⟨by decide +kernel, by decide +kernel⟩, List.mem_of_getElem? (i := 18) (by decide +kernel), List.mem_of_getElem? (i := 420) (by decide +kernel), List.mem_of_getElem? (i := 421) (by decide +kernel)⟩
theorem lw_p7 : lw_okq (⟨"BufferedCores", "makeRoom", "(LBufferedCores$Line;I)V"⟩, 3) := ⟨⟨by decide +kernel, by decide +kernel⟩, List.mem_of_getElem? (i := 18) (by decide +kernel), List.mem_of_getElem? (i := 424) (by decide +kernel), List.mem_of_getElem? (i := 425) (by decide +kernel)⟩
theorem lw_p8 : lw_okq (⟨"BufferedCores", "writeBack", "(LBufferedCores$Line;)V"⟩, 3) := ⟨⟨by decide +kernel, by decide +kernel⟩, List.mem_of_getElem? (i := 18) (by decide +kernel), List.mem_of_getElem? (i := 428) (by decide +kernel), List.mem_of_getElem? (i := 429) (by decide +kernel)⟩
theorem lw_p9 : lw_okq (⟨"BufferedCores", "wordAt", "(I)I"⟩, 3) := ⟨⟨by decide +kernel, by decide +kernel⟩, List.mem_of_getElem? (i := 18) (by decide +kernel), List.mem_of_getElem? (i := 432) (by decide +kernel), List.mem_of_getElem? (i := 433) (by decide +kernel)⟩
theorem lw_p10 : lw_okq (⟨"BufferedCores", "giveWay", "(LBufferedCores$Line;II)V"⟩, 3) := ⟨⟨by decide +kernel, by decide +kernel⟩, List.mem_of_getElem? (i := 18) (by decide +kernel), List.mem_of_getElem? (i := 436) (by decide +kernel), List.mem_of_getElem? (i := 437) (by decide +kernel)⟩
theorem lw_p11 : lw_okq (⟨"BufferedCores", "isHeldElsewhere", "(LBufferedCores$Core;I)Z"⟩, 3) := ⟨⟨by decide +kernel, by decide +kernel⟩, List.mem_of_getElem? (i := 18) (by decide +kernel), List.mem_of_getElem? (i := 451) (by decide +kernel), List.mem_of_getElem? (i := 452) (by decide +kernel)⟩
theorem lw_p12 : lw_okq (⟨"BufferedCores", "requireEvent", "(I)V"⟩, 3) := ⟨⟨by decide +kernel, by decide +kernel⟩, List.mem_of_getElem? (i := 18) (by decide +kernel), List.mem_of_getElem? (i := 563) (by decide +kernel), List.mem_of_getElem? (i := 564) (by decide +kernel)⟩
theorem lw_p13 : lw_okq (⟨"BufferedCoresModel", "core", "(I)Z"⟩, 22) := ⟨⟨by decide +kernel, by decide +kernel⟩, List.mem_of_getElem? (i := 579) (by decide +kernel), List.mem_of_getElem? (i := 661) (by decide +kernel), List.mem_of_getElem? (i := 662) (by decide +kernel)⟩
theorem lw_p14 : lw_okq (⟨"BufferedCoresModel", "has", "(II)Z"⟩, 22) := ⟨⟨by decide +kernel, by decide +kernel⟩, List.mem_of_getElem? (i := 579) (by decide +kernel), List.mem_of_getElem? (i := 672) (by decide +kernel), List.mem_of_getElem? (i := 673) (by decide +kernel)⟩
theorem lw_p15 : lw_okq (⟨"BufferedCoresModel", "lineOf", "(II)I"⟩, 22) := ⟨⟨by decide +kernel, by decide +kernel⟩, List.mem_of_getElem? (i := 579) (by decide +kernel), List.mem_of_getElem? (i := 676) (by decide +kernel), List.mem_of_getElem? (i := 677) (by decide +kernel)⟩
def lw_privs_1 : List (MethodName × Nat) := [(⟨"BufferedCores", "coreAt", "(I)LBufferedCores$Core;"⟩, 3), (⟨"java/lang/Throwable", "fillInStackTrace", "(I)Ljava/lang/Throwable;"⟩, 6), (⟨"BufferedCores", "isInUse", "(I)Z"⟩, 3), (⟨"BufferedCores", "execute", "(LBufferedCores$Core;III)I"⟩, 3), (⟨"BufferedCores", "executeLoad", "(LBufferedCores$Core;II)I"⟩, 3), (⟨"BufferedCores", "executeSwap", "(LBufferedCores$Core;II)I"⟩, 3), (⟨"BufferedCores", "isInFlightElsewhere", "(LBufferedCores$Core;I)Z"⟩, 3), (⟨"BufferedCores", "makeRoom", "(LBufferedCores$Line;I)V"⟩, 3), (⟨"BufferedCores", "writeBack", "(LBufferedCores$Line;)V"⟩, 3), (⟨"BufferedCores", "wordAt", "(I)I"⟩, 3), (⟨"BufferedCores", "giveWay", "(LBufferedCores$Line;II)V"⟩, 3), (⟨"BufferedCores", "isHeldElsewhere", "(LBufferedCores$Core;I)Z"⟩, 3), (⟨"BufferedCores", "requireEvent", "(I)V"⟩, 3), (⟨"BufferedCoresModel", "core", "(I)Z"⟩, 22), (⟨"BufferedCoresModel", "has", "(II)Z"⟩, 22), (⟨"BufferedCoresModel", "lineOf", "(II)I"⟩, 22)]
theorem lw_r1 : ∀ q ∈ lw_privs_1, lw_okq q := List.forall_mem_cons.mpr ⟨lw_p0, List.forall_mem_cons.mpr ⟨lw_p1, List.forall_mem_cons.mpr ⟨lw_p2, List.forall_mem_cons.mpr ⟨lw_p3, List.forall_mem_cons.mpr ⟨lw_p4, List.forall_mem_cons.mpr ⟨lw_p5, List.forall_mem_cons.mpr ⟨lw_p6, List.forall_mem_cons.mpr ⟨lw_p7, List.forall_mem_cons.mpr ⟨lw_p8, List.forall_mem_cons.mpr ⟨lw_p9, List.forall_mem_cons.mpr ⟨lw_p10, List.forall_mem_cons.mpr ⟨lw_p11, List.forall_mem_cons.mpr ⟨lw_p12, List.forall_mem_cons.mpr ⟨lw_p13, List.forall_mem_cons.mpr ⟨lw_p14, List.forall_mem_cons.mpr ⟨lw_p15, fun _ h => absurd h List.not_mem_nil⟩⟩⟩⟩⟩⟩⟩⟩⟩⟩⟩⟩⟩⟩⟩⟩
theorem lw_p16 : lw_okq (⟨"BufferedCoresModel", "act", "(IIII)I"⟩, 22) := ⟨⟨by decide +kernel, by decide +kernel⟩, List.mem_of_getElem? (i := 579) (by decide +kernel), List.mem_of_getElem? (i := 684) (by decide +kernel), List.mem_of_getElem? (i := 685) (by decide +kernel)⟩
theorem lw_p17 : lw_okq (⟨"BufferedCoresModel", "load", "(III)I"⟩, 22) := ⟨⟨by decide +kernel, by decide +kernel⟩, List.mem_of_getElem? (i := 579) (by decide +kernel), List.mem_of_getElem? (i := 688) (by decide +kernel), List.mem_of_getElem? (i := 689) (by decide +kernel)⟩
theorem lw_p18 : lw_okq (⟨"BufferedCoresModel", "ask", "(IIZ)V"⟩, 22) := ⟨⟨by decide +kernel, by decide +kernel⟩, List.mem_of_getElem? (i := 579) (by decide +kernel), List.mem_of_getElem? (i := 692) (by decide +kernel), List.mem_of_getElem? (i := 693) (by decide +kernel)⟩
theorem lw_p19 : lw_okq (⟨"BufferedCoresModel", "note", "(IIII)V"⟩, 22) := ⟨⟨by decide +kernel, by decide +kernel⟩, List.mem_of_getElem? (i := 579) (by decide +kernel), List.mem_of_getElem? (i := 696) (by decide +kernel), List.mem_of_getElem? (i := 697) (by decide +kernel)⟩
theorem lw_p20 : lw_okq (⟨"BufferedCoresModel", "store", "(III)I"⟩, 22) := ⟨⟨by decide +kernel, by decide +kernel⟩, List.mem_of_getElem? (i := 579) (by decide +kernel), List.mem_of_getElem? (i := 700) (by decide +kernel), List.mem_of_getElem? (i := 701) (by decide +kernel)⟩
theorem lw_p21 : lw_okq (⟨"BufferedCoresModel", "swap", "(III)I"⟩, 22) := ⟨⟨by decide +kernel, by decide +kernel⟩, List.mem_of_getElem? (i := 579) (by decide +kernel), List.mem_of_getElem? (i := 704) (by decide +kernel), List.mem_of_getElem? (i := 705) (by decide +kernel)⟩
theorem lw_p22 : lw_okq (⟨"BufferedCoresModel", "owns", "(II)Z"⟩, 22) := ⟨⟨by decide +kernel, by decide +kernel⟩, List.mem_of_getElem? (i := 579) (by decide +kernel), List.mem_of_getElem? (i := 708) (by decide +kernel), List.mem_of_getElem? (i := 709) (by decide +kernel)⟩
theorem lw_p23 : lw_okq (⟨"BufferedCoresModel", "writeBack", "(I)V"⟩, 22) := ⟨⟨by decide +kernel, by decide +kernel⟩, List.mem_of_getElem? (i := 579) (by decide +kernel), List.mem_of_getElem? (i := 720) (by decide +kernel), List.mem_of_getElem? (i := 721) (by decide +kernel)⟩
theorem lw_p24 : lw_okq (⟨"BufferedCoresModel", "wordAt", "(I)I"⟩, 22) := ⟨⟨by decide +kernel, by decide +kernel⟩, List.mem_of_getElem? (i := 579) (by decide +kernel), List.mem_of_getElem? (i := 724) (by decide +kernel), List.mem_of_getElem? (i := 725) (by decide +kernel)⟩
def lw_privs_2 : List (MethodName × Nat) := [(⟨"BufferedCoresModel", "act", "(IIII)I"⟩, 22), (⟨"BufferedCoresModel", "load", "(III)I"⟩, 22), (⟨"BufferedCoresModel", "ask", "(IIZ)V"⟩, 22), (⟨"BufferedCoresModel", "note", "(IIII)V"⟩, 22), (⟨"BufferedCoresModel", "store", "(III)I"⟩, 22), (⟨"BufferedCoresModel", "swap", "(III)I"⟩, 22), (⟨"BufferedCoresModel", "owns", "(II)Z"⟩, 22), (⟨"BufferedCoresModel", "writeBack", "(I)V"⟩, 22), (⟨"BufferedCoresModel", "wordAt", "(I)I"⟩, 22)]
theorem lw_r2 : ∀ q ∈ lw_privs_2, lw_okq q := List.forall_mem_cons.mpr ⟨lw_p16, List.forall_mem_cons.mpr ⟨lw_p17, List.forall_mem_cons.mpr ⟨lw_p18, List.forall_mem_cons.mpr ⟨lw_p19, List.forall_mem_cons.mpr ⟨lw_p20, List.forall_mem_cons.mpr ⟨lw_p21, List.forall_mem_cons.mpr ⟨lw_p22, List.forall_mem_cons.mpr ⟨lw_p23, List.forall_mem_cons.mpr ⟨lw_p24, fun _ h => absurd h List.not_mem_nil⟩⟩⟩⟩⟩⟩⟩⟩⟩
def lw_privs : List (MethodName × Nat) := lw_privs_1 ++ (lw_privs_2)
def lw_tbl : List Cond := k2_sels lw_privs ++ tables_1
theorem lw_privs_ok : ∀ q ∈ lw_privs, lw_okq q := by
  show ∀ q ∈ lw_privs_1 ++ (lw_privs_2), lw_okq q
  exact List.forall_mem_append.mpr ⟨lw_r1, lw_r2⟩
/-! ===== BEGIN words of one list among another's, by their places ===== -/
theorem goodIn_r {big : List Cond} (ws : List Cond) (ps : List Nat) (hp : ws = ps.filterMap (fun i => big[i]?)) (h : ws.all goodWord = true) : GoodIn big ws := by
  intro w hw
  have h1 := List.all_eq_true.mp h w hw
  rw [hp] at hw
  obtain ⟨i, -, hi⟩ := List.mem_filterMap.mp hw
  have hm : w ∈ big := by first | exact List.mem_of_getElem? hi | exact List.getElem?_mem hi
  exact ⟨hm, good_of_word h1⟩
theorem goodIn_app {big a b : List Cond} (ha : GoodIn big a) (hb : GoodIn big b) : GoodIn big (a ++ b) := fun w h => (List.mem_append.mp h).elim (ha w) (hb w)
theorem goodIn_ca {big a b : List Cond} {c : Cond} (ha : GoodIn big (c :: a)) (hb : GoodIn big b) : GoodIn big (c :: (a ++ b)) := fun w h => (List.mem_cons.mp h).elim (fun e => ha w (List.mem_cons.mpr (Or.inl e))) (fun h => (List.mem_append.mp h).elim (fun h => ha w (List.mem_cons.mpr (Or.inr h))) (hb w))
theorem goodIn_sub {big ws : List Cond} (hm : ∀ w ∈ ws, w ∈ big) (h : ws.all goodWord = true) : GoodIn big ws := fun w hw => ⟨hm w hw, good_of_word (List.all_eq_true.mp h w hw)⟩
/-! ===== END ===== -/

/-! ===== BEGIN exceptions that leave a method, and their catching by the caller (launches without stack traces) ===== -/
section VXA
/-! The laws vx_back, vx_callV, vx_callS, vx_callSW, vx_throw0, vx_throwS follow proofs of the library, with one case more: JvmDerived/Free/Laws.lean (Back.of_free), Shelf42/LK1.lean (callV, callS), Shelf/KitTraced.lean (throwNew0V, throwNewS). -/
/-- where a method has thrown q: the class by its name, the cell, what was written, the world -/
def vx_T (XC : String → State → State → Prop) (st : State) (q : Addr) (t : State) (mc ms : Nat) (free : Addr → Prop) : Prop :=
  ∃ (E : String) (ce : Cell) (L : List Loc), XC E st t ∧ t.heap[q]? = some ce ∧ ce.vm = .none ∧ st.vm.findClass E = some ce.cls ∧ st.WarmedH t.vm ∧ st.sameButNew ({ t with vm := st.vm } : State) L mc ms ∧ ∀ z ∈ L, free z.base
def vx_Q (Qc : Array Value → State → Outcome → State → Prop) (XC : String → State → State → Prop) (mc ms : Nat) (free : Addr → Prop) : Array Value → State → Outcome → State → Prop := fun a st o t =>
  (Qc a st o t ∧ ∃ L, FrameEnd st o t L mc ms ∧ ∀ q ∈ L, free q.base) ∨ ∃ q, o = .threw q ∧ vx_T XC st q t mc ms free
/-- a callee that returns or throws -/
def vx_Met (l : Launch) (y : MethodName) (ws : List Cond) (rm : Room) (Pc : Array Value → State → Prop) (Qc : Array Value → State → Outcome → State → Prop) (XC : String → State → State → Prop) (mc ms : Nat) (free : Addr → Prop) : Prop :=
  MetFree l y (headSpec ws rm) Pc (fun _ _ _ _ _ => True) (vx_Q Qc XC mc ms free)
def vx_Post (XC : String → State → State → Prop) (mc ms : Nat) (free : Addr → Prop) : Pt → Array Value → Addr → Pt → Prop := fun A a q B =>
  ∃ (g : JFrame) (mk : MethodId) (t : State) (L : List Loc) (E : String) (ce : Cell), B.U.heap = t.heap ∧ B.U.vm = t.vm ∧ XC E (A.U.calling g mk a) t ∧ t.heap[q]? = some ce ∧ ce.vm = .none ∧ A.U.vm.findClass E = some ce.cls ∧ B.locs = A.locs ++ L ∧ (∀ z ∈ L, free z.base) ∧ B.cells = A.cells + mc ∧ B.slots = A.slots + ms
def vx_Back (l : Launch) (R : Room) (p : Program) (e : Env) (below : List Frame) (s : State) (sargs : Array Value) (y : MethodName) (len W9 : Nat)
    (Pre : Pt → Array Value → Prop) (Post : Pt → Array Value → Option Value → Pt → Prop) (PostX : Pt → Array Value → Addr → Pt → Prop) : Prop :=
  ∀ (m : MethodId) (meth : Method) (c : Code) (A : Pt) (g : JFrame) (ig : Instr) (mk : MethodId) (a : Array Value),
    Stand p l e R s m sargs below meth c A.U A.locs A.cells A.slots → g.method = m → g.locals.size = c.maxLocals → decode c.code g.pc = .ok (ig, len) →
    2 * g.monitorRoom + (g.stack.map fun v => v.category).sum ≤ W9 → A.U.methodNamed? y = some mk → Pre A a →
    (∃ (v : Option Value) (B : Pt), Stand p l e R s m sargs below meth c B.U B.locs B.cells B.slots ∧ Post A a v B ∧
      Steps p.tables e below (doInvoke e (A.U.setTop g) [] mk a).1 (B.U.setTop { g with pc := g.pc + len, stack := v.toList ++ g.stack })) ∨
    (∃ (q : Addr) (B : Pt), Stand p l e R s m sargs below meth c B.U B.locs B.cells B.slots ∧ PostX A a q B ∧
      Steps p.tables e below (doInvoke e (A.U.setTop g) [] mk a).1 ((B.U.setTop g).pushFrame (.throwing q)))
section Payer
variable {l : Launch} {R : Room} {p : Program} {e : Env} {below : List Frame} {s : State} {sargs : Array Value} {y : MethodName} {len W9 : Nat}
theorem vx_back {ws : List Cond} {rm : Room} {Pc : Array Value → State → Prop} {Qc : Array Value → State → Outcome → State → Prop} {XC : String → State → State → Prop} {mc ms : Nat} {free : Addr → Prop} {bytes : ByteArray} {maxL : Nat} {ret : Option FieldType}
    (hM : vx_Met l y ws rm Pc Qc XC mc ms free) (hblind : FrameBlind Pc) (hrc : rm.cells = mc) (hrs : rm.slots = ms)
    (hframes : rm.frames + 1 ≤ R.frames) (hlocals : W9 + (maxL + 11) + rm.locals ≤ R.locals)
    (hws : ∀ w ∈ ws, ∀ a' U, s.WarmedH U.vm → w.before a' U = true) (hcode : Cond.code y bytes maxL ret ∈ ws) (hinit : ∀ a' U, s.WarmedH U.vm → (Cond.initialized y.cls).before a' U = true) :
    vx_Back l R p e below s sargs y len W9 (PreOf R mc ms Pc) (PostOf Qc mc ms free) (vx_Post XC mc ms free) := by
  intro m meth c A g ig mk a X hg hsize hdg hW hn hp
  have h1 : (headSpec ws rm).pre.before a A.U = true := atoms_intro fun w hw => hws w hw _ _ X.warmed
  have h2 : (Cond.code y bytes maxL ret).before a A.U = true := hws _ hcode _ _ X.warmed
  have h3 : (Cond.initialized y.cls).before a A.U = true := hinit _ _ X.warmed
  have h4 : A.cells + (headSpec ws rm).room.cells ≤ R.cells := by rw [show (headSpec ws rm).room.cells = mc from hrc]; exact hp.1
  have h5 : A.slots + (headSpec ws rm).room.slots ≤ R.slots := by rw [show (headSpec ws rm).room.slots = ms from hrs]; exact hp.2.1
  have hPc : Pc a (A.U.calling g mk a) := hblind _ _ _ _ hp.2.2
  obtain ⟨U, Ls, c0, s0⟩ := A
  dsimp only [Pt.U, Pt.locs, Pt.cells, Pt.slots] at h1 h2 h3 h4 h5 X hn hPc ⊢
  obtain ⟨methY, cY, hmY, hcY, -, hlY, -, -, -, -⟩ := Cond.code_spec hn h2
  obtain ⟨kY, hkY, -⟩ := className_of_methodNamed hn
  have hinitY : kY.init = .initialized := Cond.initialized_spec (findClass_of_methodNamed hn) hkY h3
  have h : At U g.method c below := by rw [hg]; exact X.here
  have hlocals9 : W9 + (maxL + 11) + (headSpec ws rm).room.locals ≤ R.locals := hlocals
  have happ : (headSpec ws rm).appliesLoose y e.platform (U.calling g mk a) = true :=
    Spec.appliesLoose_calling (g := g) h hdg hn hkY hinitY
      (X.room_calling (g := g) (R' := (headSpec ws rm).room) hsize hmY hcY hframes (by rw [hlY]; omega) h4 h5) h1
  obtain ⟨mid, hmid⟩ := h.above
  have hfr : (U.setTop g).frames = (.java g :: mid) ++ below := by rw [State.frames_setTop' g h.top, hmid]; rfl
  obtain ⟨o, s₂, hsteps, -, hend, hq⟩ := Steps.callFree hM p X.admits X.cas X.clock (acts := []) hfr happ hPc trivial
  have hq' : vx_Q Qc XC mc ms free a (U.calling g mk a) o s₂ := hq
  rw [State.frames_setTop' g h.top] at hend
  obtain ⟨g₀, hg0⟩ := Option.isSome_iff_exists.mp h.top
  obtain ⟨r, hr⟩ := State.topJava?_eq_some.mp hg0
  have hr' : (({ U with heap := s₂.heap, slotsUsed := s₂.slotsUsed } : State).setVm s₂.vm).frames = .java g₀ :: r := hr
  rcases hq' with ⟨hqc, L, hfe, hL⟩ | ⟨q, rfl, E, ce, L, hx, hce, hcv, hcl, hW₂, hsm, hL⟩
  · obtain ⟨⟨v, rfl⟩, hW₂, e2, q2, q3, q4, q5, q6⟩ := id hfe
    have e3 : s₂ = ({ (U.calling g mk a).setFrames s₂.frames with heap := s₂.heap, slotsUsed := s₂.slotsUsed } : State).setVm s₂.vm := by
      have : s₂ = ({ s₂ with vm := (U.calling g mk a).vm } : State).setVm s₂.vm := rfl
      rw [e2] at this
      exact this
    obtain ⟨c₂, i₂, len₂, hc₂, hd₂, hf₂⟩ := hend
    have hW' : U.WarmedH s₂.vm := hW₂
    have hcc : c₂ = c := by
      have h1 : s₂.code? g.method = U.code? g.method := by
        rw [State.code?_eq, State.code?_eq, hW'.alike.method?]
      exact Option.some.inj (hc₂.symm.trans (h1.trans h.code))
    subst hcc
    have hlen : len₂ = len := by rw [hdg] at hd₂; cases hd₂; rfl
    subst hlen
    have hs₂ : s₂ = (({ U with heap := s₂.heap, slotsUsed := s₂.slotsUsed } : State).setVm s₂.vm).setTop { g with pc := g.pc + len₂, stack := v.toList ++ g.stack } := by
      refine e3.trans ?_
      rw [hf₂, State.calling_eq h.top, State.setFrames_setFrames, State.setTop_of_frames _ hr', hr]
      rfl
    have hsame : U.sameButNew ({ U with heap := s₂.heap, slotsUsed := s₂.slotsUsed } : State) L mc ms := by
      refine ⟨?_, q2, q3, q4, q5, q6⟩
      obtain ⟨t, ht, -⟩ := State.frames_cons hr
      show ({ U with heap := s₂.heap, slotsUsed := s₂.slotsUsed } : State) = { U.setFrames U.frames with heap := s₂.heap, slotsUsed := s₂.slotsUsed }
      rw [State.setFrames_self ht]
    subst hg
    refine Or.inl ⟨v, ⟨(({ U with heap := s₂.heap, slotsUsed := s₂.slotsUsed } : State).setVm s₂.vm), Ls ++ L, c0 + mc, s0 + ms⟩,
      ⟨X.admits, X.cas, X.clock, X.frames, X.room, X.hears, X.method, X.code, (X.here.setHeapUsed s₂.heap s₂.slotsUsed).setVm hW'.alike, X.tail, State.WarmedH.trans X.warmed hW', X.limits, X.bytes, X.same.trans (hsame.setVm s.vm)⟩,
      ⟨g, mk, s₂, L, rfl, rfl, hqc, rfl, hL, rfl, rfl⟩, ?_⟩
    show Steps p.tables e below _ ((({ U with heap := s₂.heap, slotsUsed := s₂.slotsUsed } : State).setVm s₂.vm).setTop { g with pc := g.pc + len₂, stack := v.toList ++ g.stack })
    rw [← hs₂]
    exact hsteps
  · obtain ⟨e2, q2, q3, q4, q5, q6⟩ := id hsm
    have e3 : s₂ = ({ (U.calling g mk a).setFrames s₂.frames with heap := s₂.heap, slotsUsed := s₂.slotsUsed } : State).setVm s₂.vm := by
      have : s₂ = ({ s₂ with vm := (U.calling g mk a).vm } : State).setVm s₂.vm := rfl
      rw [e2] at this
      exact this
    have hf₂ : s₂.frames = .throwing q :: .java g :: U.frames.tail := hend
    have hW' : U.WarmedH s₂.vm := hW₂
    have hs₂ : s₂ = ((({ U with heap := s₂.heap, slotsUsed := s₂.slotsUsed } : State).setVm s₂.vm).setTop g).pushFrame (.throwing q) := by
      refine e3.trans ?_
      rw [hf₂, State.calling_eq h.top, State.setFrames_setFrames, State.pushFrame, State.frames_setTop _ hr', State.setTop_of_frames _ hr', State.setFrames_setFrames, hr]
      rfl
    have hsame : U.sameButNew ({ U with heap := s₂.heap, slotsUsed := s₂.slotsUsed } : State) L mc ms := by
      refine ⟨?_, q2, q3, q4, q5, q6⟩
      obtain ⟨t, ht, -⟩ := State.frames_cons hr
      show ({ U with heap := s₂.heap, slotsUsed := s₂.slotsUsed } : State) = { U.setFrames U.frames with heap := s₂.heap, slotsUsed := s₂.slotsUsed }
      rw [State.setFrames_self ht]
    subst hg
    refine Or.inr ⟨q, ⟨(({ U with heap := s₂.heap, slotsUsed := s₂.slotsUsed } : State).setVm s₂.vm), Ls ++ L, c0 + mc, s0 + ms⟩,
      ⟨X.admits, X.cas, X.clock, X.frames, X.room, X.hears, X.method, X.code, (X.here.setHeapUsed s₂.heap s₂.slotsUsed).setVm hW'.alike, X.tail, State.WarmedH.trans X.warmed hW', X.limits, X.bytes, X.same.trans (hsame.setVm s.vm)⟩,
      ⟨g, mk, s₂, L, E, ce, rfl, rfl, hx, hce, hcv, hcl, rfl, hL, rfl, rfl⟩, ?_⟩
    show Steps p.tables e below _ (((({ U with heap := s₂.heap, slotsUsed := s₂.slotsUsed } : State).setVm s₂.vm).setTop g).pushFrame (.throwing q))
    rw [← hs₂]
    exact hsteps
end Payer
section Calls
variable {p : Program} {l : Launch} {e : Env} {R : Room} {s : State} {m : MethodId} {args : Array Value} {below : List Frame} {meth : Method} {c : Code} {T : State} {locs : List Loc} {cells slots : Nat}
theorem vx_callV (X : Stand p l e R s m args below meth c T locs cells slots) (hexec : p.tables.exec = Jvm.exec) {own C : String} {index : Nat} {y : MethodName} {bytes : ByteArray} {maxL : Nat} {ret : Option FieldType}
    (hown : s.vm.findClass own = some m.cls) (hlink : (Cond.methodLink own index y).before args s = true) (hinst : (Cond.instanceMethod y).before args s = true) (hsel : (Cond.selects C y y).before args s = true)
    (hcode : (Cond.code y bytes maxL ret).before args s = true) (hy : y.cls ≠ "java/lang/invoke/MethodHandle" ∧ y.cls ≠ "java/lang/invoke/VarHandle")
    {W9 : Nat} {Pre : Pt → Array Value → Prop} {Post : Pt → Array Value → Option Value → Pt → Prop} {PostX : Pt → Array Value → Addr → Pt → Prop} (hK : vx_Back l R p e below s args y 3 W9 Pre Post PostX)
    {b : Addr} {cellB : Cell} (hcell : T.heap[b]? = some cellB) (hobj : cellB.vm.isStatics = false) (hcls : s.vm.findClass C = some cellB.cls)
    {g : JFrame} (hg : g.method = m) (hsize : g.locals.size = c.maxLocals) {argsL rest : List Value} (hlen : ∀ sig, parseMethodDescriptor y.desc = some sig → argsL.length = sig.parameters.length)
    (hstack : g.stack = argsL.reverse ++ .ref b :: rest) (hW : 2 * g.monitorRoom + (rest.map fun v => v.category).sum ≤ W9) (hdg : decode c.code g.pc = .ok (.invokevirtual index, 3))
    (hpre : ∀ vm₁, s.WarmedH vm₁ → Pre ⟨T.setVm vm₁, locs, cells, slots⟩ (Value.ref b :: argsL).toArray) :
    (∃ (v : Option Value) (vm₁ : Vm) (B : Pt), s.WarmedH vm₁ ∧ Stand p l e R s m args below meth c B.U B.locs B.cells B.slots ∧ Post ⟨T.setVm vm₁, locs, cells, slots⟩ (Value.ref b :: argsL).toArray v B ∧
      ∀ target, Steps p.tables e below (B.U.setTop { g with pc := g.pc + 3, stack := v.toList ++ rest }) target → Steps p.tables e below (T.setTop g) target) ∨
    (∃ (q : Addr) (vm₁ : Vm) (B : Pt), s.WarmedH vm₁ ∧ Stand p l e R s m args below meth c B.U B.locs B.cells B.slots ∧ PostX ⟨T.setVm vm₁, locs, cells, slots⟩ (Value.ref b :: argsL).toArray q B ∧
      Steps p.tables e below (T.setTop g) ((B.U.setTop { g with stack := rest }).pushFrame (.throwing q))) := by
  obtain ⟨mk, methM, hnamed, hmethM, hstM, habM⟩ := Cond.instanceMethod_spec hinst
  obtain ⟨methM', cM, hmethM', -, -, -, -, -, -, hsigM⟩ := Cond.code_spec hnamed hcode
  cases hmethM.symm.trans hmethM'
  obtain ⟨c2, r2, m2, q1, q2, q3, q4, kP, hkP, hkPi⟩ := Cond.selects_spec hsel
  cases hcls.symm.trans q1
  cases (State.methodFound?_of_named hnamed hy).symm.trans q2
  cases hnamed.symm.trans q3
  have hselP : selectMethod e.platform s.vm cellB.cls mk = .method mk := by rw [Launch.admits_selectMethod X.admits]; exact q4
  obtain ⟨vm₁, X₁, hstep₁⟩ := X.invokevirtual hexec hown hlink hnamed hmethM hstM hkP hkPi hy (a := b) (cell := cellB) hcell
    (fun z h => by rw [h] at hobj; cases hobj) hselP hmethM habM hkP hkPi (g := g) hg (argsL := argsL) (rest := rest) (hlen _ hsigM) hstack hdg
  rcases hK m meth c ⟨T.setVm vm₁, locs, cells, slots⟩ { g with stack := rest } (.invokevirtual index) mk (Value.ref b :: argsL).toArray X₁ hg hsize hdg hW (X₁.named hnamed) (hpre vm₁ X₁.warmed) with ⟨v, B, X', hpost, hsteps⟩ | ⟨q, B, X', hpost, hsteps⟩
  · exact Or.inl ⟨v, vm₁, B, X₁.warmed, X', hpost, fun target h => hstep₁ _ fun acts => by rw [doInvoke_state]; exact hsteps.trans h⟩
  · exact Or.inr ⟨q, vm₁, B, X₁.warmed, X', hpost, hstep₁ _ fun acts => by rw [doInvoke_state]; exact hsteps⟩
theorem vx_callS (X : Stand p l e R s m args below meth c T locs cells slots) (hexec : p.tables.exec = Jvm.exec) {own : String} {index : Nat} {y : MethodName} {bytes : ByteArray} {maxL : Nat} {ret : Option FieldType}
    (hown : s.vm.findClass own = some m.cls) (hlink : (Cond.methodLink own index y).before args s = true) (hstat : (Cond.static y).before args s = true) (hinit : (Cond.initialized y.cls).before args s = true)
    (hcode : (Cond.code y bytes maxL ret).before args s = true) (hy : y.cls ≠ "java/lang/invoke/MethodHandle" ∧ y.cls ≠ "java/lang/invoke/VarHandle")
    {W9 : Nat} {Pre : Pt → Array Value → Prop} {Post : Pt → Array Value → Option Value → Pt → Prop} {PostX : Pt → Array Value → Addr → Pt → Prop} (hK : vx_Back l R p e below s args y 3 W9 Pre Post PostX)
    {g : JFrame} (hg : g.method = m) (hsize : g.locals.size = c.maxLocals) {argsL rest : List Value} (hlen : ∀ sig, parseMethodDescriptor y.desc = some sig → argsL.length = sig.parameters.length)
    (hstack : g.stack = argsL.reverse ++ rest) (hW : 2 * g.monitorRoom + (rest.map fun v => v.category).sum ≤ W9) (hdg : decode c.code g.pc = .ok (.invokestatic index, 3))
    (hpre : ∀ vm₁, s.WarmedH vm₁ → Pre ⟨T.setVm vm₁, locs, cells, slots⟩ argsL.toArray) :
    (∃ (v : Option Value) (vm₁ : Vm) (B : Pt), s.WarmedH vm₁ ∧ Stand p l e R s m args below meth c B.U B.locs B.cells B.slots ∧ Post ⟨T.setVm vm₁, locs, cells, slots⟩ argsL.toArray v B ∧
      ∀ target, Steps p.tables e below (B.U.setTop { g with pc := g.pc + 3, stack := v.toList ++ rest }) target → Steps p.tables e below (T.setTop g) target) ∨
    (∃ (q : Addr) (vm₁ : Vm) (B : Pt), s.WarmedH vm₁ ∧ Stand p l e R s m args below meth c B.U B.locs B.cells B.slots ∧ PostX ⟨T.setVm vm₁, locs, cells, slots⟩ argsL.toArray q B ∧
      Steps p.tables e below (T.setTop g) ((B.U.setTop { g with stack := rest }).pushFrame (.throwing q))) := by
  obtain ⟨mk, hnamed⟩ := Cond.code_named hcode
  obtain ⟨methM, cM, hmethM, -, -, -, -, -, -, hsigM⟩ := Cond.code_spec hnamed hcode
  have hstatic : methM.isStatic = true := Cond.static_spec hnamed hmethM hstat
  obtain ⟨kP, hkP, -⟩ := className_of_methodNamed hnamed
  have hinitP : kP.init = .initialized := Cond.initialized_spec (findClass_of_methodNamed hnamed) hkP hinit
  obtain ⟨vm₁, X₁, hstep₁⟩ := X.invokestatic hexec hown hlink hnamed hmethM hstatic hkP hinitP hy (g := g) hg (argsL := argsL) (rest := rest) (hlen _ hsigM) hstack hdg
  rcases hK m meth c ⟨T.setVm vm₁, locs, cells, slots⟩ { g with stack := rest } (.invokestatic index) mk argsL.toArray X₁ hg hsize hdg hW (X₁.named hnamed) (hpre vm₁ X₁.warmed) with ⟨v, B, X', hpost, hsteps⟩ | ⟨q, B, X', hpost, hsteps⟩
  · exact Or.inl ⟨v, vm₁, B, X₁.warmed, X', hpost, fun target h => hstep₁ _ fun acts => by rw [doInvoke_state]; exact hsteps.trans h⟩
  · exact Or.inr ⟨q, vm₁, B, X₁.warmed, X', hpost, hstep₁ _ fun acts => by rw [doInvoke_state]; exact hsteps⟩
end Calls
theorem vx_cls {s : State} {T : State} {vm₁ : Vm} {E : String} {k : ClassId} (hW : s.WarmedH vm₁) (h : (T.setVm vm₁).vm.findClass E = some k) : s.vm.findClass E = some k := by
  have h1 : vm₁.findClass E = some k := h
  rw [hW.alike.findClass] at h1
  exact h1
/-- the method's frame g, with q thrown over it -/
def vx_W (p : Program) (l : Launch) (e : Env) (R : Room) (s : State) (m : MethodId) (args : Array Value) (below : List Frame) (meth : Method) (c : Code) (H : Heap) (locs : List Loc) (cells slots : Nat) (Q : State → Prop) (g : JFrame) (q : Addr) : Prop :=
  ∀ T : State, T.heap = H → Stand p l e R s m args below meth c T locs cells slots → ∃ t, Steps p.tables e below ((T.setTop g).pushFrame (.throwing q)) t ∧ Q t
def vx_Run (p : Program) (l : Launch) (e : Env) (R : Room) (s : State) (m : MethodId) (args : Array Value) (below : List Frame) (meth : Method) (c : Code) (H : Heap) (locs : List Loc) (cells slots mc ms : Nat) (g : JFrame) (rest : List Value) (Qa : State → Outcome → State → Prop) (XC : String → State → State → Prop) (free : Addr → Prop) : Prop :=
  ∀ T : State, T.heap = H → Stand p l e R s m args below meth c T locs cells slots →
    (∃ (v : Option Value) (st₀ t T' : State) (L : List Loc), st₀.heap = H ∧ Stand p l e R s m args below meth c T' (locs ++ L) (cells + mc) (slots + ms) ∧ (∀ q ∈ L, free q.base) ∧ T'.heap = t.heap ∧ T'.vm = t.vm ∧ Qa st₀ (.returned v) t ∧
      Goes p e below T g T' { g with pc := g.pc + 3, stack := v.toList ++ rest }) ∨
    (∃ (q : Addr) (st₀ t T' : State) (L : List Loc) (E : String) (ce : Cell), st₀.heap = H ∧ Stand p l e R s m args below meth c T' (locs ++ L) (cells + mc) (slots + ms) ∧ (∀ z ∈ L, free z.base) ∧ T'.heap = t.heap ∧ T'.vm = t.vm ∧ XC E st₀ t ∧ t.heap[q]? = some ce ∧ ce.vm = .none ∧ s.vm.findClass E = some ce.cls ∧
      Steps p.tables e below (T.setTop g) ((T'.setTop { g with stack := rest }).pushFrame (.throwing q)))
def vx_X {S : Type} (px : S → Prop) (B : String → S → State → Prop) (A : Nat → Prop) : String → State → State → Prop := fun E st t => ∃ u : S, px u ∧ B E u t ∧ va_F A st t
section Runs
variable {p : Program} {l : Launch} {e : Env} {R : Room} {s : State} {m : MethodId} {args : Array Value} {below : List Frame} {meth : Method} {c : Code} {H : Heap} {locs : List Loc} {cells slots : Nat}
variable {y : MethodName} {bytes cc : ByteArray} {maxL nL mc ms n index : Nat} {ret : Option FieldType} {ws : List Cond} {rm : Room} {Pc : Array Value → State → Prop} {Qc : Array Value → State → Outcome → State → Prop} {XC : String → State → State → Prop} {free : Addr → Prop} {Ts : List Cond} {own C : String} {b : Addr} {As rest : List Value} {g : JFrame}
theorem vx_callBack (cb : CallB R s args own index y bytes maxL ret ws rm mc ms n) (hM : vx_Met l y ws rm Pc Qc XC mc ms free) (hbl : FrameBlind Pc) : vx_Back l R p e below s args y 3 8 (PreOf R mc ms Pc) (PostOf Qc mc ms free) (vx_Post XC mc ms free) := by
  obtain ⟨hrc, hrs, hfr, hlo, hws, hcw, -, hini, -⟩ := cb
  exact vx_back (bytes := bytes) (maxL := maxL) (ret := ret) hM hbl hrc hrs hfr hlo hws hcw (fun a' U hW => word_at hW (Or.inl (by first | rfl | simp [Cond.onTables, Cond.keeps, Cond.steady])) hini)
theorem vx_runV (S : CallFix p m c cc nL s args Ts own) (hM : vx_Met l y ws rm Pc Qc XC mc ms free) (cw : CallW R s args own C index y bytes maxL ret ws rm mc ms n) (hp : PreV s H C b Pc As)
    (hg : g.method = m) (hn : As.length = n) (hsize : g.locals.size = nL) (hstack : g.stack = As.reverse ++ .ref b :: rest) (hW : 2 * g.monitorRoom + (rest.map fun v => v.category).sum ≤ 8) (hdg : decode cc g.pc = .ok (.invokevirtual index, 3)) (hf : cells + mc ≤ R.cells ∧ slots + ms ≤ R.slots) :
    vx_Run p l e R s m args below meth c H locs cells slots mc ms g rest (Qc (Value.ref b :: As).toArray) XC free := by
  have hK : vx_Back l R p e below s args y 3 8 (PreOf R mc ms Pc) (PostOf Qc mc ms free) (vx_Post XC mc ms free) := vx_callBack cw.1 hM hp.1
  obtain ⟨⟨-, -, -, -, -, -, hcode, -, hy, hlen, hl⟩, hin, hse⟩ := cw
  obtain ⟨hx, hb, hml, ho, -⟩ := S
  obtain ⟨-, ⟨cellB, hcB, hoB, hclB⟩, hPc⟩ := hp
  intro T hT X
  rcases vx_callV X hx (C := C) (bytes := bytes) (maxL := maxL) (ret := ret) ho hl hin hse hcode hy hK (by rw [hT]; exact hcB) hoB hclB hg (hsize.trans hml.symm) (argsL := As) (rest := rest) (fun sig h => hn.trans (hlen sig h)) hstack hW (by rw [hb]; exact hdg)
    (fun vm₁ hW₁ => ⟨hf.1, hf.2, hPc (T.setVm vm₁) hT hW₁⟩) with ⟨v, vm₁, ⟨U', l2, c2, s2⟩, hW₁, X', ⟨g', mk, t, L, e1, e2, hq, h1, hL, h2, h3⟩, st⟩ | ⟨q, vm₁, ⟨U', l2, c2, s2⟩, hW₁, X', ⟨g', mk, t, L, E, ce, e1, e2, hq, hce, hcv, hcl, h1, hL, h2, h3⟩, st⟩
  · dsimp only [Pt.U, Pt.locs, Pt.cells, Pt.slots] at X' e1 e2 h1 h2 h3 st
    subst h1; subst h2; subst h3
    exact Or.inl ⟨v, (T.setVm vm₁).calling g' mk (Value.ref b :: As).toArray, t, U', L, hT, X', hL, e1, e2, hq, st⟩
  · dsimp only [Pt.U, Pt.locs, Pt.cells, Pt.slots] at X' e1 e2 h1 h2 h3 st hcl
    subst h1; subst h2; subst h3
    exact Or.inr ⟨q, (T.setVm vm₁).calling g' mk (Value.ref b :: As).toArray, t, U', L, E, ce, hT, X', hL, e1, e2, hq, hce, hcv, vx_cls hW₁ hcl, st⟩
theorem vx_runS (S : CallFix p m c cc nL s args Ts own) (hM : vx_Met l y ws rm Pc Qc XC mc ms free) (cw : CallB R s args own index y bytes maxL ret ws rm mc ms n ∧ (Cond.static y).before args s = true) (hp : PreS s H Pc As)
    (hg : g.method = m) (hn : As.length = n) (hsize : g.locals.size = nL) (hstack : g.stack = As.reverse ++ rest) (hW : 2 * g.monitorRoom + (rest.map fun v => v.category).sum ≤ 8) (hdg : decode cc g.pc = .ok (.invokestatic index, 3)) (hf : cells + mc ≤ R.cells ∧ slots + ms ≤ R.slots) :
    vx_Run p l e R s m args below meth c H locs cells slots mc ms g rest (Qc As.toArray) XC free := by
  have hK : vx_Back l R p e below s args y 3 8 (PreOf R mc ms Pc) (PostOf Qc mc ms free) (vx_Post XC mc ms free) := vx_callBack cw.1 hM hp.1
  obtain ⟨⟨-, -, -, -, -, -, hcode, hini, hy, hlen, hl⟩, hstt⟩ := cw
  obtain ⟨hx, hb, hml, ho, -⟩ := S
  intro T hT X
  rcases vx_callS X hx (bytes := bytes) (maxL := maxL) (ret := ret) ho hl hstt hini hcode hy hK hg (hsize.trans hml.symm) (argsL := As) (rest := rest) (fun sig h => hn.trans (hlen sig h)) hstack hW (by rw [hb]; exact hdg)
    (fun vm₁ hW₁ => ⟨hf.1, hf.2, hp.2 (T.setVm vm₁) hT hW₁⟩) with ⟨v, vm₁, ⟨U', l2, c2, s2⟩, hW₁, X', ⟨g', mk, t, L, e1, e2, hq, h1, hL, h2, h3⟩, st⟩ | ⟨q, vm₁, ⟨U', l2, c2, s2⟩, hW₁, X', ⟨g', mk, t, L, E, ce, e1, e2, hq, hce, hcv, hcl, h1, hL, h2, h3⟩, st⟩
  · dsimp only [Pt.U, Pt.locs, Pt.cells, Pt.slots] at X' e1 e2 h1 h2 h3 st
    subst h1; subst h2; subst h3
    exact Or.inl ⟨v, (T.setVm vm₁).calling g' mk As.toArray, t, U', L, hT, X', hL, e1, e2, hq, st⟩
  · dsimp only [Pt.U, Pt.locs, Pt.cells, Pt.slots] at X' e1 e2 h1 h2 h3 st hcl
    subst h1; subst h2; subst h3
    exact Or.inr ⟨q, (T.setVm vm₁).calling g' mk As.toArray, t, U', L, E, ce, hT, X', hL, e1, e2, hq, hce, hcv, vx_cls hW₁ hcl, st⟩
end Runs
section Rows
variable {p : Program} {l : Launch} {e : Env} {R : Room} {s : State} {m : MethodId} {args : Array Value} {below : List Frame} {meth : Method} {c : Code} {H : Heap} {locs : List Loc} {cells slots : Nat} {Q : State → Prop}
variable {mc ms : Nat} {free : Addr → Prop} {A0 A1 : Nat → Prop} {H0 : Heap} {a : Array Value} {pc : Nat} {ls : Array Slot} {st0 rest : List Value}
theorem vx_keep {st₀ t T' : State} {L : List Loc} (h0 : st₀.heap = H) (e1 : T'.heap = t.heap) (hS : va_S A0 H0 H locs) (hA : ∀ q, q < H.size → A1 q → A0 q) (hf : ∀ q, free q → A0 q) (hL : ∀ q ∈ L, free q.base) (hF : va_F A1 st₀ t) :
    H.size ≤ T'.heap.size ∧ (∀ q : Nat, q < H.size → ¬ A1 q → T'.heap[q]? = H[q]?) ∧ va_S A0 H0 T'.heap (locs ++ L) := by
  obtain ⟨hz, hk⟩ := hF
  rw [h0] at hz hk
  exact ⟨by rw [e1]; exact hz, fun q h1 h2 => by rw [e1]; exact hk q h1 h2,
    ⟨Nat.le_trans hS.1 (by rw [e1]; exact hz), fun q h1 h2 => by rw [e1, hk q (Nat.lt_of_lt_of_le h1 hS.1) (fun z => h2 (hA q (Nat.lt_of_lt_of_le h1 hS.1) z))]; exact hS.2.1 q h1 h2, fun q hq => by
      rcases List.mem_append.mp hq with h | h
      · exact hS.2.2 q h
      · exact hf _ (hL q h)⟩⟩
theorem vx_calli {S SX : Type} {post : Int32 → S → Prop} {px : SX → Prop} {B : S → State → Prop} {BX : String → SX → State → Prop} {AX : Nat → Prop} (hr : vx_Run p l e R s m args below meth c H locs cells slots mc ms (F0 m pc ls st0) rest (va_Qi post B A1 a) (vx_X px BX AX) free) (hS : va_S A0 H0 H locs) (hA : ∀ q, q < H.size → A1 q → A0 q) (hf : ∀ q, free q → A0 q) (hAX : ∀ q, q < H.size → AX q → A0 q)
    (kx : ∀ (E : String) (ce : Cell) (q9 : Addr) (u : SX) (t : State) (H1 : Heap) (locs1 : List Loc), t.heap = H1 → s.vm.Alike t.vm → px u → BX E u t → H.size ≤ H1.size → (∀ q : Nat, q < H.size → ¬ AX q → H1[q]? = H[q]?) → va_S A0 H0 H1 locs1 → H1[q9]? = some ce → ce.vm = .none → s.vm.findClass E = some ce.cls → vx_W p l e R s m args below meth c H1 locs1 (cells + mc) (slots + ms) Q (F0 m pc ls rest) q9)
    (kk : ∀ (r : Int32) (u : S) (t : State) (H1 : Heap) (locs1 : List Loc), t.heap = H1 → s.vm.Alike t.vm → post r u → B u t → H.size ≤ H1.size → (∀ q : Nat, q < H.size → ¬ A1 q → H1[q]? = H[q]?) → va_S A0 H0 H1 locs1 → W p l e R s m args below meth c H1 locs1 (cells + mc) (slots + ms) Q (F0 m (pc + 3) ls (.int r :: rest))) : W p l e R s m args below meth c H locs cells slots Q (F0 m pc ls st0) := by
  intro T hT X
  rcases hr T hT X with ⟨v, st₀, t, T', L, h0, X', hL, e1, e2, ⟨⟨r, u, hv, hp, hb⟩, hF⟩, st⟩ | ⟨q, st₀, t, T', L, E, ce, h0, X', hL, e1, e2, ⟨u, hp, hb, hF⟩, hce, hcv, hcl, st⟩
  · cases hv
    obtain ⟨k1, k2, k3⟩ := vx_keep h0 e1 hS hA hf hL hF
    obtain ⟨t2, a1, b1⟩ := kk r u t T'.heap (locs ++ L) e1.symm (by rw [← e2]; exact X'.warmed.alike) hp hb k1 k2 k3 T' rfl X'
    exact ⟨t2, st t2 a1, b1⟩
  · obtain ⟨k1, k2, k3⟩ := vx_keep h0 e1 hS hAX hf hL hF
    obtain ⟨t2, a1, b1⟩ := kx E ce q u t T'.heap (locs ++ L) e1.symm (by rw [← e2]; exact X'.warmed.alike) hp hb k1 k2 k3 (by rw [e1]; exact hce) hcv hcl T' rfl X'
    exact ⟨t2, st.trans a1, b1⟩
theorem vx_calll {S SX : Type} {post : Int64 → S → Prop} {px : SX → Prop} {B : S → State → Prop} {BX : String → SX → State → Prop} {AX : Nat → Prop} (hr : vx_Run p l e R s m args below meth c H locs cells slots mc ms (F0 m pc ls st0) rest (va_Ql post B A1 a) (vx_X px BX AX) free) (hS : va_S A0 H0 H locs) (hA : ∀ q, q < H.size → A1 q → A0 q) (hf : ∀ q, free q → A0 q) (hAX : ∀ q, q < H.size → AX q → A0 q)
    (kx : ∀ (E : String) (ce : Cell) (q9 : Addr) (u : SX) (t : State) (H1 : Heap) (locs1 : List Loc), t.heap = H1 → s.vm.Alike t.vm → px u → BX E u t → H.size ≤ H1.size → (∀ q : Nat, q < H.size → ¬ AX q → H1[q]? = H[q]?) → va_S A0 H0 H1 locs1 → H1[q9]? = some ce → ce.vm = .none → s.vm.findClass E = some ce.cls → vx_W p l e R s m args below meth c H1 locs1 (cells + mc) (slots + ms) Q (F0 m pc ls rest) q9)
    (kk : ∀ (r : Int64) (u : S) (t : State) (H1 : Heap) (locs1 : List Loc), t.heap = H1 → s.vm.Alike t.vm → post r u → B u t → H.size ≤ H1.size → (∀ q : Nat, q < H.size → ¬ A1 q → H1[q]? = H[q]?) → va_S A0 H0 H1 locs1 → W p l e R s m args below meth c H1 locs1 (cells + mc) (slots + ms) Q (F0 m (pc + 3) ls (.long r :: rest))) : W p l e R s m args below meth c H locs cells slots Q (F0 m pc ls st0) := by
  intro T hT X
  rcases hr T hT X with ⟨v, st₀, t, T', L, h0, X', hL, e1, e2, ⟨⟨r, u, hv, hp, hb⟩, hF⟩, st⟩ | ⟨q, st₀, t, T', L, E, ce, h0, X', hL, e1, e2, ⟨u, hp, hb, hF⟩, hce, hcv, hcl, st⟩
  · cases hv
    obtain ⟨k1, k2, k3⟩ := vx_keep h0 e1 hS hA hf hL hF
    obtain ⟨t2, a1, b1⟩ := kk r u t T'.heap (locs ++ L) e1.symm (by rw [← e2]; exact X'.warmed.alike) hp hb k1 k2 k3 T' rfl X'
    exact ⟨t2, st t2 a1, b1⟩
  · obtain ⟨k1, k2, k3⟩ := vx_keep h0 e1 hS hAX hf hL hF
    obtain ⟨t2, a1, b1⟩ := kx E ce q u t T'.heap (locs ++ L) e1.symm (by rw [← e2]; exact X'.warmed.alike) hp hb k1 k2 k3 (by rw [e1]; exact hce) hcv hcl T' rfl X'
    exact ⟨t2, st.trans a1, b1⟩
theorem vx_callf {S SX : Type} {post : UInt32 → S → Prop} {px : SX → Prop} {B : S → State → Prop} {BX : String → SX → State → Prop} {AX : Nat → Prop} (hr : vx_Run p l e R s m args below meth c H locs cells slots mc ms (F0 m pc ls st0) rest (va_Qf post B A1 a) (vx_X px BX AX) free) (hS : va_S A0 H0 H locs) (hA : ∀ q, q < H.size → A1 q → A0 q) (hf : ∀ q, free q → A0 q) (hAX : ∀ q, q < H.size → AX q → A0 q)
    (kx : ∀ (E : String) (ce : Cell) (q9 : Addr) (u : SX) (t : State) (H1 : Heap) (locs1 : List Loc), t.heap = H1 → s.vm.Alike t.vm → px u → BX E u t → H.size ≤ H1.size → (∀ q : Nat, q < H.size → ¬ AX q → H1[q]? = H[q]?) → va_S A0 H0 H1 locs1 → H1[q9]? = some ce → ce.vm = .none → s.vm.findClass E = some ce.cls → vx_W p l e R s m args below meth c H1 locs1 (cells + mc) (slots + ms) Q (F0 m pc ls rest) q9)
    (kk : ∀ (r : UInt32) (u : S) (t : State) (H1 : Heap) (locs1 : List Loc), t.heap = H1 → s.vm.Alike t.vm → post r u → B u t → H.size ≤ H1.size → (∀ q : Nat, q < H.size → ¬ A1 q → H1[q]? = H[q]?) → va_S A0 H0 H1 locs1 → W p l e R s m args below meth c H1 locs1 (cells + mc) (slots + ms) Q (F0 m (pc + 3) ls (.float r :: rest))) : W p l e R s m args below meth c H locs cells slots Q (F0 m pc ls st0) := by
  intro T hT X
  rcases hr T hT X with ⟨v, st₀, t, T', L, h0, X', hL, e1, e2, ⟨⟨r, u, hv, hp, hb⟩, hF⟩, st⟩ | ⟨q, st₀, t, T', L, E, ce, h0, X', hL, e1, e2, ⟨u, hp, hb, hF⟩, hce, hcv, hcl, st⟩
  · cases hv
    obtain ⟨k1, k2, k3⟩ := vx_keep h0 e1 hS hA hf hL hF
    obtain ⟨t2, a1, b1⟩ := kk r u t T'.heap (locs ++ L) e1.symm (by rw [← e2]; exact X'.warmed.alike) hp hb k1 k2 k3 T' rfl X'
    exact ⟨t2, st t2 a1, b1⟩
  · obtain ⟨k1, k2, k3⟩ := vx_keep h0 e1 hS hAX hf hL hF
    obtain ⟨t2, a1, b1⟩ := kx E ce q u t T'.heap (locs ++ L) e1.symm (by rw [← e2]; exact X'.warmed.alike) hp hb k1 k2 k3 (by rw [e1]; exact hce) hcv hcl T' rfl X'
    exact ⟨t2, st.trans a1, b1⟩
theorem vx_calld {S SX : Type} {post : UInt64 → S → Prop} {px : SX → Prop} {B : S → State → Prop} {BX : String → SX → State → Prop} {AX : Nat → Prop} (hr : vx_Run p l e R s m args below meth c H locs cells slots mc ms (F0 m pc ls st0) rest (va_Qd post B A1 a) (vx_X px BX AX) free) (hS : va_S A0 H0 H locs) (hA : ∀ q, q < H.size → A1 q → A0 q) (hf : ∀ q, free q → A0 q) (hAX : ∀ q, q < H.size → AX q → A0 q)
    (kx : ∀ (E : String) (ce : Cell) (q9 : Addr) (u : SX) (t : State) (H1 : Heap) (locs1 : List Loc), t.heap = H1 → s.vm.Alike t.vm → px u → BX E u t → H.size ≤ H1.size → (∀ q : Nat, q < H.size → ¬ AX q → H1[q]? = H[q]?) → va_S A0 H0 H1 locs1 → H1[q9]? = some ce → ce.vm = .none → s.vm.findClass E = some ce.cls → vx_W p l e R s m args below meth c H1 locs1 (cells + mc) (slots + ms) Q (F0 m pc ls rest) q9)
    (kk : ∀ (r : UInt64) (u : S) (t : State) (H1 : Heap) (locs1 : List Loc), t.heap = H1 → s.vm.Alike t.vm → post r u → B u t → H.size ≤ H1.size → (∀ q : Nat, q < H.size → ¬ A1 q → H1[q]? = H[q]?) → va_S A0 H0 H1 locs1 → W p l e R s m args below meth c H1 locs1 (cells + mc) (slots + ms) Q (F0 m (pc + 3) ls (.double r :: rest))) : W p l e R s m args below meth c H locs cells slots Q (F0 m pc ls st0) := by
  intro T hT X
  rcases hr T hT X with ⟨v, st₀, t, T', L, h0, X', hL, e1, e2, ⟨⟨r, u, hv, hp, hb⟩, hF⟩, st⟩ | ⟨q, st₀, t, T', L, E, ce, h0, X', hL, e1, e2, ⟨u, hp, hb, hF⟩, hce, hcv, hcl, st⟩
  · cases hv
    obtain ⟨k1, k2, k3⟩ := vx_keep h0 e1 hS hA hf hL hF
    obtain ⟨t2, a1, b1⟩ := kk r u t T'.heap (locs ++ L) e1.symm (by rw [← e2]; exact X'.warmed.alike) hp hb k1 k2 k3 T' rfl X'
    exact ⟨t2, st t2 a1, b1⟩
  · obtain ⟨k1, k2, k3⟩ := vx_keep h0 e1 hS hAX hf hL hF
    obtain ⟨t2, a1, b1⟩ := kx E ce q u t T'.heap (locs ++ L) e1.symm (by rw [← e2]; exact X'.warmed.alike) hp hb k1 k2 k3 (by rw [e1]; exact hce) hcv hcl T' rfl X'
    exact ⟨t2, st.trans a1, b1⟩
theorem vx_callv {S SX : Type} {post : S → Prop} {px : SX → Prop} {B : S → State → Prop} {BX : String → SX → State → Prop} {AX : Nat → Prop} (hr : vx_Run p l e R s m args below meth c H locs cells slots mc ms (F0 m pc ls st0) rest (va_Qv post B A1 a) (vx_X px BX AX) free) (hS : va_S A0 H0 H locs) (hA : ∀ q, q < H.size → A1 q → A0 q) (hf : ∀ q, free q → A0 q) (hAX : ∀ q, q < H.size → AX q → A0 q)
    (kx : ∀ (E : String) (ce : Cell) (q9 : Addr) (u : SX) (t : State) (H1 : Heap) (locs1 : List Loc), t.heap = H1 → s.vm.Alike t.vm → px u → BX E u t → H.size ≤ H1.size → (∀ q : Nat, q < H.size → ¬ AX q → H1[q]? = H[q]?) → va_S A0 H0 H1 locs1 → H1[q9]? = some ce → ce.vm = .none → s.vm.findClass E = some ce.cls → vx_W p l e R s m args below meth c H1 locs1 (cells + mc) (slots + ms) Q (F0 m pc ls rest) q9)
    (kk : ∀ (u : S) (t : State) (H1 : Heap) (locs1 : List Loc), t.heap = H1 → s.vm.Alike t.vm → post u → B u t → H.size ≤ H1.size → (∀ q : Nat, q < H.size → ¬ A1 q → H1[q]? = H[q]?) → va_S A0 H0 H1 locs1 → W p l e R s m args below meth c H1 locs1 (cells + mc) (slots + ms) Q (F0 m (pc + 3) ls (rest))) : W p l e R s m args below meth c H locs cells slots Q (F0 m pc ls st0) := by
  intro T hT X
  rcases hr T hT X with ⟨v, st₀, t, T', L, h0, X', hL, e1, e2, ⟨⟨u, hv, hp, hb⟩, hF⟩, st⟩ | ⟨q, st₀, t, T', L, E, ce, h0, X', hL, e1, e2, ⟨u, hp, hb, hF⟩, hce, hcv, hcl, st⟩
  · cases hv
    obtain ⟨k1, k2, k3⟩ := vx_keep h0 e1 hS hA hf hL hF
    obtain ⟨t2, a1, b1⟩ := kk u t T'.heap (locs ++ L) e1.symm (by rw [← e2]; exact X'.warmed.alike) hp hb k1 k2 k3 T' rfl X'
    exact ⟨t2, st t2 a1, b1⟩
  · obtain ⟨k1, k2, k3⟩ := vx_keep h0 e1 hS hAX hf hL hF
    obtain ⟨t2, a1, b1⟩ := kx E ce q u t T'.heap (locs ++ L) e1.symm (by rw [← e2]; exact X'.warmed.alike) hp hb k1 k2 k3 (by rw [e1]; exact hce) hcv hcl T' rfl X'
    exact ⟨t2, st.trans a1, b1⟩
/-- caught by the row x of this method's table; the rows ahead don't take it -/
theorem vx_catch {own name : String} {E : String} {ce : Cell} {q : Addr} (hown : s.vm.findClass own = some m.cls) (pre : List ExceptionTableEntry) (x : ExceptionTableEntry) (suf : List ExceptionTableEntry) (hsplit : c.exceptionTable.toList = pre ++ x :: suf)
    (hpass : ∀ z ∈ pre, covers z pc = false ∨ (z.catchType ≠ 0 ∧ ∃ nm : String, (Cond.classLink own z.catchType nm).before args s = true ∧ va_Nc E nm s)) (hx : covers x pc = true) (h0 : x.catchType ≠ 0)
    (hlink : (Cond.classLink own x.catchType name).before args s = true) (hcast : (Cond.castable E name).before args s = true) (hcell : H[q]? = some ce) (hv : ce.vm = .none) (hcl : s.vm.findClass E = some ce.cls)
    (kk : W p l e R s m args below meth c H locs cells slots Q (F0 m x.handlerPc ls [.ref q])) : vx_W p l e R s m args below meth c H locs cells slots Q (F0 m pc ls rest) q := by
  intro T hT X
  have hpl : e.platform.magicAccessors = ({} : Platform).magicAccessors := by rw [X.admits.platform]
  obtain ⟨c3, c4, hc3, hc4, hasg⟩ := Cond.castable_spec hcast
  cases Option.some.inj (hc3.symm.trans hcl)
  obtain ⟨c5, hc5, hcl5⟩ := Cond.classLink_spec hown hlink e.platform hpl
  cases Option.some.inj (hc4.symm.trans hc5)
  obtain ⟨vm', X', st⟩ := X.thenCaughtThrough q (g := F0 m pc ls rest) rfl (Steps.refl _) (by rw [hT]; exact hcell) (by rw [hv]; rfl) (by obtain ⟨k9, h9, -⟩ := Vm.findClass_spec hcl; exact ⟨k9, h9⟩) pre x suf hsplit
    (fun z hz => by
      rcases hpass z hz with h | ⟨hz0, nm, hl1, hn1⟩
      · exact Or.inl h
      · obtain ⟨c6, hc6, hcl6⟩ := Cond.classLink_spec hown hl1 e.platform hpl
        obtain ⟨a8, b8, h1, h2, h3⟩ := hn1
        cases Option.some.inj (h1.symm.trans hcl)
        cases Option.some.inj (h2.symm.trans hc6)
        exact Or.inr ⟨hz0, _, hcl6, h3⟩) hx (Or.inr ⟨h0, c4, hcl5, hasg⟩)
  obtain ⟨t, a1, b1⟩ := kk (T.setVm vm') hT X'
  exact ⟨t, st.trans a1, b1⟩
end Rows
section Ends
variable {p : Program} {l : Launch} {e : Env} {R : Room} {s : State} {m : MethodId} {args : Array Value} {below : List Frame} {meth : Method} {c : Code} {H : Heap} {locs : List Loc} {cells slots : Nat} {Q : State → Prop}
variable {mc ms : Nat} {free : Addr → Prop} {A0 A1 : Nat → Prop} {H0 : Heap} {a : Array Value} {ls : Array Slot} {st0 rest : List Value}
variable {Qc : Array Value → State → Outcome → State → Prop} {XC : String → State → State → Prop}
/-- what a body that may throw owes at its end -/
def vx_MQ (below : List Frame) (Qc : Array Value → State → Outcome → State → Prop) (XC : String → State → State → Prop) (a : Array Value) (s : State) (mc ms : Nat) (free : Addr → Prop) : State → Prop := fun t =>
  ∃ o, t.status = .running ∧ Ended t below o ∧ vx_Q Qc XC mc ms free a s o t
theorem vx_ret {g : JFrame} {mc ms : Nat} (k : W p l e R s m args below meth c H locs cells slots (MQ below Qc args s mc ms free) g) : W p l e R s m args below meth c H locs cells slots (vx_MQ below Qc XC args s mc ms free) g := by
  intro T hT X
  obtain ⟨t, a1, o, b1, b2, b3, b4⟩ := k T hT X
  exact ⟨t, a1, o, b1, b2, Or.inl ⟨b3, b4⟩⟩
/-- not caught here: it goes on to the caller -/
theorem vx_widen {g : JFrame} {q : Addr} {k n : Nat} (h1 : cells ≤ k) (h2 : slots ≤ n) (kk : vx_W p l e R s m args below meth c H locs k n Q g q) : vx_W p l e R s m args below meth c H locs cells slots Q g q := fun T hT X => kk T hT (stand_widen X h1 h2)
theorem vx_out {pc : Nat} {E : String} {ce : Cell} {q : Addr} {mc ms : Nat} (hout : ∀ x ∈ c.exceptionTable.toList, covers x pc = false) (hlocks : meth.locks = false) (hcell : H[q]? = some ce) (hv : ce.vm = .none) (hcl : s.vm.findClass E = some ce.cls)
    (hx : ∀ t : State, t.heap = H → s.vm.Alike t.vm → XC E s t) (hf : ∀ z ∈ locs, free z.base) (hc : cells ≤ mc) (hs : slots ≤ ms) :
    vx_W p l e R s m args below meth c H locs cells slots (vx_MQ below Qc XC args s mc ms free) (F0 m pc ls rest) q := by
  intro T hT X
  obtain ⟨st1, hrun, hend, hW, hsm⟩ := X.leaveThrown q (g := F0 m pc ls rest) rfl rfl rfl hout hlocks
  have hcell9 : (T.setFrames (.throwing q :: below)).heap[q]? = some ce := by
    show T.heap[q]? = some ce
    rw [hT]; exact hcell
  exact ⟨_, st1, .threw q, hrun, hend, Or.inr ⟨q, rfl, E, ce, locs, hx _ hT hW.alike, hcell9, hv, hcl, hW, hsm.mono hc hs, hf⟩⟩
theorem vx_frame {U : State} {k n : Nat} (h : s.sameButNew ({ U with vm := s.vm } : State) locs k n) : s.heap.size ≤ U.heap.size ∧ ∀ q : Nat, q < s.heap.size → (∀ z ∈ locs, z.base ≠ q) → U.heap[q]? = s.heap[q]? := by
  obtain ⟨-, h2, -, -, -, h6⟩ := h
  refine ⟨h2, fun q hq hz => ?_⟩
  obtain ⟨c9, e1, e2, e3, e4⟩ := h6 q _ (Array.getElem?_eq_getElem hq)
  have hs : c9.slots = (s.heap[q]).slots := Array.ext_getElem? fun i => e4 i fun hm => hz _ hm rfl
  have h9 : c9 = s.heap[q] := by
    rw [hs] at e2
    exact e2
  have e5 : U.heap[q]? = some c9 := e1
  rw [e5, h9, Array.getElem?_eq_getElem hq]
/-- the words of a throw but the four that speak of the heap -/
def vx_no (w : Cond) : Bool := decide (w ≠ .isRef (.static Bundle.tN "UNASSIGNED_STACK" Bundle.steD)) && decide (w ≠ .isRef (.static Bundle.tN "SUPPRESSED_SENTINEL" Bundle.listD)) && decide (w ≠ .laysStatic Bundle.tN "UNASSIGNED_STACK" Bundle.steD) && decide (w ≠ .laysStatic Bundle.tN "SUPPRESSED_SENTINEL" Bundle.listD)
def vx_at0 (own : String) (ic : Nat) (X : String) (names : List String) : List Cond := (Bundle.ownAtoms0 own ic X names).filter vx_no
def vx_atS (own : String) (ic : Nat) (X : String) (names : List String) : List Cond := (Bundle.ownAtoms own ic X names).filter vx_no
/-- a word that the tables alone decide, or a good one -/
def vx_ot (w : Cond) : Bool := w.onTables || goodWord w
theorem vx_ot_at {args a' : Array Value} {s U : State} {w : Cond} (hW : s.WarmedH U.vm) (hvm : s.vm = U.vm) (hg : vx_ot w = true) (h : w.before args s = true) : w.before a' U = true := by
  simp only [vx_ot, Bool.or_eq_true] at hg
  rcases hg with hg | hg
  · exact va_tabs hg hvm h
  · exact word_at hW (good_of_word hg) h
/-- a list's words: the good ones out of the method's own list, the others by premises of their own -/
theorem vx_hat {args : Array Value} {s : State} {L B : List Cond} (h1 : ∀ w ∈ L.filter goodWord, w.before args s = true) (h2 : ∀ w ∈ L.filter (fun w => !goodWord w), w ∈ B) (h3 : ∀ w ∈ B, w.before args s = true) : ∀ w ∈ L, w.before args s = true := by
  intro w hw
  by_cases g : goodWord w = true
  · exact h1 w (List.mem_filter.mpr ⟨hw, g⟩)
  · refine h3 w (h2 w (List.mem_filter.mpr ⟨hw, ?_⟩))
    show (!goodWord w) = true
    cases hgw : goodWord w
    · rfl
    · exact absurd hgw g
theorem vx_c {args : Array Value} {s : State} {w : Cond} {B : List Cond} (h : w.before args s = true) (t : ∀ w ∈ B, w.before args s = true) : ∀ w' ∈ w :: B, w'.before args s = true := fun w' h' => (List.mem_cons.mp h').elim (fun e => by rw [e]; exact h) (t w')
theorem vx_n {args : Array Value} {s : State} : ∀ w ∈ ([] : List Cond), w.before args s = true := fun _ h => nomatch h
theorem vx_own {args : Array Value} {s : State} {L : List Cond} (h1 : ∀ w ∈ L.filter vx_no, w.before args s = true)
    (hU : (Cond.isRef (.static Bundle.tN "UNASSIGNED_STACK" Bundle.steD)).before args s = true) (hN : (Cond.isRef (.static Bundle.tN "SUPPRESSED_SENTINEL" Bundle.listD)).before args s = true)
    (lU : (Cond.laysStatic Bundle.tN "UNASSIGNED_STACK" Bundle.steD).before args s = true) (lN : (Cond.laysStatic Bundle.tN "SUPPRESSED_SENTINEL" Bundle.listD).before args s = true) : ∀ w ∈ L, w.before args s = true := by
  intro w hw
  by_cases e1 : w = .isRef (.static Bundle.tN "UNASSIGNED_STACK" Bundle.steD)
  · rw [e1]; exact hU
  · by_cases e2 : w = .isRef (.static Bundle.tN "SUPPRESSED_SENTINEL" Bundle.listD)
    · rw [e2]; exact hN
    · by_cases e3 : w = .laysStatic Bundle.tN "UNASSIGNED_STACK" Bundle.steD
      · rw [e3]; exact lU
      · by_cases e4 : w = .laysStatic Bundle.tN "SUPPRESSED_SENTINEL" Bundle.listD
        · rw [e4]; exact lN
        · exact h1 w (List.mem_filter.mpr ⟨hw, by unfold vx_no; rw [decide_eq_true e1, decide_eq_true e2, decide_eq_true e3, decide_eq_true e4]; rfl⟩)
/-- where a static field lies, its class's statics cell in H -/
def vx_L (C n d : String) (A : Nat → Prop) (U : State) (H : Heap) : Prop := ∃ (c : ClassId) (k : Class) (i : Nat) (f : Field) (a : Nat) (cell : Cell), U.vm.findClass C = some c ∧ U.fieldFound? C n d = some (c, k, i, f) ∧ f.isStatic = true ∧ k.statics = some a ∧ H[a]? = some cell ∧ cell.vm.isStatics = true ∧ cell.cls = c ∧ f.slot < cell.slots.size ∧ k.staticTypes[f.slot]? = some f.type ∧ ¬ A a
theorem vx_L.moved {C n d : String} {A : Nat → Prop} {u U : State} {H : Heap} (hvm : u.vm.Alike U.vm) (h : vx_L C n d A u H) : vx_L C n d A U H := by
  obtain ⟨c, k, i, f, a, cell, h1, h2, h3, h4, h5, h6, h7, h8, h9, h10⟩ := h
  obtain ⟨k', hi', he⟩ := State.fieldFound?_setVm hvm h2
  exact ⟨c, k', i, f, a, cell, by rw [hvm.findClass]; exact h1, hi', h3, by rw [he]; exact h4, h5, h6, h7, h8, by rw [he]; exact h9, h10⟩
theorem vx_L.kept {C n d : String} {A : Nat → Prop} {U : State} {H H1 : Heap} (h : vx_L C n d A U H) (hq : ∀ a : Nat, a < H.size → ¬ A a → H1[a]? = H[a]?) : vx_L C n d A U H1 := by
  obtain ⟨c, k, i, f, a, cell, h1, h2, h3, h4, h5, h6, h7, h8, h9, h10⟩ := h
  exact ⟨c, k, i, f, a, cell, h1, h2, h3, h4, by rw [hq a (Array.getElem?_eq_some_iff.mp h5).1 h10]; exact h5, h6, h7, h8, h9, h10⟩
theorem vx_L.narrow {C n d : String} {A B : Nat → Prop} {U : State} {H : Heap} (h : vx_L C n d A U H) (hAB : ∀ q, B q → A q) : vx_L C n d B U H := by
  obtain ⟨c, k, i, f, a, cell, h1, h2, h3, h4, h5, h6, h7, h8, h9, h10⟩ := h
  exact ⟨c, k, i, f, a, cell, h1, h2, h3, h4, h5, h6, h7, h8, h9, fun z => h10 (hAB _ z)⟩
theorem vx_L.word {C n d : String} {A : Nat → Prop} {s : State} {args : Array Value} (h : vx_L C n d A s s.heap) : (Cond.laysStatic C n d).before args s = true := by
  obtain ⟨c, k, i, f, a, cell, h1, h2, h3, h4, h5, h6, h7, h8, h9, -⟩ := h
  show (Cond.laysStatic C n d).holds args s none s [] = true
  exact Cond.laysStatic_of h1 h2 h3 h4 h5 h6 h7 h8 h9
/-- .. and what it holds: null or some reference -/
def vx_Zq (C n d : String) (A : Nat → Prop) (U : State) (H : Heap) : Prop := va_Zq C n d A U H ∧ vx_L C n d A U H
theorem vx_Zq.moved {C n d : String} {A : Nat → Prop} {u U : State} {H : Heap} (hvm : u.vm.Alike U.vm) (h : vx_Zq C n d A u H) : vx_Zq C n d A U H := ⟨va_Zq.moved hvm h.1, vx_L.moved hvm h.2⟩
theorem vx_Zq.kept {C n d : String} {A : Nat → Prop} {U : State} {H H1 : Heap} (h : vx_Zq C n d A U H) (hq : ∀ a : Nat, a < H.size → ¬ A a → H1[a]? = H[a]?) : vx_Zq C n d A U H1 := ⟨va_Zq.kept h.1 hq, vx_L.kept h.2 hq⟩
theorem vx_Zq.narrow {C n d : String} {A B : Nat → Prop} {U : State} {H : Heap} (h : vx_Zq C n d A U H) (hAB : ∀ q, B q → A q) : vx_Zq C n d B U H := ⟨va_Zq.narrow h.1 hAB, vx_L.narrow h.2 hAB⟩
theorem vx_Zqof {args : Array Value} {s : State} {C n d : String} {A : Nat → Prop} (hl : (Cond.laysStatic C n d).before args s = true) (hini : (Cond.initialized C).before args s = true) (h : (Cond.isRef (.static C n d)).before args s = true) (hA : ∀ a : Nat, a < s.heap.size → ¬ A a) : vx_Zq C n d A s s.heap := by
  refine ⟨va_Zqof hl hini h hA, ?_⟩
  obtain ⟨c, k, i, f, a, cell, h1, h2, h3, h4, h5, h6, h7, h8, h9⟩ := Cond.laysStatic_spec hl
  exact ⟨c, k, i, f, a, cell, h1, h2, h3, h4, h5, h6, h7, h8, h9, hA a (Array.getElem?_eq_some_iff.mp h5).1⟩
theorem vx_isRef {C n d : String} {v : Value} {A : Nat → Prop} {s : State} {args : Array Value} (h : va_Z C n d v A s s.heap) (hv : v.isRef = true) : (Cond.isRef (.static C n d)).before args s = true := by
  obtain ⟨cf, kf, fi, f, a, cell, h1, h2, h3, h4, h5, h6, h7, -⟩ := h
  have he : (Term.static C n d).eval args s none [] s = some v := by
    simp [Term.eval, State.fieldNamed?, h1, h2, h4, h5, h6, h7]
  simp only [Cond.before, Cond.holds, Cond.value, he]
  cases v <;> simp_all [Value.isRef]
theorem vx_isRefq {C n d : String} {A : Nat → Prop} {s : State} {args : Array Value} (h : va_Zq C n d A s s.heap) : (Cond.isRef (.static C n d)).before args s = true := by
  rcases h with h | ⟨t, h⟩
  · exact vx_isRef h rfl
  · exact vx_isRef h rfl
/-- the same frame, seen from here: as if the method were called anew in this heap -/
theorem vx_rebase {T : State} (X : Stand p l e R s m args below meth c T locs cells slots) {R' : Room} (hf : R'.frames ≤ R.frames) (hl : R'.locals ≤ R.locals) (hc : cells + R'.cells ≤ R.cells) (hs : slots + R'.slots ≤ R.slots) :
    Stand p l e R' ((T.setVm s.vm).setFrames (.invoking m args :: below)) m args below meth c T [] 0 0 := by
  have htop : (T.setVm s.vm).topJava?.isSome := X.here.top
  have hF : ((T.setVm s.vm).setFrames (.invoking m args :: below)).frames = .invoking m args :: below := State.frames_setFrames _ (State.cur_lt_of_top htop)
  obtain ⟨g₀, hg0⟩ := Option.isSome_iff_exists.mp htop
  obtain ⟨r, hr⟩ := State.topJava?_eq_some.mp hg0
  have hl9 : e.platform.stackLimits (T.setVm s.vm).me = e.platform.stackLimits s.me := X.limits
  have hb9 : (T.setVm s.vm).me.stackBytes = s.me.stackBytes := X.bytes
  refine ⟨X.admits, X.cas, X.clock, hF, ?_, X.hears, X.method, X.code, X.here, X.tail, X.warmed, ?_, ?_, ?_⟩
  · have h := X.room
    have hU : ((T.setVm s.vm).setFrames (.invoking m args :: below)).localsInUse = s.localsInUse := by
      rw [State.localsInUse_invoking hF (meth := meth) (c := c) X.method X.code, State.localsInUse_invoking X.frames X.method X.code]
    simp only [State.hasRoom, Bool.and_eq_true, decide_eq_true_eq] at h ⊢
    obtain ⟨⟨⟨⟨h1, h2, h3, h4, h5, h6⟩, h7⟩, h8⟩, h9⟩ := h
    rw [X.frames, List.length_cons] at h2 h3
    have q1 := X.heapSize
    have q2 := X.used
    simp only [hF, hU, List.length_cons, State.stackLimits_setFrames, State.stackBytes_setFrames, hl9, hb9]
    refine ⟨⟨⟨⟨by omega, by omega, by omega, by omega, by omega, h6⟩, ?_⟩, ?_⟩, X.book⟩
    · show T.heap.size + R'.cells ≤ e.platform.maxCells
      omega
    · show T.slotsUsed + R'.slots ≤ e.platform.maxSlots
      omega
  · rw [State.stackLimits_setFrames]; rfl
  · rw [State.stackBytes_setFrames]; rfl
  · refine ⟨?_, Nat.le_refl _, Nat.le_refl _, ?_, ?_, fun a c9 h9 => ⟨c9, h9, rfl, rfl, fun _ _ => rfl⟩⟩
    · obtain ⟨t, ht, -⟩ := State.frames_cons hr
      show T.setVm s.vm = { ((T.setVm s.vm).setFrames (.invoking m args :: below)).setFrames (T.setVm s.vm).frames with heap := T.heap, slotsUsed := T.slotsUsed }
      rw [State.setFrames_setFrames, State.setFrames_self ht]
      rfl
    · show T.slotsUsed = T.slotsUsed + ((T.heap.toList.drop T.heap.size).map (·.slots.size)).sum
      rw [List.drop_eq_nil_of_le (Nat.le_of_eq Array.length_toList)]
      rfl
    · show ((T.heap.toList.drop T.heap.size).map (·.slots.size)).sum ≤ 0
      rw [List.drop_eq_nil_of_le (Nat.le_of_eq Array.length_toList)]
      exact Nat.le_refl _
/-- 'throw new E()': new; dup; invokespecial; athrow -/
theorem vx_throw0 {cc : ByteArray} {pc : Nat} (hexec : p.tables.exec = Jvm.exec) (hb : c.code = cc) (hl : l.stackTraces = false) {own cls : String} {names : List String} {ik ic mc ms : Nat} {A : Nat → Prop}
    (hown : s.vm.findClass own = some m.cls) (hcls : Bundle.fit cls = true) (hnames : ∀ n ∈ names, Bundle.fit n = true)
    (hk : (Cond.classLink own ik cls).before args s = true) (hini : (Cond.initialized cls).before args s = true) (hat : ∀ w ∈ vx_at0 own ic cls names, w.before args s = true)
    (hgood : ∀ w ∈ Cond.classLink own ik cls :: Cond.initialized cls :: vx_at0 own ic cls names, vx_ot w = true)
    (hU : vx_Zq Bundle.tN "UNASSIGNED_STACK" Bundle.steD A s s.heap) (hN : vx_Zq Bundle.tN "SUPPRESSED_SENTINEL" Bundle.listD A s s.heap) (hS : va_S A s.heap H locs) (hsize : ls.size = c.maxLocals)
    (d0 : decode cc pc = .ok (.new ik, 3)) (d3 : decode cc (pc + 3) = .ok (.dup, 1)) (d4 : decode cc (pc + 4) = .ok (.invokespecial ic, 3)) (d7 : decode cc (pc + 7) = .ok (.athrow, 1))
    (hout : ∀ x ∈ c.exceptionTable.toList, covers x (pc + 7) = false)
    (hRframes : names.length + 3 < R.frames) (hRlocals : (rest.map fun v => v.category).sum + (13 * (names.length + 1) + 42) ≤ R.locals) (hRcells : cells + 1 ≤ R.cells) (hRslots : slots + 6 ≤ R.slots) (hlocks : meth.locks = false)
    (hx : ∀ t : State, s.vm.Alike t.vm → H.size ≤ t.heap.size → (∀ q : Nat, q < H.size → t.heap[q]? = H[q]?) → XC cls s t)
    (hf : ∀ z ∈ locs, free z.base) (hc : cells + 1 ≤ mc) (hs : slots + 6 ≤ ms) :
    W p l e R s m args below meth c H locs cells slots (vx_MQ below Qc XC args s mc ms free) (F0 m pc ls rest) := by
  intro T hT X
  have htr : e.platform.stackTraces = false := (show e.platform.stackTraces = l.stackTraces by rw [X.admits.platform]).trans hl
  have Y := vx_rebase X (R' := { frames := R.frames, locals := R.locals, cells := 1, slots := 6 }) (Nat.le_refl _) (Nat.le_refl _) hRcells hRslots
  obtain ⟨s', hA⟩ : ∃ z, z = (T.setVm s.vm).setFrames (.invoking m args :: below) := ⟨_, rfl⟩
  rw [← hA] at Y
  have hvm : s'.vm = s.vm := by rw [hA]; rfl
  have hhp : s'.heap = H := by rw [hA]; exact hT
  have hW0 : s.WarmedH s'.vm := by rw [hvm]; exact State.WarmedH.refl s
  have hat' : ∀ w ∈ vx_at0 own ic cls names, w.before args s' = true := fun w hw => vx_ot_at hW0 hvm.symm (hgood w (List.mem_cons_of_mem _ (List.mem_cons_of_mem _ hw))) (hat w hw)
  have hk' : (Cond.classLink own ik cls).before args s' = true := vx_ot_at hW0 hvm.symm (hgood _ List.mem_cons_self) hk
  have hini' : (Cond.initialized cls).before args s' = true := vx_ot_at hW0 hvm.symm (hgood _ (List.mem_cons_of_mem _ List.mem_cons_self)) hini
  have hU' : vx_Zq Bundle.tN "UNASSIGNED_STACK" Bundle.steD A s' s'.heap := by rw [hhp]; exact vx_Zq.moved hW0.alike (hU.kept hS.2.1)
  have hN' : vx_Zq Bundle.tN "SUPPRESSED_SENTINEL" Bundle.listD A s' s'.heap := by rw [hhp]; exact vx_Zq.moved hW0.alike (hN.kept hS.2.1)
  have h : ∀ w ∈ Bundle.ownAtoms0 own ic cls names, w.before args s' = true := vx_own hat' (vx_isRefq hU'.1) (vx_isRefq hN'.1) hU'.2.word hN'.2.word
  have hown' : s'.vm.findClass own = some m.cls := by rw [hvm]; exact hown
  have hins : (Cond.instantiable cls 6).before args s' = true := h _ (by simp [Bundle.ownAtoms0])
  obtain ⟨vm₁, cX, kX, hfX, hkX, -, -, X₁, st1⟩ := Y.newCold hexec (own := own) (C := cls) (index := ik) (n := 6) hown' hk' hins hini'
    (g := F0 m pc ls rest) rfl (by rw [hb]; exact d0) (Nat.le_refl _) (Nat.le_refl _)
  generalize hT1 : (T.setVm vm₁).pushCell { cls := cX, slots := kX.instanceTypes.map defaultValue, vm := .none } = T1 at X₁ st1
  have hcat : (Value.ref T.heap.size).category = 1 := rfl
  have hcellA : T1.heap[T.heap.size]? = some (freshCell cX kX) := by rw [← hT1]; exact State.heap_pushCell_size _ _
  have d3' : decode c.code (pc + 3) = .ok (.dup, 1) := by rw [hb]; exact d3
  obtain ⟨U, hsteps, hrun, hend, hW, hsame, ce, hce, hO⟩ := X₁.ctorThrow0 hexec htr (own := own) (cls := cls) (names := names) (ic := ic) hown' hcls hnames h (fun x hx => nomatch hx) hfX hkX hcellA (by rw [hhp, hT]; exact Nat.le_refl _)
    (g := { method := m, pc := pc + 4, locals := ls, stack := .ref T.heap.size :: .ref T.heap.size :: rest, locked := none }) rfl hsize rfl rfl (rest := rest) rfl
    (by rw [hb]; exact d4) (by rw [hb]; exact d7) hout hRframes (by simp only [List.map_cons, List.sum_cons, hcat]; omega) hlocks
  obtain ⟨f1, f2⟩ := vx_frame hsame
  rw [hhp] at f1 f2
  have hWs : s.WarmedH U.vm := State.WarmedH.trans hW0 hW
  have hcl : s.vm.findClass cls = some ce.cls := by
    have h9 := hO.cls
    rw [hvm] at h9
    exact h9
  have hall : s.sameButNew ({ U with vm := s.vm } : State) locs mc ms := by
    subst hA
    obtain ⟨e1, e2⟩ := hsame
    rw [State.setFrames_setFrames] at e1
    have h2 : (T.setVm s.vm).sameButNew ({ U with vm := s.vm } : State) [] (0 + 1) (0 + 6) := ⟨e1, e2⟩
    have h3 := X.same.trans h2
    rw [List.append_nil] at h3
    exact h3.mono hc hs
  refine ⟨U, ?_, .threw T.heap.size, hrun, hend, Or.inr ⟨T.heap.size, rfl, cls, ce, locs, hx U hWs.alike f1 (fun q hq => f2 q hq (fun z hz => nomatch hz)), hce, hO.vm, hcl, hWs, hall, hf⟩⟩
  refine st1 _ ?_
  show Steps p.tables e below (T1.setTop { method := m, pc := pc + 3, locals := ls, stack := .ref T.heap.size :: rest, locked := none }) _
  jvm_step X₁.here [X₁.here.top, hexec, d3', Value.category]
  exact hsteps
/-- 'throw new E("text")': new; dup; ldc; invokespecial; athrow -/
theorem vx_throwS {cc : ByteArray} {pc : Nat} (hexec : p.tables.exec = Jvm.exec) (hb : c.code = cc) (hl : l.stackTraces = false) {own cls text : String} {names : List String} {ik is ic mc ms sa : Nat} {A : Nat → Prop}
    (hown : s.vm.findClass own = some m.cls) (hcls : Bundle.fit cls = true) (hnames : ∀ n ∈ names, Bundle.fit n = true)
    (hk : (Cond.classLink own ik cls).before args s = true) (hini : (Cond.initialized cls).before args s = true) (hstr : vk_R own is text sa s) (hat : ∀ w ∈ vx_atS own ic cls names, w.before args s = true)
    (hgood : ∀ w ∈ Cond.classLink own ik cls :: Cond.initialized cls :: vx_atS own ic cls names, vx_ot w = true)
    (hU : vx_Zq Bundle.tN "UNASSIGNED_STACK" Bundle.steD A s s.heap) (hN : vx_Zq Bundle.tN "SUPPRESSED_SENTINEL" Bundle.listD A s s.heap) (hS : va_S A s.heap H locs) (hsize : ls.size = c.maxLocals)
    (d0 : decode cc pc = .ok (.new ik, 3)) (d3 : decode cc (pc + 3) = .ok (.dup, 1)) (d4 : decode cc (pc + 4) = .ok (.ldc is, 2)) (d6 : decode cc (pc + 6) = .ok (.invokespecial ic, 3)) (d9 : decode cc (pc + 9) = .ok (.athrow, 1))
    (hout : ∀ x ∈ c.exceptionTable.toList, covers x (pc + 9) = false)
    (hRframes : names.length + 3 < R.frames) (hRlocals : (rest.map fun v => v.category).sum + (13 * (names.length + 1) + 43) ≤ R.locals) (hRcells : cells + 1 ≤ R.cells) (hRslots : slots + 6 ≤ R.slots) (hlocks : meth.locks = false)
    (hx : ∀ t : State, s.vm.Alike t.vm → H.size ≤ t.heap.size → (∀ q : Nat, q < H.size → t.heap[q]? = H[q]?) → XC cls s t)
    (hf : ∀ z ∈ locs, free z.base) (hc : cells + 1 ≤ mc) (hs : slots + 6 ≤ ms) :
    W p l e R s m args below meth c H locs cells slots (vx_MQ below Qc XC args s mc ms free) (F0 m pc ls rest) := by
  intro T hT X
  have htr : e.platform.stackTraces = false := (show e.platform.stackTraces = l.stackTraces by rw [X.admits.platform]).trans hl
  have Y := vx_rebase X (R' := { frames := R.frames, locals := R.locals, cells := 1, slots := 6 }) (Nat.le_refl _) (Nat.le_refl _) hRcells hRslots
  obtain ⟨s', hA⟩ : ∃ z, z = (T.setVm s.vm).setFrames (.invoking m args :: below) := ⟨_, rfl⟩
  rw [← hA] at Y
  have hvm : s'.vm = s.vm := by rw [hA]; rfl
  have hhp : s'.heap = H := by rw [hA]; exact hT
  have hW0 : s.WarmedH s'.vm := by rw [hvm]; exact State.WarmedH.refl s
  have hat' : ∀ w ∈ vx_atS own ic cls names, w.before args s' = true := fun w hw => vx_ot_at hW0 hvm.symm (hgood w (List.mem_cons_of_mem _ (List.mem_cons_of_mem _ hw))) (hat w hw)
  have hk' : (Cond.classLink own ik cls).before args s' = true := vx_ot_at hW0 hvm.symm (hgood _ List.mem_cons_self) hk
  have hini' : (Cond.initialized cls).before args s' = true := vx_ot_at hW0 hvm.symm (hgood _ (List.mem_cons_of_mem _ List.mem_cons_self)) hini
  have hU' : vx_Zq Bundle.tN "UNASSIGNED_STACK" Bundle.steD A s' s'.heap := by rw [hhp]; exact vx_Zq.moved hW0.alike (hU.kept hS.2.1)
  have hN' : vx_Zq Bundle.tN "SUPPRESSED_SENTINEL" Bundle.listD A s' s'.heap := by rw [hhp]; exact vx_Zq.moved hW0.alike (hN.kept hS.2.1)
  have h : ∀ w ∈ Bundle.ownAtoms own ic cls names, w.before args s' = true := vx_own hat' (vx_isRefq hU'.1) (vx_isRefq hN'.1) hU'.2.word hN'.2.word
  have hown' : s'.vm.findClass own = some m.cls := by rw [hvm]; exact hown
  have hins : (Cond.instantiable cls 6).before args s' = true := h _ (by simp [Bundle.ownAtoms])
  obtain ⟨vm₁, cX, kX, hfX, hkX, -, -, X₁, st1⟩ := Y.newCold hexec (own := own) (C := cls) (index := ik) (n := 6) hown' hk' hins hini'
    (g := F0 m pc ls rest) rfl (by rw [hb]; exact d0) (Nat.le_refl _) (Nat.le_refl _)
  generalize hT1 : (T.setVm vm₁).pushCell { cls := cX, slots := kX.instanceTypes.map defaultValue, vm := .none } = T1 at X₁ st1
  have hcat : (Value.ref T.heap.size).category = 1 := rfl
  have hcellA : T1.heap[T.heap.size]? = some (freshCell cX kX) := by rw [← hT1]; exact State.heap_pushCell_size _ _
  have d3' : decode c.code (pc + 3) = .ok (.dup, 1) := by rw [hb]; exact d3
  have d4' : decode c.code (pc + 4) = .ok (.ldc is, 2) := by rw [hb]; exact d4
  have hstr' : vk_R own is text sa s' := vk_R.warm hW0 hstr
  obtain ⟨U, hsteps, hrun, hend, hW, hsame, ce, hce, hO⟩ := X₁.ctorThrowS hexec htr (own := own) (cls := cls) (names := names) (ic := ic) hown' hcls hnames h (fun x hx => nomatch hx) hfX hkX hcellA (by rw [hhp, hT]; exact Nat.le_refl _) (msg := .ref sa) rfl
    (g := { method := m, pc := pc + 6, locals := ls, stack := .ref sa :: .ref T.heap.size :: .ref T.heap.size :: rest, locked := none }) rfl hsize rfl rfl (rest := rest) rfl
    (by rw [hb]; exact d6) (by rw [hb]; exact d9) hout hRframes (by simp only [List.map_cons, List.sum_cons, hcat]; omega) hlocks
  obtain ⟨f1, f2⟩ := vx_frame hsame
  rw [hhp] at f1 f2
  have hWs : s.WarmedH U.vm := State.WarmedH.trans hW0 hW
  have hcl : s.vm.findClass cls = some ce.cls := by
    have h9 := hO.cls
    rw [hvm] at h9
    exact h9
  have hall : s.sameButNew ({ U with vm := s.vm } : State) locs mc ms := by
    subst hA
    obtain ⟨e1, e2⟩ := hsame
    rw [State.setFrames_setFrames] at e1
    have h2 : (T.setVm s.vm).sameButNew ({ U with vm := s.vm } : State) [] (0 + 1) (0 + 6) := ⟨e1, e2⟩
    have h3 := X.same.trans h2
    rw [List.append_nil] at h3
    exact h3.mono hc hs
  refine ⟨U, ?_, .threw T.heap.size, hrun, hend, Or.inr ⟨T.heap.size, rfl, cls, ce, locs, hx U hWs.alike f1 (fun q hq => f2 q hq (fun z hz => nomatch hz)), hce, hO.vm, hcl, hWs, hall, hf⟩⟩
  refine st1 _ ?_
  show Steps p.tables e below (T1.setTop { method := m, pc := pc + 3, locals := ls, stack := .ref T.heap.size :: rest, locked := none }) _
  jvm_step X₁.here [X₁.here.top, hexec, d3', Value.category]
  exact X₁.ldcString hexec (own := own) (text := text) (index := is) (a := sa) hown' hstr'.1 hstr'.2
    (g := { method := m, pc := pc + 4, locals := ls, stack := .ref T.heap.size :: .ref T.heap.size :: rest, locked := none }) rfl d4' _ hsteps
/-- 'throw new E("text")', the text by a wide index -/
theorem vx_throwSW {cc : ByteArray} {pc : Nat} (hexec : p.tables.exec = Jvm.exec) (hb : c.code = cc) (hl : l.stackTraces = false) {own cls text : String} {names : List String} {ik is ic mc ms sa : Nat} {A : Nat → Prop}
    (hown : s.vm.findClass own = some m.cls) (hcls : Bundle.fit cls = true) (hnames : ∀ n ∈ names, Bundle.fit n = true)
    (hk : (Cond.classLink own ik cls).before args s = true) (hini : (Cond.initialized cls).before args s = true) (hstr : vk_R own is text sa s) (hat : ∀ w ∈ vx_atS own ic cls names, w.before args s = true)
    (hgood : ∀ w ∈ Cond.classLink own ik cls :: Cond.initialized cls :: vx_atS own ic cls names, vx_ot w = true)
    (hU : vx_Zq Bundle.tN "UNASSIGNED_STACK" Bundle.steD A s s.heap) (hN : vx_Zq Bundle.tN "SUPPRESSED_SENTINEL" Bundle.listD A s s.heap) (hS : va_S A s.heap H locs) (hsize : ls.size = c.maxLocals)
    (d0 : decode cc pc = .ok (.new ik, 3)) (d3 : decode cc (pc + 3) = .ok (.dup, 1)) (d4 : decode cc (pc + 4) = .ok (.ldc_w is, 3)) (d7 : decode cc (pc + 7) = .ok (.invokespecial ic, 3)) (d10 : decode cc (pc + 10) = .ok (.athrow, 1))
    (hout : ∀ x ∈ c.exceptionTable.toList, covers x (pc + 10) = false)
    (hRframes : names.length + 3 < R.frames) (hRlocals : (rest.map fun v => v.category).sum + (13 * (names.length + 1) + 43) ≤ R.locals) (hRcells : cells + 1 ≤ R.cells) (hRslots : slots + 6 ≤ R.slots) (hlocks : meth.locks = false)
    (hx : ∀ t : State, s.vm.Alike t.vm → H.size ≤ t.heap.size → (∀ q : Nat, q < H.size → t.heap[q]? = H[q]?) → XC cls s t)
    (hf : ∀ z ∈ locs, free z.base) (hc : cells + 1 ≤ mc) (hs : slots + 6 ≤ ms) :
    W p l e R s m args below meth c H locs cells slots (vx_MQ below Qc XC args s mc ms free) (F0 m pc ls rest) := by
  intro T hT X
  have htr : e.platform.stackTraces = false := (show e.platform.stackTraces = l.stackTraces by rw [X.admits.platform]).trans hl
  have Y := vx_rebase X (R' := { frames := R.frames, locals := R.locals, cells := 1, slots := 6 }) (Nat.le_refl _) (Nat.le_refl _) hRcells hRslots
  obtain ⟨s', hA⟩ : ∃ z, z = (T.setVm s.vm).setFrames (.invoking m args :: below) := ⟨_, rfl⟩
  rw [← hA] at Y
  have hvm : s'.vm = s.vm := by rw [hA]; rfl
  have hhp : s'.heap = H := by rw [hA]; exact hT
  have hW0 : s.WarmedH s'.vm := by rw [hvm]; exact State.WarmedH.refl s
  have hat' : ∀ w ∈ vx_atS own ic cls names, w.before args s' = true := fun w hw => vx_ot_at hW0 hvm.symm (hgood w (List.mem_cons_of_mem _ (List.mem_cons_of_mem _ hw))) (hat w hw)
  have hk' : (Cond.classLink own ik cls).before args s' = true := vx_ot_at hW0 hvm.symm (hgood _ List.mem_cons_self) hk
  have hini' : (Cond.initialized cls).before args s' = true := vx_ot_at hW0 hvm.symm (hgood _ (List.mem_cons_of_mem _ List.mem_cons_self)) hini
  have hU' : vx_Zq Bundle.tN "UNASSIGNED_STACK" Bundle.steD A s' s'.heap := by rw [hhp]; exact vx_Zq.moved hW0.alike (hU.kept hS.2.1)
  have hN' : vx_Zq Bundle.tN "SUPPRESSED_SENTINEL" Bundle.listD A s' s'.heap := by rw [hhp]; exact vx_Zq.moved hW0.alike (hN.kept hS.2.1)
  have h : ∀ w ∈ Bundle.ownAtoms own ic cls names, w.before args s' = true := vx_own hat' (vx_isRefq hU'.1) (vx_isRefq hN'.1) hU'.2.word hN'.2.word
  have hown' : s'.vm.findClass own = some m.cls := by rw [hvm]; exact hown
  have hins : (Cond.instantiable cls 6).before args s' = true := h _ (by simp [Bundle.ownAtoms])
  obtain ⟨vm₁, cX, kX, hfX, hkX, -, -, X₁, st1⟩ := Y.newCold hexec (own := own) (C := cls) (index := ik) (n := 6) hown' hk' hins hini'
    (g := F0 m pc ls rest) rfl (by rw [hb]; exact d0) (Nat.le_refl _) (Nat.le_refl _)
  generalize hT1 : (T.setVm vm₁).pushCell { cls := cX, slots := kX.instanceTypes.map defaultValue, vm := .none } = T1 at X₁ st1
  have hcat : (Value.ref T.heap.size).category = 1 := rfl
  have hcellA : T1.heap[T.heap.size]? = some (freshCell cX kX) := by rw [← hT1]; exact State.heap_pushCell_size _ _
  have d3' : decode c.code (pc + 3) = .ok (.dup, 1) := by rw [hb]; exact d3
  have d4' : decode c.code (pc + 4) = .ok (.ldc_w is, 3) := by rw [hb]; exact d4
  have hstr' : vk_R own is text sa s' := vk_R.warm hW0 hstr
  obtain ⟨U, hsteps, hrun, hend, hW, hsame, ce, hce, hO⟩ := X₁.ctorThrowS hexec htr (own := own) (cls := cls) (names := names) (ic := ic) hown' hcls hnames h (fun x hx => nomatch hx) hfX hkX hcellA (by rw [hhp, hT]; exact Nat.le_refl _) (msg := .ref sa) rfl
    (g := { method := m, pc := pc + 7, locals := ls, stack := .ref sa :: .ref T.heap.size :: .ref T.heap.size :: rest, locked := none }) rfl hsize rfl rfl (rest := rest) rfl
    (by rw [hb]; exact d7) (by rw [hb]; exact d10) hout hRframes (by simp only [List.map_cons, List.sum_cons, hcat]; omega) hlocks
  obtain ⟨f1, f2⟩ := vx_frame hsame
  rw [hhp] at f1 f2
  have hWs : s.WarmedH U.vm := State.WarmedH.trans hW0 hW
  have hcl : s.vm.findClass cls = some ce.cls := by
    have h9 := hO.cls
    rw [hvm] at h9
    exact h9
  have hall : s.sameButNew ({ U with vm := s.vm } : State) locs mc ms := by
    subst hA
    obtain ⟨e1, e2⟩ := hsame
    rw [State.setFrames_setFrames] at e1
    have h2 : (T.setVm s.vm).sameButNew ({ U with vm := s.vm } : State) [] (0 + 1) (0 + 6) := ⟨e1, e2⟩
    have h3 := X.same.trans h2
    rw [List.append_nil] at h3
    exact h3.mono hc hs
  refine ⟨U, ?_, .threw T.heap.size, hrun, hend, Or.inr ⟨T.heap.size, rfl, cls, ce, locs, hx U hWs.alike f1 (fun q hq => f2 q hq (fun z hz => nomatch hz)), hce, hO.vm, hcl, hWs, hall, hf⟩⟩
  refine st1 _ ?_
  show Steps p.tables e below (T1.setTop { method := m, pc := pc + 3, locals := ls, stack := .ref T.heap.size :: rest, locked := none }) _
  jvm_step X₁.here [X₁.here.top, hexec, d3', Value.category]
  exact X₁.ldcStringW hexec (own := own) (text := text) (index := is) (a := sa) hown' hstr'.1 hstr'.2
    (g := { method := m, pc := pc + 4, locals := ls, stack := .ref T.heap.size :: .ref T.heap.size :: rest, locked := none }) rfl d4' _ hsteps
end Ends
section Bodies
variable {l : Launch}
theorem vx_ofW {y : MethodName} {ws ws' : List Cond} {rm : Room} {Pc : Array Value → State → Prop} {Qc : Array Value → State → Outcome → State → Prop} {XC : String → State → State → Prop} {mc ms : Nat} {free : Addr → Prop} {cc : ByteArray} {maxL : Nat} {ret : Option FieldType}
    (hy : plainName y.cls = true) (hw : ws = Cond.code y cc maxL ret :: ws')
    (body : ∀ p e s m args below meth c s₁, BodyLoose p l y (headSpec ws rm) cc maxL ret e s m args below meth c s₁ → c.maxLocals = maxL → (∀ x ∈ c.exceptionTable.toList, False) → Pc args s →
      W p l e (headSpec ws rm).room s m args below meth c s.heap [] 0 0 (vx_MQ below Qc XC args s mc ms free) (entryFrame m args maxL)) : vx_Met l y ws rm Pc Qc XC mc ms free := by
  refine MetFree.of_bodyS (code := cc) (maxLocals := maxL) (ret := ret) hy ?_ ?_
  · intro args s m h hn
    obtain ⟨meth, c, h1, h2, h3, h4, h5, h6, -, -⟩ := Cond.code_spec hn (atoms_spec (ws := ws) h _ (by rw [hw]; exact List.mem_cons_self))
    exact ⟨meth, c, h1, h2, h3, h4, h5, h6⟩
  · intro p e s m args below meth c s₁ B hml hP _
    have hh0 : s₁.heap = s.heap := by rw [B.state]; rfl
    have ht : ∀ x ∈ c.exceptionTable.toList, False := by
      obtain ⟨meth9, c9, h1, h2, -, -, -, -, h7, -⟩ := Cond.code_spec B.named (atoms_spec (ws := ws) B.pre _ (by rw [hw]; exact List.mem_cons_self))
      cases Option.some.inj (h1.symm.trans B.method)
      cases Option.some.inj (h2.symm.trans (Stand.of_body B).code)
      intro x hx
      rw [Array.isEmpty_iff.mp h7] at hx
      cases hx
    obtain ⟨t, a1, o, b1, b2, b3⟩ := body p e s m args below meth c s₁ B hml ht hP s₁ hh0 (Stand.of_body B)
    exact ⟨t, o, a1, b1, b2, b3⟩
/-- the table of a body with handlers -/
theorem vx_table {p : Program} {x y : MethodName} {S : Spec} {cc bytes : ByteArray} {maxL maxL' : Nat} {ret ret' : Option FieldType} {e : Env} {s s₁ : State} {m : MethodId} {args : Array Value} {below : List Frame} {meth : Method} {c : Code} {hh : List (Nat × Nat × Nat × Nat)}
    (B : BodyLoose p l y S cc maxL ret e s m args below meth c s₁) (h : (Cond.codeWith y bytes maxL' ret' hh).before args s = true) : c.exceptionTable.toList = tableOf hh := by
  obtain ⟨m9, meth9, c9, hn9, h1, h2, -, -, h6, -⟩ := Cond.codeWith_spec h
  cases Option.some.inj (hn9.symm.trans B.named)
  cases Option.some.inj (h1.symm.trans B.method)
  cases Option.some.inj (h2.symm.trans (Stand.of_body B).code)
  rw [← h6, table_eq]
end Bodies
end VXA
/-! ===== END ===== -/
/-! ===== BEGIN a static call of a method with an exception table ===== -/
section VXS
variable {p : Program} {l : Launch} {e : Env} {R : Room} {s : State} {m : MethodId} {args : Array Value} {below : List Frame} {meth : Method} {c : Code} {T : State} {H : Heap} {locs : List Loc} {cells slots : Nat}
abbrev vx_CSW (R : Room) (s : State) (args : Array Value) (own : String) (index : Nat) (y : MethodName) (bytes : ByteArray) (maxL : Nat) (ret : Option FieldType) (hh : List (Nat × Nat × Nat × Nat)) (ws : List Cond) (rm : Room) (mc ms n : Nat) : Prop :=
  (rm.cells = mc ∧ rm.slots = ms ∧ rm.frames + 1 ≤ R.frames ∧ 8 + (maxL + 11) + rm.locals ≤ R.locals ∧ (∀ w ∈ ws, ∀ (a' : Array Value) (U : State), s.WarmedH U.vm → w.before a' U = true) ∧ Cond.codeWith y bytes maxL ret hh ∈ ws) ∧
  (Cond.codeWith y bytes maxL ret hh).before args s = true ∧ (Cond.initialized y.cls).before args s = true ∧ (y.cls ≠ "java/lang/invoke/MethodHandle" ∧ y.cls ≠ "java/lang/invoke/VarHandle") ∧
  (∀ sig, parseMethodDescriptor y.desc = some sig → n = sig.parameters.length) ∧ (Cond.methodLink own index y).before args s = true ∧ (Cond.static y).before args s = true
theorem vx_cwSW {own : String} {index maxL mc ms : Nat} {y : MethodName} {bytes : ByteArray} {ret : Option FieldType} {hh : List (Nat × Nat × Nat × Nat)} {Ts ws ws' : List Cond} {rm : Room} (n : Nat) (ht : ∀ w ∈ Ts, w.before args s = true) (hT : GoodIn Ts (va_wsS own index y ws)) (hw : ws = Cond.codeWith y bytes maxL ret hh :: ws') (hrc : rm.cells = mc) (hrs : rm.slots = ms)
    (hd : y.cls ≠ "java/lang/invoke/MethodHandle" ∧ y.cls ≠ "java/lang/invoke/VarHandle" ∧ (parseMethodDescriptor y.desc).map (fun d => d.parameters.length) = some n) (hR : rm.frames + 1 ≤ R.frames ∧ 8 + (maxL + 11) + rm.locals ≤ R.locals) :
    vx_CSW R s args own index y bytes maxL ret hh ws rm mc ms n := by
  have ok : ∀ w ∈ va_wsS own index y ws, w.before args s = true := fun w h => ht w (hT w h).1
  have hG : GoodIn Ts ws := fun w h => hT w (by unfold va_wsS; exact List.mem_append_right _ h)
  have hc : Cond.codeWith y bytes maxL ret hh ∈ ws := by rw [hw]; exact List.mem_cons_self
  refine ⟨⟨hrc, hrs, hR.1, hR.2, pay_in ht hG, hc⟩, ht _ (hG _ hc).1, ok _ (by simp [va_wsS]), ⟨hd.1, hd.2.1⟩, fun sig h => ?_, ok _ (by simp [va_wsS]), ok _ (by simp [va_wsS])⟩
  have h2 := hd.2.2
  rw [h] at h2
  exact (Option.some.inj h2).symm
theorem vx_callSW (X : Stand p l e R s m args below meth c T locs cells slots) (hexec : p.tables.exec = Jvm.exec) {own : String} {index : Nat} {y : MethodName} {bytes : ByteArray} {maxL : Nat} {ret : Option FieldType} {hh : List (Nat × Nat × Nat × Nat)}
    (hown : s.vm.findClass own = some m.cls) (hlink : (Cond.methodLink own index y).before args s = true) (hstat : (Cond.static y).before args s = true) (hinit : (Cond.initialized y.cls).before args s = true)
    (hcode : (Cond.codeWith y bytes maxL ret hh).before args s = true) (hy : y.cls ≠ "java/lang/invoke/MethodHandle" ∧ y.cls ≠ "java/lang/invoke/VarHandle")
    {W9 : Nat} {Pre : Pt → Array Value → Prop} {Post : Pt → Array Value → Option Value → Pt → Prop} (hK : Back l R p e below s args y 3 W9 Pre Post)
    {g : JFrame} (hg : g.method = m) (hsize : g.locals.size = c.maxLocals) {argsL rest : List Value} (hlen : ∀ sig, parseMethodDescriptor y.desc = some sig → argsL.length = sig.parameters.length)
    (hstack : g.stack = argsL.reverse ++ rest) (hW : 2 * g.monitorRoom + (rest.map fun v => v.category).sum ≤ W9) (hdg : decode c.code g.pc = .ok (.invokestatic index, 3))
    (hpre : ∀ vm₁, s.WarmedH vm₁ → Pre ⟨T.setVm vm₁, locs, cells, slots⟩ argsL.toArray) :
    ∃ (v : Option Value) (vm₁ : Vm) (B : Pt), s.WarmedH vm₁ ∧ Stand p l e R s m args below meth c B.U B.locs B.cells B.slots ∧ Post ⟨T.setVm vm₁, locs, cells, slots⟩ argsL.toArray v B ∧
      ∀ target, Steps p.tables e below (B.U.setTop { g with pc := g.pc + 3, stack := v.toList ++ rest }) target → Steps p.tables e below (T.setTop g) target := by
  obtain ⟨mk, methM, cM, hnamed, hmethM, -, -, -, -, -, -, hsigM⟩ := Cond.codeWith_spec hcode
  have hstatic : methM.isStatic = true := Cond.static_spec hnamed hmethM hstat
  obtain ⟨kP, hkP, -⟩ := className_of_methodNamed hnamed
  have hinitP : kP.init = .initialized := Cond.initialized_spec (findClass_of_methodNamed hnamed) hkP hinit
  obtain ⟨vm₁, X₁, hstep₁⟩ := X.invokestatic hexec hown hlink hnamed hmethM hstatic hkP hinitP hy (g := g) hg (argsL := argsL) (rest := rest) (hlen _ hsigM) hstack hdg
  obtain ⟨v, B, X', hpost, hsteps⟩ := hK m meth c ⟨T.setVm vm₁, locs, cells, slots⟩ { g with stack := rest } (.invokestatic index) mk argsL.toArray X₁ hg hsize hdg hW (X₁.named hnamed) (hpre vm₁ X₁.warmed)
  exact ⟨v, vm₁, B, X₁.warmed, X', hpost, fun target h => hstep₁ _ fun acts => by rw [doInvoke_state]; exact hsteps.trans h⟩
theorem vx_runSW {y : MethodName} {bytes cc : ByteArray} {maxL nL mc ms n index : Nat} {ret : Option FieldType} {hh : List (Nat × Nat × Nat × Nat)} {ws : List Cond} {rm : Room} {Pc : Array Value → State → Prop} {Qc : Array Value → State → Outcome → State → Prop} {free : Addr → Prop} {Ts : List Cond} {own : String} {As rest : List Value} {g : JFrame}
    (S : CallFix p m c cc nL s args Ts own) (hM : Met l y ws rm Pc Qc mc ms free) (cw : vx_CSW R s args own index y bytes maxL ret hh ws rm mc ms n) (hp : PreS s H Pc As)
    (hg : g.method = m) (hn : As.length = n) (hsize : g.locals.size = nL) (hstack : g.stack = As.reverse ++ rest) (hW : 2 * g.monitorRoom + (rest.map fun v => v.category).sum ≤ 8) (hdg : decode cc g.pc = .ok (.invokestatic index, 3)) (hf : cells + mc ≤ R.cells ∧ slots + ms ≤ R.slots) :
    va_Run p l e R s m args below meth c H locs cells slots mc ms g rest (Qc As.toArray) (free) := by
  obtain ⟨⟨hrc, hrs, hfr, hlo, hws, hcw⟩, hcode, hini, hy, hlen, hl, hstt⟩ := cw
  have hK : Back l R p e below s args y 3 8 (PreOf R mc ms Pc) (PostOf Qc mc ms free) := va_backW (hh := hh) (bytes := bytes) (maxL := maxL) (ret := ret) hM hp.1 hrc hrs hfr hlo hws hcw (fun a' U hW => word_at hW (Or.inl (by first | rfl | simp [Cond.onTables, Cond.keeps, Cond.steady])) hini)
  obtain ⟨hx, hb, hml, ho, -⟩ := S
  intro T hT X
  obtain ⟨v, vm₁, ⟨U', l2, c2, s2⟩, hW₁, X', ⟨g', mk, t, L, e1, e2, hq, h1, hL, h2, h3⟩, st⟩ := vx_callSW X hx (hh := hh) (bytes := bytes) (maxL := maxL) (ret := ret) ho hl hstt hini hcode hy hK hg (hsize.trans hml.symm) (argsL := As) (rest := rest) (fun sig h => hn.trans (hlen sig h)) hstack hW (by rw [hb]; exact hdg)
    (fun vm₁ hW₁ => ⟨hf.1, hf.2, hp.2 (T.setVm vm₁) hT hW₁⟩)
  dsimp only [Pt.U, Pt.locs, Pt.cells, Pt.slots] at X' e1 e2 h1 h2 h3 st
  subst h1; subst h2; subst h3
  exact ⟨v, (T.setVm vm₁).calling g' mk As.toArray, t, U', L, hT, X', hL, e1, e2, hq, st⟩
/-- not caught here, past rows that name other classes: it goes on to the caller -/
theorem vx_outP {p : Program} {l : Launch} {e : Env} {R : Room} {s : State} {m : MethodId} {args : Array Value} {below : List Frame} {meth : Method} {c : Code} {H : Heap} {locs : List Loc} {cells slots : Nat} {free : Addr → Prop} {ls : Array Slot} {rest : List Value} {Qc : Array Value → State → Outcome → State → Prop} {XC : String → State → State → Prop}
    {pc : Nat} {own E : String} {ce : Cell} {q : Addr} {mc ms : Nat} (hown : s.vm.findClass own = some m.cls) (hlocks : meth.locks = false)
    (hpass : ∀ z ∈ c.exceptionTable.toList, covers z pc = false ∨ (z.catchType ≠ 0 ∧ ∃ nm : String, (Cond.classLink own z.catchType nm).before args s = true ∧ va_Nc E nm s)) (hcell : H[q]? = some ce) (hv : ce.vm = .none) (hcl : s.vm.findClass E = some ce.cls)
    (hx : ∀ t : State, t.heap = H → s.vm.Alike t.vm → XC E s t) (hf : ∀ z ∈ locs, free z.base) (hc : cells ≤ mc) (hs : slots ≤ ms) :
    vx_W p l e R s m args below meth c H locs cells slots (vx_MQ below Qc XC args s mc ms free) (F0 m pc ls rest) q := by
  intro T hT X
  have hpl : e.platform.magicAccessors = ({} : Platform).magicAccessors := by rw [X.admits.platform]
  obtain ⟨vm', hW', X', st⟩ := X.outThrough hlocks q (g := F0 m pc ls rest) rfl rfl rfl (cell := ce) (by rw [hT]; exact hcell) (by rw [hv]; rfl)
    (by obtain ⟨k9, h9, -⟩ := Vm.findClass_spec hcl; exact ⟨k9, h9⟩) (fun z hz => by
      rcases hpass z hz with h | ⟨hz0, nm, hl1, hn1⟩
      · exact Or.inl h
      · obtain ⟨c6, hc6, hcl6⟩ := Cond.classLink_spec hown hl1 e.platform hpl
        obtain ⟨a8, b8, h1, h2, h3⟩ := hn1
        cases Option.some.inj (h1.symm.trans hcl)
        cases Option.some.inj (h2.symm.trans hc6)
        exact Or.inr ⟨hz0, _, hcl6, h3⟩)
  obtain ⟨g₀, hfr⟩ := X'.frames_eq
  have hcell9 : ((T.setVm vm').setFrames (.throwing q :: below)).heap[q]? = some ce := by
    show T.heap[q]? = some ce
    rw [hT]; exact hcell
  have hend : Ended ((T.setVm vm').setFrames (.throwing q :: below)) below (.threw q) := State.frames_setFrames _ (State.cur_lt_of_frames hfr)
  refine ⟨(T.setVm vm').setFrames (.throwing q :: below), ?_, .threw q, X'.here.running, hend, Or.inr ⟨q, rfl, E, ce, locs, hx _ hT (X'.ends _).1.alike, hcell9, hv, hcl, (X'.ends _).1, (X'.ends _).2.mono hc hs, hf⟩⟩
  rw [X.pushThrowing_eq]
  exact st
/-- a thing of a world lies in the heap -/
theorem vx_lt {D : va_G} {cl : List vw_C} {ws : va_W} {H1 : Heap} (h : va_P D cl ws H1) {k : Nat} {q : Nat × va_E} (hk : ws[k]? = some q) : q.1 < H1.size := (h k q hk).lt
end VXS
/-! ===== END ===== -/
/-! ===== BEGIN methods with a table of their own: called by a name, returning or throwing ===== -/
section VXH
/-! vx_backW, vx_callVX, vx_callSX, vx_callVW, vx_runVW, vx_runVX, vx_runSX, vx_ofWH follow the same proofs as their sisters above (Free/Laws.lean, Shelf42/LK1.lean); vx_outP calls Shelf42/NT130.lean (outThrough). -/
section
variable {l : Launch} {R : Room} {p : Program} {e : Env} {below : List Frame} {s : State} {sargs : Array Value} {y : MethodName} {len W9 : Nat}
theorem vx_backW {ws : List Cond} {rm : Room} {Pc : Array Value → State → Prop} {Qc : Array Value → State → Outcome → State → Prop} {XC : String → State → State → Prop} {mc ms : Nat} {free : Addr → Prop} {bytes : ByteArray} {maxL : Nat} {ret : Option FieldType} {hh : List (Nat × Nat × Nat × Nat)}
    (hM : vx_Met l y ws rm Pc Qc XC mc ms free) (hblind : FrameBlind Pc) (hrc : rm.cells = mc) (hrs : rm.slots = ms)
    (hframes : rm.frames + 1 ≤ R.frames) (hlocals : W9 + (maxL + 11) + rm.locals ≤ R.locals)
    (hws : ∀ w ∈ ws, ∀ a' U, s.WarmedH U.vm → w.before a' U = true) (hcode : Cond.codeWith y bytes maxL ret hh ∈ ws) (hinit : ∀ a' U, s.WarmedH U.vm → (Cond.initialized y.cls).before a' U = true) :
    vx_Back l R p e below s sargs y len W9 (PreOf R mc ms Pc) (PostOf Qc mc ms free) (vx_Post XC mc ms free) := by
  intro m meth c A g ig mk a X hg hsize hdg hW hn hp
  have h1 : (headSpec ws rm).pre.before a A.U = true := atoms_intro fun w hw => hws w hw _ _ X.warmed
  have h2 : (Cond.codeWith y bytes maxL ret hh).before a A.U = true := hws _ hcode _ _ X.warmed
  have h3 : (Cond.initialized y.cls).before a A.U = true := hinit _ _ X.warmed
  have h4 : A.cells + (headSpec ws rm).room.cells ≤ R.cells := by rw [show (headSpec ws rm).room.cells = mc from hrc]; exact hp.1
  have h5 : A.slots + (headSpec ws rm).room.slots ≤ R.slots := by rw [show (headSpec ws rm).room.slots = ms from hrs]; exact hp.2.1
  have hPc : Pc a (A.U.calling g mk a) := hblind _ _ _ _ hp.2.2
  obtain ⟨U, Ls, c0, s0⟩ := A
  dsimp only [Pt.U, Pt.locs, Pt.cells, Pt.slots] at h1 h2 h3 h4 h5 X hn hPc ⊢
  obtain ⟨m9, methY, cY, hn9, hmY, hcY, -, hlY, -⟩ := Cond.codeWith_spec h2
  cases Option.some.inj (hn9.symm.trans hn)
  obtain ⟨kY, hkY, -⟩ := className_of_methodNamed hn
  have hinitY : kY.init = .initialized := Cond.initialized_spec (findClass_of_methodNamed hn) hkY h3
  have h : At U g.method c below := by rw [hg]; exact X.here
  have hlocals9 : W9 + (maxL + 11) + (headSpec ws rm).room.locals ≤ R.locals := hlocals
  have happ : (headSpec ws rm).appliesLoose y e.platform (U.calling g mk a) = true :=
    Spec.appliesLoose_calling (g := g) h hdg hn hkY hinitY
      (X.room_calling (g := g) (R' := (headSpec ws rm).room) hsize hmY hcY hframes (by rw [hlY]; omega) h4 h5) h1
  obtain ⟨mid, hmid⟩ := h.above
  have hfr : (U.setTop g).frames = (.java g :: mid) ++ below := by rw [State.frames_setTop' g h.top, hmid]; rfl
  obtain ⟨o, s₂, hsteps, -, hend, hq⟩ := Steps.callFree hM p X.admits X.cas X.clock (acts := []) hfr happ hPc trivial
  have hq' : vx_Q Qc XC mc ms free a (U.calling g mk a) o s₂ := hq
  rw [State.frames_setTop' g h.top] at hend
  obtain ⟨g₀, hg0⟩ := Option.isSome_iff_exists.mp h.top
  obtain ⟨r, hr⟩ := State.topJava?_eq_some.mp hg0
  have hr' : (({ U with heap := s₂.heap, slotsUsed := s₂.slotsUsed } : State).setVm s₂.vm).frames = .java g₀ :: r := hr
  rcases hq' with ⟨hqc, L, hfe, hL⟩ | ⟨q, rfl, E, ce, L, hx, hce, hcv, hcl, hW₂, hsm, hL⟩
  · obtain ⟨⟨v, rfl⟩, hW₂, e2, q2, q3, q4, q5, q6⟩ := id hfe
    have e3 : s₂ = ({ (U.calling g mk a).setFrames s₂.frames with heap := s₂.heap, slotsUsed := s₂.slotsUsed } : State).setVm s₂.vm := by
      have : s₂ = ({ s₂ with vm := (U.calling g mk a).vm } : State).setVm s₂.vm := rfl
      rw [e2] at this
      exact this
    obtain ⟨c₂, i₂, len₂, hc₂, hd₂, hf₂⟩ := hend
    have hW' : U.WarmedH s₂.vm := hW₂
    have hcc : c₂ = c := by
      have h1 : s₂.code? g.method = U.code? g.method := by
        rw [State.code?_eq, State.code?_eq, hW'.alike.method?]
      exact Option.some.inj (hc₂.symm.trans (h1.trans h.code))
    subst hcc
    have hlen : len₂ = len := by rw [hdg] at hd₂; cases hd₂; rfl
    subst hlen
    have hs₂ : s₂ = (({ U with heap := s₂.heap, slotsUsed := s₂.slotsUsed } : State).setVm s₂.vm).setTop { g with pc := g.pc + len₂, stack := v.toList ++ g.stack } := by
      refine e3.trans ?_
      rw [hf₂, State.calling_eq h.top, State.setFrames_setFrames, State.setTop_of_frames _ hr', hr]
      rfl
    have hsame : U.sameButNew ({ U with heap := s₂.heap, slotsUsed := s₂.slotsUsed } : State) L mc ms := by
      refine ⟨?_, q2, q3, q4, q5, q6⟩
      obtain ⟨t, ht, -⟩ := State.frames_cons hr
      show ({ U with heap := s₂.heap, slotsUsed := s₂.slotsUsed } : State) = { U.setFrames U.frames with heap := s₂.heap, slotsUsed := s₂.slotsUsed }
      rw [State.setFrames_self ht]
    subst hg
    refine Or.inl ⟨v, ⟨(({ U with heap := s₂.heap, slotsUsed := s₂.slotsUsed } : State).setVm s₂.vm), Ls ++ L, c0 + mc, s0 + ms⟩,
      ⟨X.admits, X.cas, X.clock, X.frames, X.room, X.hears, X.method, X.code, (X.here.setHeapUsed s₂.heap s₂.slotsUsed).setVm hW'.alike, X.tail, State.WarmedH.trans X.warmed hW', X.limits, X.bytes, X.same.trans (hsame.setVm s.vm)⟩,
      ⟨g, mk, s₂, L, rfl, rfl, hqc, rfl, hL, rfl, rfl⟩, ?_⟩
    show Steps p.tables e below _ ((({ U with heap := s₂.heap, slotsUsed := s₂.slotsUsed } : State).setVm s₂.vm).setTop { g with pc := g.pc + len₂, stack := v.toList ++ g.stack })
    rw [← hs₂]
    exact hsteps
  · obtain ⟨e2, q2, q3, q4, q5, q6⟩ := id hsm
    have e3 : s₂ = ({ (U.calling g mk a).setFrames s₂.frames with heap := s₂.heap, slotsUsed := s₂.slotsUsed } : State).setVm s₂.vm := by
      have : s₂ = ({ s₂ with vm := (U.calling g mk a).vm } : State).setVm s₂.vm := rfl
      rw [e2] at this
      exact this
    have hf₂ : s₂.frames = .throwing q :: .java g :: U.frames.tail := hend
    have hW' : U.WarmedH s₂.vm := hW₂
    have hs₂ : s₂ = ((({ U with heap := s₂.heap, slotsUsed := s₂.slotsUsed } : State).setVm s₂.vm).setTop g).pushFrame (.throwing q) := by
      refine e3.trans ?_
      rw [hf₂, State.calling_eq h.top, State.setFrames_setFrames, State.pushFrame, State.frames_setTop _ hr', State.setTop_of_frames _ hr', State.setFrames_setFrames, hr]
      rfl
    have hsame : U.sameButNew ({ U with heap := s₂.heap, slotsUsed := s₂.slotsUsed } : State) L mc ms := by
      refine ⟨?_, q2, q3, q4, q5, q6⟩
      obtain ⟨t, ht, -⟩ := State.frames_cons hr
      show ({ U with heap := s₂.heap, slotsUsed := s₂.slotsUsed } : State) = { U.setFrames U.frames with heap := s₂.heap, slotsUsed := s₂.slotsUsed }
      rw [State.setFrames_self ht]
    subst hg
    refine Or.inr ⟨q, ⟨(({ U with heap := s₂.heap, slotsUsed := s₂.slotsUsed } : State).setVm s₂.vm), Ls ++ L, c0 + mc, s0 + ms⟩,
      ⟨X.admits, X.cas, X.clock, X.frames, X.room, X.hears, X.method, X.code, (X.here.setHeapUsed s₂.heap s₂.slotsUsed).setVm hW'.alike, X.tail, State.WarmedH.trans X.warmed hW', X.limits, X.bytes, X.same.trans (hsame.setVm s.vm)⟩,
      ⟨g, mk, s₂, L, E, ce, rfl, rfl, hx, hce, hcv, hcl, rfl, hL, rfl, rfl⟩, ?_⟩
    show Steps p.tables e below _ (((({ U with heap := s₂.heap, slotsUsed := s₂.slotsUsed } : State).setVm s₂.vm).setTop g).pushFrame (.throwing q))
    rw [← hs₂]
    exact hsteps
end
variable {p : Program} {l : Launch} {e : Env} {R : Room} {s : State} {m : MethodId} {args : Array Value} {below : List Frame} {meth : Method} {c : Code} {T : State} {H : Heap} {locs : List Loc} {cells slots : Nat}
theorem vx_callVX (X : Stand p l e R s m args below meth c T locs cells slots) (hexec : p.tables.exec = Jvm.exec) {own C : String} {index : Nat} {y : MethodName} {bytes : ByteArray} {maxL : Nat} {ret : Option FieldType} {hh : List (Nat × Nat × Nat × Nat)}
    (hown : s.vm.findClass own = some m.cls) (hlink : (Cond.methodLink own index y).before args s = true) (hinst : (Cond.instanceMethod y).before args s = true) (hsel : (Cond.selects C y y).before args s = true)
    (hcode : (Cond.codeWith y bytes maxL ret hh).before args s = true) (hy : y.cls ≠ "java/lang/invoke/MethodHandle" ∧ y.cls ≠ "java/lang/invoke/VarHandle")
    {W9 : Nat} {Pre : Pt → Array Value → Prop} {Post : Pt → Array Value → Option Value → Pt → Prop} {PostX : Pt → Array Value → Addr → Pt → Prop} (hK : vx_Back l R p e below s args y 3 W9 Pre Post PostX)
    {b : Addr} {cellB : Cell} (hcell : T.heap[b]? = some cellB) (hobj : cellB.vm.isStatics = false) (hcls : s.vm.findClass C = some cellB.cls)
    {g : JFrame} (hg : g.method = m) (hsize : g.locals.size = c.maxLocals) {argsL rest : List Value} (hlen : ∀ sig, parseMethodDescriptor y.desc = some sig → argsL.length = sig.parameters.length)
    (hstack : g.stack = argsL.reverse ++ .ref b :: rest) (hW : 2 * g.monitorRoom + (rest.map fun v => v.category).sum ≤ W9) (hdg : decode c.code g.pc = .ok (.invokevirtual index, 3))
    (hpre : ∀ vm₁, s.WarmedH vm₁ → Pre ⟨T.setVm vm₁, locs, cells, slots⟩ (Value.ref b :: argsL).toArray) :
    (∃ (v : Option Value) (vm₁ : Vm) (B : Pt), s.WarmedH vm₁ ∧ Stand p l e R s m args below meth c B.U B.locs B.cells B.slots ∧ Post ⟨T.setVm vm₁, locs, cells, slots⟩ (Value.ref b :: argsL).toArray v B ∧
      ∀ target, Steps p.tables e below (B.U.setTop { g with pc := g.pc + 3, stack := v.toList ++ rest }) target → Steps p.tables e below (T.setTop g) target) ∨
    (∃ (q : Addr) (vm₁ : Vm) (B : Pt), s.WarmedH vm₁ ∧ Stand p l e R s m args below meth c B.U B.locs B.cells B.slots ∧ PostX ⟨T.setVm vm₁, locs, cells, slots⟩ (Value.ref b :: argsL).toArray q B ∧
      Steps p.tables e below (T.setTop g) ((B.U.setTop { g with stack := rest }).pushFrame (.throwing q))) := by
  obtain ⟨mk, methM, hnamed, hmethM, hstM, habM⟩ := Cond.instanceMethod_spec hinst
  obtain ⟨m8, methM', cM, hn8, hmethM', -, -, -, -, -, -, hsigM⟩ := Cond.codeWith_spec hcode
  cases Option.some.inj (hn8.symm.trans hnamed)
  cases hmethM.symm.trans hmethM'
  obtain ⟨c2, r2, m2, q1, q2, q3, q4, kP, hkP, hkPi⟩ := Cond.selects_spec hsel
  cases hcls.symm.trans q1
  cases (State.methodFound?_of_named hnamed hy).symm.trans q2
  cases hnamed.symm.trans q3
  have hselP : selectMethod e.platform s.vm cellB.cls mk = .method mk := by rw [Launch.admits_selectMethod X.admits]; exact q4
  obtain ⟨vm₁, X₁, hstep₁⟩ := X.invokevirtual hexec hown hlink hnamed hmethM hstM hkP hkPi hy (a := b) (cell := cellB) hcell
    (fun z h => by rw [h] at hobj; cases hobj) hselP hmethM habM hkP hkPi (g := g) hg (argsL := argsL) (rest := rest) (hlen _ hsigM) hstack hdg
  rcases hK m meth c ⟨T.setVm vm₁, locs, cells, slots⟩ { g with stack := rest } (.invokevirtual index) mk (Value.ref b :: argsL).toArray X₁ hg hsize hdg hW (X₁.named hnamed) (hpre vm₁ X₁.warmed) with ⟨v, B, X', hpost, hsteps⟩ | ⟨q, B, X', hpost, hsteps⟩
  · exact Or.inl ⟨v, vm₁, B, X₁.warmed, X', hpost, fun target h => hstep₁ _ fun acts => by rw [doInvoke_state]; exact hsteps.trans h⟩
  · exact Or.inr ⟨q, vm₁, B, X₁.warmed, X', hpost, hstep₁ _ fun acts => by rw [doInvoke_state]; exact hsteps⟩
theorem vx_callSX (X : Stand p l e R s m args below meth c T locs cells slots) (hexec : p.tables.exec = Jvm.exec) {own : String} {index : Nat} {y : MethodName} {bytes : ByteArray} {maxL : Nat} {ret : Option FieldType} {hh : List (Nat × Nat × Nat × Nat)}
    (hown : s.vm.findClass own = some m.cls) (hlink : (Cond.methodLink own index y).before args s = true) (hstat : (Cond.static y).before args s = true) (hinit : (Cond.initialized y.cls).before args s = true)
    (hcode : (Cond.codeWith y bytes maxL ret hh).before args s = true) (hy : y.cls ≠ "java/lang/invoke/MethodHandle" ∧ y.cls ≠ "java/lang/invoke/VarHandle")
    {W9 : Nat} {Pre : Pt → Array Value → Prop} {Post : Pt → Array Value → Option Value → Pt → Prop} {PostX : Pt → Array Value → Addr → Pt → Prop} (hK : vx_Back l R p e below s args y 3 W9 Pre Post PostX)
    {g : JFrame} (hg : g.method = m) (hsize : g.locals.size = c.maxLocals) {argsL rest : List Value} (hlen : ∀ sig, parseMethodDescriptor y.desc = some sig → argsL.length = sig.parameters.length)
    (hstack : g.stack = argsL.reverse ++ rest) (hW : 2 * g.monitorRoom + (rest.map fun v => v.category).sum ≤ W9) (hdg : decode c.code g.pc = .ok (.invokestatic index, 3))
    (hpre : ∀ vm₁, s.WarmedH vm₁ → Pre ⟨T.setVm vm₁, locs, cells, slots⟩ argsL.toArray) :
    (∃ (v : Option Value) (vm₁ : Vm) (B : Pt), s.WarmedH vm₁ ∧ Stand p l e R s m args below meth c B.U B.locs B.cells B.slots ∧ Post ⟨T.setVm vm₁, locs, cells, slots⟩ argsL.toArray v B ∧
      ∀ target, Steps p.tables e below (B.U.setTop { g with pc := g.pc + 3, stack := v.toList ++ rest }) target → Steps p.tables e below (T.setTop g) target) ∨
    (∃ (q : Addr) (vm₁ : Vm) (B : Pt), s.WarmedH vm₁ ∧ Stand p l e R s m args below meth c B.U B.locs B.cells B.slots ∧ PostX ⟨T.setVm vm₁, locs, cells, slots⟩ argsL.toArray q B ∧
      Steps p.tables e below (T.setTop g) ((B.U.setTop { g with stack := rest }).pushFrame (.throwing q))) := by
  obtain ⟨mk, methM, cM, hnamed, hmethM, -, -, -, -, -, -, hsigM⟩ := Cond.codeWith_spec hcode
  have hstatic : methM.isStatic = true := Cond.static_spec hnamed hmethM hstat
  obtain ⟨kP, hkP, -⟩ := className_of_methodNamed hnamed
  have hinitP : kP.init = .initialized := Cond.initialized_spec (findClass_of_methodNamed hnamed) hkP hinit
  obtain ⟨vm₁, X₁, hstep₁⟩ := X.invokestatic hexec hown hlink hnamed hmethM hstatic hkP hinitP hy (g := g) hg (argsL := argsL) (rest := rest) (hlen _ hsigM) hstack hdg
  rcases hK m meth c ⟨T.setVm vm₁, locs, cells, slots⟩ { g with stack := rest } (.invokestatic index) mk argsL.toArray X₁ hg hsize hdg hW (X₁.named hnamed) (hpre vm₁ X₁.warmed) with ⟨v, B, X', hpost, hsteps⟩ | ⟨q, B, X', hpost, hsteps⟩
  · exact Or.inl ⟨v, vm₁, B, X₁.warmed, X', hpost, fun target h => hstep₁ _ fun acts => by rw [doInvoke_state]; exact hsteps.trans h⟩
  · exact Or.inr ⟨q, vm₁, B, X₁.warmed, X', hpost, hstep₁ _ fun acts => by rw [doInvoke_state]; exact hsteps⟩
theorem vx_callVW (X : Stand p l e R s m args below meth c T locs cells slots) (hexec : p.tables.exec = Jvm.exec) {own C : String} {index : Nat} {y : MethodName} {bytes : ByteArray} {maxL : Nat} {ret : Option FieldType} {hh : List (Nat × Nat × Nat × Nat)}
    (hown : s.vm.findClass own = some m.cls) (hlink : (Cond.methodLink own index y).before args s = true) (hinst : (Cond.instanceMethod y).before args s = true) (hsel : (Cond.selects C y y).before args s = true)
    (hcode : (Cond.codeWith y bytes maxL ret hh).before args s = true) (hy : y.cls ≠ "java/lang/invoke/MethodHandle" ∧ y.cls ≠ "java/lang/invoke/VarHandle")
    {W9 : Nat} {Pre : Pt → Array Value → Prop} {Post : Pt → Array Value → Option Value → Pt → Prop} (hK : Back l R p e below s args y 3 W9 Pre Post)
    {b : Addr} {cellB : Cell} (hcell : T.heap[b]? = some cellB) (hobj : cellB.vm.isStatics = false) (hcls : s.vm.findClass C = some cellB.cls)
    {g : JFrame} (hg : g.method = m) (hsize : g.locals.size = c.maxLocals) {argsL rest : List Value} (hlen : ∀ sig, parseMethodDescriptor y.desc = some sig → argsL.length = sig.parameters.length)
    (hstack : g.stack = argsL.reverse ++ .ref b :: rest) (hW : 2 * g.monitorRoom + (rest.map fun v => v.category).sum ≤ W9) (hdg : decode c.code g.pc = .ok (.invokevirtual index, 3))
    (hpre : ∀ vm₁, s.WarmedH vm₁ → Pre ⟨T.setVm vm₁, locs, cells, slots⟩ (Value.ref b :: argsL).toArray) :
    ∃ (v : Option Value) (vm₁ : Vm) (B : Pt), s.WarmedH vm₁ ∧ Stand p l e R s m args below meth c B.U B.locs B.cells B.slots ∧ Post ⟨T.setVm vm₁, locs, cells, slots⟩ (Value.ref b :: argsL).toArray v B ∧
      ∀ target, Steps p.tables e below (B.U.setTop { g with pc := g.pc + 3, stack := v.toList ++ rest }) target → Steps p.tables e below (T.setTop g) target := by
  obtain ⟨mk, methM, hnamed, hmethM, hstM, habM⟩ := Cond.instanceMethod_spec hinst
  obtain ⟨m8, methM', cM, hn8, hmethM', -, -, -, -, -, -, hsigM⟩ := Cond.codeWith_spec hcode
  cases Option.some.inj (hn8.symm.trans hnamed)
  cases hmethM.symm.trans hmethM'
  obtain ⟨c2, r2, m2, q1, q2, q3, q4, kP, hkP, hkPi⟩ := Cond.selects_spec hsel
  cases hcls.symm.trans q1
  cases (State.methodFound?_of_named hnamed hy).symm.trans q2
  cases hnamed.symm.trans q3
  have hselP : selectMethod e.platform s.vm cellB.cls mk = .method mk := by rw [Launch.admits_selectMethod X.admits]; exact q4
  obtain ⟨vm₁, X₁, hstep₁⟩ := X.invokevirtual hexec hown hlink hnamed hmethM hstM hkP hkPi hy (a := b) (cell := cellB) hcell
    (fun z h => by rw [h] at hobj; cases hobj) hselP hmethM habM hkP hkPi (g := g) hg (argsL := argsL) (rest := rest) (hlen _ hsigM) hstack hdg
  obtain ⟨v, B, X', hpost, hsteps⟩ := hK m meth c ⟨T.setVm vm₁, locs, cells, slots⟩ { g with stack := rest } (.invokevirtual index) mk (Value.ref b :: argsL).toArray X₁ hg hsize hdg hW (X₁.named hnamed) (hpre vm₁ X₁.warmed)
  exact ⟨v, vm₁, B, X₁.warmed, X', hpost, fun target h => hstep₁ _ fun acts => by rw [doInvoke_state]; exact hsteps.trans h⟩
abbrev vx_CVW (R : Room) (s : State) (args : Array Value) (own C : String) (index : Nat) (y : MethodName) (bytes : ByteArray) (maxL : Nat) (ret : Option FieldType) (hh : List (Nat × Nat × Nat × Nat)) (ws : List Cond) (rm : Room) (mc ms n : Nat) : Prop :=
  (rm.cells = mc ∧ rm.slots = ms ∧ rm.frames + 1 ≤ R.frames ∧ 8 + (maxL + 11) + rm.locals ≤ R.locals ∧ (∀ w ∈ ws, ∀ (a' : Array Value) (U : State), s.WarmedH U.vm → w.before a' U = true) ∧ Cond.codeWith y bytes maxL ret hh ∈ ws) ∧
  (Cond.codeWith y bytes maxL ret hh).before args s = true ∧ (Cond.initialized y.cls).before args s = true ∧ (y.cls ≠ "java/lang/invoke/MethodHandle" ∧ y.cls ≠ "java/lang/invoke/VarHandle") ∧
  (∀ sig, parseMethodDescriptor y.desc = some sig → n = sig.parameters.length) ∧ (Cond.methodLink own index y).before args s = true ∧ (Cond.instanceMethod y).before args s = true ∧ (Cond.selects C y y).before args s = true
theorem vx_cwVW {own C : String} {index maxL mc ms : Nat} {y : MethodName} {bytes : ByteArray} {ret : Option FieldType} {hh : List (Nat × Nat × Nat × Nat)} {Ts ws ws' : List Cond} {rm : Room} (n : Nat) (ht : ∀ w ∈ Ts, w.before args s = true) (hT : GoodIn Ts (wsV own index C y ws)) (hw : ws = Cond.codeWith y bytes maxL ret hh :: ws') (hrc : rm.cells = mc) (hrs : rm.slots = ms)
    (hd : y.cls = C ∧ y.cls ≠ "java/lang/invoke/MethodHandle" ∧ y.cls ≠ "java/lang/invoke/VarHandle" ∧ (parseMethodDescriptor y.desc).map (fun d => d.parameters.length) = some n) (hR : rm.frames + 1 ≤ R.frames ∧ 8 + (maxL + 11) + rm.locals ≤ R.locals) :
    vx_CVW R s args own C index y bytes maxL ret hh ws rm mc ms n := by
  obtain ⟨hC, hd⟩ := hd
  subst hC
  have ok : ∀ w ∈ wsV own index y.cls y ws, w.before args s = true := fun w h => ht w (hT w h).1
  have hG : GoodIn Ts ws := fun w h => hT w (by unfold wsV; exact List.mem_append_right _ h)
  have hc : Cond.codeWith y bytes maxL ret hh ∈ ws := by rw [hw]; exact List.mem_cons_self
  refine ⟨⟨hrc, hrs, hR.1, hR.2, pay_in ht hG, hc⟩, ht _ (hG _ hc).1, ok _ (by simp [wsV]), ⟨hd.1, hd.2.1⟩, fun sig h => ?_, ok _ (by simp [wsV]), ok _ (by simp [wsV]), ok _ (by simp [wsV])⟩
  have h2 := hd.2.2
  rw [h] at h2
  exact (Option.some.inj h2).symm
theorem vx_runVW {y : MethodName} {bytes cc : ByteArray} {maxL nL mc ms n index : Nat} {ret : Option FieldType} {hh : List (Nat × Nat × Nat × Nat)} {ws : List Cond} {rm : Room} {Pc : Array Value → State → Prop} {Qc : Array Value → State → Outcome → State → Prop} {free : Addr → Prop} {Ts : List Cond} {own C : String} {b : Addr} {As rest : List Value} {g : JFrame}
    (S : CallFix p m c cc nL s args Ts own) (hM : Met l y ws rm Pc Qc mc ms free) (cw : vx_CVW R s args own C index y bytes maxL ret hh ws rm mc ms n) (hp : PreV s H C b Pc As)
    (hg : g.method = m) (hn : As.length = n) (hsize : g.locals.size = nL) (hstack : g.stack = As.reverse ++ .ref b :: rest) (hW : 2 * g.monitorRoom + (rest.map fun v => v.category).sum ≤ 8) (hdg : decode cc g.pc = .ok (.invokevirtual index, 3)) (hf : cells + mc ≤ R.cells ∧ slots + ms ≤ R.slots) :
    va_Run p l e R s m args below meth c H locs cells slots mc ms g rest (Qc (Value.ref b :: As).toArray) free := by
  obtain ⟨⟨hrc, hrs, hfr, hlo, hws, hcw⟩, hcode, hini, hy, hlen, hl, hin, hse⟩ := cw
  have hK : Back l R p e below s args y 3 8 (PreOf R mc ms Pc) (PostOf Qc mc ms free) := va_backW (hh := hh) (bytes := bytes) (maxL := maxL) (ret := ret) hM hp.1 hrc hrs hfr hlo hws hcw (fun a' U hW => word_at hW (Or.inl (by first | rfl | simp [Cond.onTables, Cond.keeps, Cond.steady])) hini)
  obtain ⟨hx, hb, hml, ho, -⟩ := S
  obtain ⟨-, ⟨cellB, hcB, hoB, hclB⟩, hPc⟩ := hp
  intro T hT X
  obtain ⟨v, vm₁, ⟨U', l2, c2, s2⟩, hW₁, X', ⟨g', mk, t, L, e1, e2, hq, h1, hL, h2, h3⟩, st⟩ := vx_callVW X hx (C := C) (hh := hh) (bytes := bytes) (maxL := maxL) (ret := ret) ho hl hin hse hcode hy hK (by rw [hT]; exact hcB) hoB hclB hg (hsize.trans hml.symm) (argsL := As) (rest := rest) (fun sig h => hn.trans (hlen sig h)) hstack hW (by rw [hb]; exact hdg)
    (fun vm₁ hW₁ => ⟨hf.1, hf.2, hPc (T.setVm vm₁) hT hW₁⟩)
  dsimp only [Pt.U, Pt.locs, Pt.cells, Pt.slots] at X' e1 e2 h1 h2 h3 st
  subst h1; subst h2; subst h3
  exact ⟨v, (T.setVm vm₁).calling g' mk (Value.ref b :: As).toArray, t, U', L, hT, X', hL, e1, e2, hq, st⟩
section
variable {y : MethodName} {bytes cc : ByteArray} {maxL nL mc ms n index : Nat} {ret : Option FieldType} {ws : List Cond} {rm : Room} {Pc : Array Value → State → Prop} {Qc : Array Value → State → Outcome → State → Prop} {XC : String → State → State → Prop} {free : Addr → Prop} {Ts : List Cond} {own C : String} {b : Addr} {As rest : List Value} {g : JFrame}
theorem vx_runVX {hh : List (Nat × Nat × Nat × Nat)} (S : CallFix p m c cc nL s args Ts own) (hM : vx_Met l y ws rm Pc Qc XC mc ms free) (cw : vx_CVW R s args own C index y bytes maxL ret hh ws rm mc ms n) (hp : PreV s H C b Pc As)
    (hg : g.method = m) (hn : As.length = n) (hsize : g.locals.size = nL) (hstack : g.stack = As.reverse ++ .ref b :: rest) (hW : 2 * g.monitorRoom + (rest.map fun v => v.category).sum ≤ 8) (hdg : decode cc g.pc = .ok (.invokevirtual index, 3)) (hf : cells + mc ≤ R.cells ∧ slots + ms ≤ R.slots) :
    vx_Run p l e R s m args below meth c H locs cells slots mc ms g rest (Qc (Value.ref b :: As).toArray) XC free := by
  obtain ⟨⟨hrc, hrs, hfr, hlo, hws, hcw⟩, hcode, hini, hy, hlen, hl, hin, hse⟩ := cw
  have hK : vx_Back l R p e below s args y 3 8 (PreOf R mc ms Pc) (PostOf Qc mc ms free) (vx_Post XC mc ms free) := vx_backW (hh := hh) (bytes := bytes) (maxL := maxL) (ret := ret) hM hp.1 hrc hrs hfr hlo hws hcw (fun a' U hW => word_at hW (Or.inl (by first | rfl | simp [Cond.onTables, Cond.keeps, Cond.steady])) hini)
  obtain ⟨hx, hb, hml, ho, -⟩ := S
  obtain ⟨-, ⟨cellB, hcB, hoB, hclB⟩, hPc⟩ := hp
  intro T hT X
  rcases vx_callVX X hx (C := C) (hh := hh) (bytes := bytes) (maxL := maxL) (ret := ret) ho hl hin hse hcode hy hK (by rw [hT]; exact hcB) hoB hclB hg (hsize.trans hml.symm) (argsL := As) (rest := rest) (fun sig h => hn.trans (hlen sig h)) hstack hW (by rw [hb]; exact hdg)
    (fun vm₁ hW₁ => ⟨hf.1, hf.2, hPc (T.setVm vm₁) hT hW₁⟩) with ⟨v, vm₁, ⟨U', l2, c2, s2⟩, hW₁, X', ⟨g', mk, t, L, e1, e2, hq, h1, hL, h2, h3⟩, st⟩ | ⟨q, vm₁, ⟨U', l2, c2, s2⟩, hW₁, X', ⟨g', mk, t, L, E, ce, e1, e2, hq, hce, hcv, hcl, h1, hL, h2, h3⟩, st⟩
  · dsimp only [Pt.U, Pt.locs, Pt.cells, Pt.slots] at X' e1 e2 h1 h2 h3 st
    subst h1; subst h2; subst h3
    exact Or.inl ⟨v, (T.setVm vm₁).calling g' mk (Value.ref b :: As).toArray, t, U', L, hT, X', hL, e1, e2, hq, st⟩
  · dsimp only [Pt.U, Pt.locs, Pt.cells, Pt.slots] at X' e1 e2 h1 h2 h3 st hcl
    subst h1; subst h2; subst h3
    exact Or.inr ⟨q, (T.setVm vm₁).calling g' mk (Value.ref b :: As).toArray, t, U', L, E, ce, hT, X', hL, e1, e2, hq, hce, hcv, vx_cls hW₁ hcl, st⟩
theorem vx_runSX {hh : List (Nat × Nat × Nat × Nat)} (S : CallFix p m c cc nL s args Ts own) (hM : vx_Met l y ws rm Pc Qc XC mc ms free) (cw : vx_CSW R s args own index y bytes maxL ret hh ws rm mc ms n) (hp : PreS s H Pc As)
    (hg : g.method = m) (hn : As.length = n) (hsize : g.locals.size = nL) (hstack : g.stack = As.reverse ++ rest) (hW : 2 * g.monitorRoom + (rest.map fun v => v.category).sum ≤ 8) (hdg : decode cc g.pc = .ok (.invokestatic index, 3)) (hf : cells + mc ≤ R.cells ∧ slots + ms ≤ R.slots) :
    vx_Run p l e R s m args below meth c H locs cells slots mc ms g rest (Qc As.toArray) XC free := by
  obtain ⟨⟨hrc, hrs, hfr, hlo, hws, hcw⟩, hcode, hini, hy, hlen, hl, hstt⟩ := cw
  have hK : vx_Back l R p e below s args y 3 8 (PreOf R mc ms Pc) (PostOf Qc mc ms free) (vx_Post XC mc ms free) := vx_backW (hh := hh) (bytes := bytes) (maxL := maxL) (ret := ret) hM hp.1 hrc hrs hfr hlo hws hcw (fun a' U hW => word_at hW (Or.inl (by first | rfl | simp [Cond.onTables, Cond.keeps, Cond.steady])) hini)
  obtain ⟨hx, hb, hml, ho, -⟩ := S
  intro T hT X
  rcases vx_callSX X hx (hh := hh) (bytes := bytes) (maxL := maxL) (ret := ret) ho hl hstt hini hcode hy hK hg (hsize.trans hml.symm) (argsL := As) (rest := rest) (fun sig h => hn.trans (hlen sig h)) hstack hW (by rw [hb]; exact hdg)
    (fun vm₁ hW₁ => ⟨hf.1, hf.2, hp.2 (T.setVm vm₁) hT hW₁⟩) with ⟨v, vm₁, ⟨U', l2, c2, s2⟩, hW₁, X', ⟨g', mk, t, L, e1, e2, hq, h1, hL, h2, h3⟩, st⟩ | ⟨q, vm₁, ⟨U', l2, c2, s2⟩, hW₁, X', ⟨g', mk, t, L, E, ce, e1, e2, hq, hce, hcv, hcl, h1, hL, h2, h3⟩, st⟩
  · dsimp only [Pt.U, Pt.locs, Pt.cells, Pt.slots] at X' e1 e2 h1 h2 h3 st
    subst h1; subst h2; subst h3
    exact Or.inl ⟨v, (T.setVm vm₁).calling g' mk As.toArray, t, U', L, hT, X', hL, e1, e2, hq, st⟩
  · dsimp only [Pt.U, Pt.locs, Pt.cells, Pt.slots] at X' e1 e2 h1 h2 h3 st hcl
    subst h1; subst h2; subst h3
    exact Or.inr ⟨q, (T.setVm vm₁).calling g' mk As.toArray, t, U', L, E, ce, hT, X', hL, e1, e2, hq, hce, hcv, vx_cls hW₁ hcl, st⟩
end
end VXH
theorem vx_ofWH {l : Launch} {y : MethodName} {ws ws' : List Cond} {rm : Room} {Pc : Array Value → State → Prop} {Qc : Array Value → State → Outcome → State → Prop} {XC : String → State → State → Prop} {mc ms : Nat} {free : Addr → Prop} {cc : ByteArray} {maxL : Nat} {ret : Option FieldType} {hh : List (Nat × Nat × Nat × Nat)}
    (hy : plainName y.cls = true) (hw : ws = Cond.codeWith y cc maxL ret hh :: ws')
    (body : ∀ p e s m args below meth c s₁, BodyLoose p l y (headSpec ws rm) cc maxL ret e s m args below meth c s₁ → c.maxLocals = maxL → Pc args s →
      W p l e (headSpec ws rm).room s m args below meth c s.heap [] 0 0 (vx_MQ below Qc XC args s mc ms free) (entryFrame m args maxL)) : vx_Met l y ws rm Pc Qc XC mc ms free := by
  refine MetFree.of_bodyS (code := cc) (maxLocals := maxL) (ret := ret) hy ?_ ?_
  · intro args s m h hn
    obtain ⟨m9, meth, c, hn9, h1, h2, h3, h4, -, h5, h6, -⟩ := Cond.codeWith_spec (atoms_spec (ws := ws) h _ (by rw [hw]; exact List.mem_cons_self))
    cases hn.symm.trans hn9
    exact ⟨meth, c, h1, h2, h3, h4, h5, h6⟩
  · intro p e s m args below meth c s₁ B hml hP _
    have hh0 : s₁.heap = s.heap := by rw [B.state]; rfl
    obtain ⟨t, a1, o, b1, b2, b3⟩ := body p e s m args below meth c s₁ B hml hP s₁ hh0 (Stand.of_body B)
    exact ⟨t, o, a1, b1, b2, b3⟩
/-! ===== END ===== -/
end
section
/-! ===== the claim's classes and what the Statement gives of them ===== -/
def R_Co : String := "BufferedCores$Core"
def T_Co : u_T := fun k => match k with
  | 0 => ("BufferedCores$Core", "number", "I", true)
  | 1 => ("BufferedCores$Core", "registers", "[I", true)
  | 2 => ("BufferedCores$Core", "program", "LBufferedCores$Program;", true)
  | 3 => ("BufferedCores$Core", "buffer", "LBufferedCores$StoreBuffer;", true)
  | 4 => ("BufferedCores$Core", "lines", "[LBufferedCores$Line;", true)
  | 5 => ("BufferedCores$Core", "wish", "LBufferedCores$Request;", true)
  | _ => ("BufferedCores$Core", "at", "I", false)
def ty_Co : Nat → FieldType := fun k => match k with
  | 0 => .int
  | 1 => .array .int
  | 2 => .object "BufferedCores$Program"
  | 3 => .object "BufferedCores$StoreBuffer"
  | 4 => .array (.object "BufferedCores$Line")
  | 5 => .object "BufferedCores$Request"
  | _ => .int
theorem nm_Co : ∀ a, a < 7 → ∀ b, b < 7 → a ≠ b → (T_Co a).2.1 ≠ (T_Co b).2.1 := by decide +kernel
theorem tyok_Co : ∀ k, k < 7 → parseFieldDescriptor (T_Co k).2.2.1 = some (ty_Co k) := by decide +kernel
def R_Li : String := "BufferedCores$Line"
def T_Li : u_T := fun k => match k with
  | 0 => ("BufferedCores$Line", "state", "I", false)
  | 1 => ("BufferedCores$Line", "address", "I", false)
  | _ => ("BufferedCores$Line", "value", "I", false)
def ty_Li : Nat → FieldType := fun k => match k with
  | 0 => .int
  | 1 => .int
  | _ => .int
theorem nm_Li : ∀ a, a < 3 → ∀ b, b < 3 → a ≠ b → (T_Li a).2.1 ≠ (T_Li b).2.1 := by decide +kernel
theorem tyok_Li : ∀ k, k < 3 → parseFieldDescriptor (T_Li k).2.2.1 = some (ty_Li k) := by decide +kernel
def R_Lo : String := "BufferedCores$Log"
def T_Lo : u_T := fun k => match k with
  | 0 => ("BufferedCores$Log", "heads", "[I", true)
  | 1 => ("BufferedCores$Log", "values", "[I", true)
  | _ => ("BufferedCores$Log", "count", "I", false)
def ty_Lo : Nat → FieldType := fun k => match k with
  | 0 => .array .int
  | 1 => .array .int
  | _ => .int
theorem nm_Lo : ∀ a, a < 3 → ∀ b, b < 3 → a ≠ b → (T_Lo a).2.1 ≠ (T_Lo b).2.1 := by decide +kernel
theorem tyok_Lo : ∀ k, k < 3 → parseFieldDescriptor (T_Lo k).2.2.1 = some (ty_Lo k) := by decide +kernel
def R_Pr : String := "BufferedCores$Program"
def T_Pr : u_T := fun k => match k with
  | 0 => ("BufferedCores$Program", "ops", "[I", true)
  | 1 => ("BufferedCores$Program", "as", "[I", true)
  | 2 => ("BufferedCores$Program", "bs", "[I", true)
  | _ => ("BufferedCores$Program", "length", "I", false)
def ty_Pr : Nat → FieldType := fun k => match k with
  | 0 => .array .int
  | 1 => .array .int
  | 2 => .array .int
  | _ => .int
theorem nm_Pr : ∀ a, a < 4 → ∀ b, b < 4 → a ≠ b → (T_Pr a).2.1 ≠ (T_Pr b).2.1 := by decide +kernel
theorem tyok_Pr : ∀ k, k < 4 → parseFieldDescriptor (T_Pr k).2.2.1 = some (ty_Pr k) := by decide +kernel
def R_Rq : String := "BufferedCores$Request"
def T_Rq : u_T := fun k => match k with
  | 0 => ("BufferedCores$Request", "kind", "I", false)
  | 1 => ("BufferedCores$Request", "address", "I", false)
  | 2 => ("BufferedCores$Request", "inFlight", "Z", false)
  | _ => ("BufferedCores$Request", "value", "I", false)
def ty_Rq : Nat → FieldType := fun k => match k with
  | 0 => .int
  | 1 => .int
  | 2 => .boolean
  | _ => .int
theorem nm_Rq : ∀ a, a < 4 → ∀ b, b < 4 → a ≠ b → (T_Rq a).2.1 ≠ (T_Rq b).2.1 := by decide +kernel
theorem tyok_Rq : ∀ k, k < 4 → parseFieldDescriptor (T_Rq k).2.2.1 = some (ty_Rq k) := by decide +kernel
def R_Sb : String := "BufferedCores$StoreBuffer"
def T_Sb : u_T := fun k => match k with
  | 0 => ("BufferedCores$StoreBuffer", "addresses", "[I", true)
  | 1 => ("BufferedCores$StoreBuffer", "values", "[I", true)
  | _ => ("BufferedCores$StoreBuffer", "size", "I", false)
def ty_Sb : Nat → FieldType := fun k => match k with
  | 0 => .array .int
  | 1 => .array .int
  | _ => .int
theorem nm_Sb : ∀ a, a < 3 → ∀ b, b < 3 → a ≠ b → (T_Sb a).2.1 ≠ (T_Sb b).2.1 := by decide +kernel
theorem tyok_Sb : ∀ k, k < 3 → parseFieldDescriptor (T_Sb k).2.2.1 = some (ty_Sb k) := by decide +kernel
def R_B : String := "BufferedCores"
def T_B : u_T := fun k => match k with
  | 0 => ("BufferedCores", "words", "[I", true)
  | 1 => ("BufferedCores", "cores", "[LBufferedCores$Core;", true)
  | _ => ("BufferedCores", "log", "LBufferedCores$Log;", true)
def ty_B : Nat → FieldType := fun k => match k with
  | 0 => .array .int
  | 1 => .array (.object "BufferedCores$Core")
  | _ => .object "BufferedCores$Log"
theorem nm_B : ∀ a, a < 3 → ∀ b, b < 3 → a ≠ b → (T_B a).2.1 ≠ (T_B b).2.1 := by decide +kernel
theorem tyok_B : ∀ k, k < 3 → parseFieldDescriptor (T_B k).2.2.1 = some (ty_B k) := by decide +kernel
def R_M : String := "BufferedCoresModel"
def T_M : u_T := fun k => match k with
  | 0 => ("BufferedCoresModel", "thrown", "I", false)
  | 1 => ("BufferedCoresModel", "most", "I", true)
  | 2 => ("BufferedCoresModel", "memory", "[I", true)
  | 3 => ("BufferedCoresModel", "registers", "[I", true)
  | 4 => ("BufferedCoresModel", "length", "[I", true)
  | 5 => ("BufferedCoresModel", "ops", "[I", true)
  | 6 => ("BufferedCoresModel", "as", "[I", true)
  | 7 => ("BufferedCoresModel", "bs", "[I", true)
  | 8 => ("BufferedCoresModel", "places", "[I", true)
  | 9 => ("BufferedCoresModel", "stores", "[I", true)
  | 10 => ("BufferedCoresModel", "storeX", "[I", true)
  | 11 => ("BufferedCoresModel", "storeV", "[I", true)
  | 12 => ("BufferedCoresModel", "states", "[I", true)
  | 13 => ("BufferedCoresModel", "tags", "[I", true)
  | 14 => ("BufferedCoresModel", "values", "[I", true)
  | 15 => ("BufferedCoresModel", "wants", "[I", true)
  | 16 => ("BufferedCoresModel", "wantX", "[I", true)
  | 17 => ("BufferedCoresModel", "flies", "[Z", true)
  | 18 => ("BufferedCoresModel", "wantV", "[I", true)
  | 19 => ("BufferedCoresModel", "events", "I", false)
  | 20 => ("BufferedCoresModel", "what", "[I", true)
  | _ => ("BufferedCoresModel", "whatV", "[I", true)
def ty_M : Nat → FieldType := fun k => match k with
  | 0 => .int
  | 1 => .int
  | 2 => .array .int
  | 3 => .array .int
  | 4 => .array .int
  | 5 => .array .int
  | 6 => .array .int
  | 7 => .array .int
  | 8 => .array .int
  | 9 => .array .int
  | 10 => .array .int
  | 11 => .array .int
  | 12 => .array .int
  | 13 => .array .int
  | 14 => .array .int
  | 15 => .array .int
  | 16 => .array .int
  | 17 => .array .boolean
  | 18 => .array .int
  | 19 => .int
  | 20 => .array .int
  | _ => .array .int
theorem nm_M : ∀ a, a < 22 → ∀ b, b < 22 → a ≠ b → (T_M a).2.1 ≠ (T_M b).2.1 := by decide +kernel
theorem tyok_M : ∀ k, k < 22 → parseFieldDescriptor (T_M k).2.2.1 = some (ty_M k) := by decide +kernel
def zCl : List vw_C := [(R_Co, T_Co, 7), (R_Li, T_Li, 3), (R_Lo, T_Lo, 3), (R_Pr, T_Pr, 4), (R_Rq, T_Rq, 4), (R_Sb, T_Sb, 3), (R_B, T_B, 3), (R_M, T_M, 22)]
def zStr : List (String × Nat × String) := [("BufferedCores", 229, "no such core"), ("BufferedCores", 52, "no such instruction"), ("BufferedCores", 65, "the program is full"), ("BufferedCores", 232, "no such address"), ("BufferedCores", 80, "a core has the word, or it is in flight"), ("BufferedCores", 189, "no such register"), ("BufferedCores", 234, "no such store"), ("BufferedCores", 198, "no such line"), ("BufferedCores", 213, "the core has not the word"), ("BufferedCores", 239, "no such event")]
def zCs : List (String × String) := [("java/lang/IndexOutOfBoundsException", "java/lang/IndexOutOfBoundsException"), ("java/lang/IllegalArgumentException", "java/lang/IllegalArgumentException"), ("java/lang/IllegalStateException", "java/lang/IllegalStateException"), ("java/util/NoSuchElementException", "java/util/NoSuchElementException")]
def zDs : List MethodName := [⟨"java/lang/RuntimeException", "<init>", "(Ljava/lang/String;)V"⟩, ⟨"java/lang/Exception", "<init>", "(Ljava/lang/String;)V"⟩, ⟨"java/lang/Throwable", "<init>", "(Ljava/lang/String;)V"⟩]
def zNc : List (String × String) := [("java/lang/IndexOutOfBoundsException", "java/lang/IllegalArgumentException"), ("java/lang/IndexOutOfBoundsException", "java/lang/IllegalStateException"), ("java/lang/IndexOutOfBoundsException", "java/util/NoSuchElementException"), ("java/lang/IllegalArgumentException", "java/lang/IndexOutOfBoundsException"), ("java/lang/IllegalArgumentException", "java/lang/IllegalStateException"), ("java/lang/IllegalArgumentException", "java/util/NoSuchElementException"), ("java/lang/IllegalStateException", "java/lang/IndexOutOfBoundsException"), ("java/lang/IllegalStateException", "java/lang/IllegalArgumentException"), ("java/lang/IllegalStateException", "java/util/NoSuchElementException"), ("java/util/NoSuchElementException", "java/lang/IndexOutOfBoundsException"), ("java/util/NoSuchElementException", "java/lang/IllegalArgumentException"), ("java/util/NoSuchElementException", "java/lang/IllegalStateException")]
def zAo : List String := ["BufferedCores$Core", "BufferedCores$Line"]
def zNl : List (String × Nat × MethodName × String) := [("BufferedCores$Core", 17, ⟨"BufferedCores$Program", "<init>", "()V"⟩, "BufferedCores"), ("BufferedCores$Core", 30, ⟨"BufferedCores$Request", "<init>", "()V"⟩, "BufferedCores"), ("BufferedCores$Core", 48, ⟨"BufferedCores$Line", "<init>", "()V"⟩, "BufferedCores"), ("BufferedCores", 33, ⟨"BufferedCores$Log", "<init>", "()V"⟩, "BufferedCores")]
/-! ===== the pure machine: states of places instead of addresses; Ev and Rn are read off the kit's W and vx_Met ===== -/
/-- the world's numbers: classes and slots, array classes, the first new address, the script's address, its length, its ints, the messages' addresses -/
abbrev zGP : Type := va_G × (Nat → ClassId) × Nat × Nat × Nat × (Nat → Int32) × (Nat → Nat)
/-- a method: name, code, locals, return type, words, room, handlers -/
abbrev zMI : Type := MethodName × ByteArray × Nat × Option FieldType × List Cond × Room × List (Nat × Nat × Nat × Nat)
abbrev zRes : Type := (Option Value ⊕ String) × List va_E
def zA (G : zGP) : Nat → Prop := fun q => G.2.2.1 ≤ q
def zTy (G : zGP) : List (ClassId × FieldType) := [(G.2.1 0, .int), (G.2.1 1, .long), (G.2.1 2, .boolean), (G.2.1 3, .object "BufferedCores$Core"), (G.2.1 4, .object "BufferedCores$Line")]
def zX (a b : List Nat) : Prop := ∀ (k x : Nat), a[k]? = some x → b[k]? = some x
theorem zX.rf {a : List Nat} : zX a a := fun _ _ h => h
theorem zX.tr {a b c : List Nat} (h : zX a b) (k : zX b c) : zX a c := fun i x q => k i x (h i x q)
/-- a value of places and a value of addresses; retAddr stands for the script, a double for nothing known -/
def zV (G : zGP) (env : List Nat) (v w : Value) : Prop := match v with
  | .ref i => ∃ a, env[i]? = some a ∧ w = .ref a
  | .retAddr _ => w = .ref G.2.2.2.1
  | .int x => w = .int x
  | .long x => w = .long x
  | .null => w = .null
  | _ => False
theorem zV.cat {G : zGP} {env : List Nat} {v w : Value} (h : zV G env v w) : w.category = v.category := by
  cases v with
  | ref i => obtain ⟨a, -, h⟩ := h; rw [h]; rfl
  | retAddr i => have h : w = .ref G.2.2.2.1 := h; rw [h]; rfl
  | int x => have h : w = .int x := h; rw [h]
  | long x => have h : w = .long x := h; rw [h]
  | null => have h : w = .null := h; rw [h]
  | float x => exact absurd h (fun q => q)
  | double x => exact absurd h (fun q => q)
theorem zV.mono {G : zGP} {a b : List Nat} {v w : Value} (hx : zX a b) (h : zV G a v w) : zV G b v w := by
  cases v with
  | ref i => obtain ⟨q, h1, h2⟩ := h; exact ⟨q, hx i q h1, h2⟩
  | retAddr i => exact h
  | int x => exact h
  | long x => exact h
  | null => exact h
  | float x => exact h
  | double x => exact h
def zO (G : zGP) (env : List Nat) (v w : Option Value) : Prop := match v with
  | none => w = none
  | some v => ∃ x, w = some x ∧ zV G env v x
def zS (G : zGP) (env : List Nat) : List Value → List Value → Prop
  | [], w => w = []
  | v :: vs, w => ∃ x xs, w = x :: xs ∧ zV G env v x ∧ zS G env vs xs
theorem zS.mono {G : zGP} {a b : List Nat} (hx : zX a b) : ∀ {s w : List Value}, zS G a s w → zS G b s w
  | [], _, h => h
  | _ :: _, _, ⟨x, xs, h1, h2, h3⟩ => ⟨x, xs, h1, h2.mono hx, zS.mono hx h3⟩
theorem zS.len {G : zGP} {a : List Nat} : ∀ {s w : List Value}, zS G a s w → w.length = s.length
  | [], _, h => by rw [show _ = [] from h]
  | _ :: _, _, ⟨x, xs, h1, _, h3⟩ => by rw [h1, List.length_cons, List.length_cons, zS.len h3]
theorem zS.cats {G : zGP} {a : List Nat} : ∀ {s w : List Value}, zS G a s w → w.map (fun v => v.category) = s.map (fun v => v.category)
  | [], _, h => by rw [show _ = [] from h]
  | _ :: _, _, ⟨x, xs, h1, h2, h3⟩ => by rw [h1, List.map_cons, List.map_cons, h2.cat, zS.cats h3]
theorem zS.split {G : zGP} {a : List Nat} : ∀ {s t w : List Value}, zS G a (s ++ t) w → ∃ w1 w2, w = w1 ++ w2 ∧ zS G a s w1 ∧ zS G a t w2
  | [], _, w, h => ⟨[], w, rfl, rfl, h⟩
  | _ :: _, _, _, ⟨x, xs, h1, h2, h3⟩ => by
    obtain ⟨w1, w2, q1, q2, q3⟩ := zS.split h3
    exact ⟨x :: w1, w2, by rw [h1, q1]; rfl, ⟨x, w1, rfl, h2, q2⟩, q3⟩
theorem zS.app {G : zGP} {a : List Nat} : ∀ {s t w1 w2 : List Value}, zS G a s w1 → zS G a t w2 → zS G a (s ++ t) (w1 ++ w2)
  | [], _, _, _, h, k => by rw [show _ = [] from h]; exact k
  | _ :: _, _, _, _, ⟨x, xs, h1, h2, h3⟩, k => ⟨x, _, by rw [h1]; rfl, h2, zS.app h3 k⟩
theorem zS.rev {G : zGP} {a : List Nat} : ∀ {s w : List Value}, zS G a s w → zS G a s.reverse w.reverse
  | [], _, h => by rw [show _ = [] from h]; rfl
  | _ :: _, _, ⟨x, xs, h1, h2, h3⟩ => by
    rw [h1, List.reverse_cons, List.reverse_cons]
    exact zS.app (zS.rev h3) ⟨x, [], rfl, h2, rfl⟩
/-- the locals: by their places; what is of category 2 is not claimed -/
def zL (G : zGP) (env : List Nat) (n : Nat) (ls : Array Slot) (lc : List Value) : Prop := ls.size = n ∧ lv_wf ls ∧ ∀ (i : Nat) (v : Value), lc[i]? = some v → v.category = 1 → ∃ w, ls[i]? = some (.val w) ∧ zV G env v w
theorem zL.mono {G : zGP} {a b : List Nat} {n : Nat} {ls : Array Slot} {lc : List Value} (hx : zX a b) (h : zL G a n ls lc) : zL G b n ls lc := by
  refine ⟨h.1, h.2.1, fun i v h1 h2 => ?_⟩
  obtain ⟨w, q1, q2⟩ := h.2.2 i v h1 h2
  exact ⟨w, q1, q2.mono hx⟩
def zP (ls : Array Slot) (n : Nat) : List (Nat × Value) := (List.range n).filterMap (fun (j : Nat) => match (ls[j]? : Option Slot) with
  | some (.val w) => if w.category = 1 then some (j, w) else none
  | _ => none)
theorem zP.mem {ls : Array Slot} {n j : Nat} {w : Value} (hj : j < n) (h : ls[j]? = some (.val w)) (hc : w.category = 1) : (j, w) ∈ zP ls n := by
  refine List.mem_filterMap.mpr ⟨j, List.mem_range.mpr hj, ?_⟩
  simp only [h, hc, if_true]
theorem zP.of {ls : Array Slot} {n : Nat} {q : Nat × Value} (h : q ∈ zP ls n) : ls[q.1]? = some (.val q.2) := by
  obtain ⟨j, -, hj⟩ := List.mem_filterMap.mp h
  cases hl : ls[j]? with
  | none => rw [hl] at hj; cases hj
  | some x =>
    rw [hl] at hj
    cases x with
    | unset => cases hj
    | second => cases hj
    | val w =>
      dsimp only at hj
      split at hj
      · cases hj; exact hl
      · cases hj
theorem zL.has {G : zGP} {env : List Nat} {n : Nat} {ls : Array Slot} {lc : List Value} (h : zL G env n ls lc) : lv_has ls n (zP ls lc.length) := ⟨h.1, h.2.1, fun _ hq => zP.of hq⟩
theorem zL.after {G : zGP} {env : List Nat} {n : Nat} {ls ls' : Array Slot} {lc : List Value} {i : Nat} {v w : Value} (h : zL G env n ls lc)
    (h' : lv_has ls' n ((i, w) :: (zP ls lc.length).filter (fun q => !(q.1 == i) && !(q.1 + 1 == i && q.2.category == 2)))) (hv : v.category = 1 → zV G env v w) : zL G env n ls' (lc.set i v) := by
  refine ⟨h'.1, h'.2.1, fun j x hj hc => ?_⟩
  by_cases hji : i = j
  · subst hji
    have hl : i < lc.length := by
      have := (List.getElem?_eq_some_iff.mp hj).1
      rwa [List.length_set] at this
    rw [List.getElem?_set_self hl] at hj
    cases hj
    exact ⟨w, h'.2.2 _ List.mem_cons_self, hv hc⟩
  · rw [List.getElem?_set_ne hji] at hj
    obtain ⟨y, q1, q2⟩ := h.2.2 j x hj hc
    have hl : j < lc.length := (List.getElem?_eq_some_iff.mp hj).1
    have hyc : y.category = 1 := q2.cat.trans hc
    refine ⟨y, h'.2.2 (j, y) (List.mem_cons_of_mem _ (List.mem_filter.mpr ⟨zP.mem hl q1 hyc, ?_⟩)), q2⟩
    have h1 : (j == i) = false := by rw [beq_eq_false_iff_ne]; exact fun q => hji q.symm
    show (!(j == i) && !(j + 1 == i && y.category == 2)) = true
    rw [h1, hyc]
    simp
def zRO (env : List Nat) (v w : Option Nat) : Prop := match v with
  | none => w = none
  | some i => ∃ a, env[i]? = some a ∧ w = some a
theorem zRO.mono {a b : List Nat} {v w : Option Nat} (hx : zX a b) (h : zRO a v w) : zRO b v w := by
  cases v with
  | none => exact h
  | some i => obtain ⟨q, h1, h2⟩ := h; exact ⟨q, hx i q h1, h2⟩
def zF (G : zGP) (env : List Nat) (fs gs : List Value) : Prop := gs.length = fs.length ∧ ∀ (k : Nat) (v : Value), fs[k]? = some v → ∃ w, gs[k]? = some w ∧ zV G env v w
theorem zF.mono {G : zGP} {a b : List Nat} {fs gs : List Value} (hx : zX a b) (h : zF G a fs gs) : zF G b fs gs := by
  refine ⟨h.1, fun k v hk => ?_⟩
  obtain ⟨w, h1, h2⟩ := h.2 k v hk
  exact ⟨w, h1, h2.mono hx⟩
theorem zF.set {G : zGP} {env : List Nat} {fs gs : List Value} {k : Nat} {v w : Value} (h : zF G env fs gs) (hv : zV G env v w) : zF G env (fs.set k v) (gs.set k w) := by
  refine ⟨by rw [List.length_set, List.length_set]; exact h.1, fun j x hj => ?_⟩
  by_cases hjk : k = j
  · subst hjk
    have hl : k < fs.length := by
      have := (List.getElem?_eq_some_iff.mp hj).1
      rwa [List.length_set] at this
    rw [List.getElem?_set_self hl] at hj
    cases hj
    exact ⟨w, List.getElem?_set_self (by rw [h.1]; exact hl), hv⟩
  · rw [List.getElem?_set_ne hjk] at hj
    obtain ⟨y, q1, q2⟩ := h.2 j x hj
    exact ⟨y, by rw [List.getElem?_set_ne hjk]; exact q1, q2⟩
/-- a cell of places and a cell of addresses -/
def zE (G : zGP) (env : List Nat) (e w : va_E) : Prop := match e with
  | .inl (t, n, .inr (.inr (.inr (.inr f)))) => ∃ g : Nat → Option Nat, w = .inl (G.2.1 t, n, .inr (.inr (.inr (.inr g)))) ∧ ∀ j, zRO env (f j) (g j)
  | .inl (t, n, .inl f) => w = .inl (G.2.1 t, n, .inl f)
  | .inl (t, n, .inr (.inl f)) => w = .inl (G.2.1 t, n, .inr (.inl f))
  | .inl _ => False
  | .inr (c, fs) => ∃ gs, w = .inr (c, gs) ∧ zF G env fs gs
theorem zE.mono {G : zGP} {a b : List Nat} {e w : va_E} (hx : zX a b) (h : zE G a e w) : zE G b e w := by
  match e, h with
  | .inl (t, n, .inr (.inr (.inr (.inr f)))), h => obtain ⟨g, h1, h2⟩ := h; exact ⟨g, h1, fun j => (h2 j).mono hx⟩
  | .inl (t, n, .inl f), h => exact h
  | .inl (t, n, .inr (.inl f)), h => exact h
  | .inl (t, n, .inr (.inr (.inl f))), h => exact h
  | .inl (t, n, .inr (.inr (.inr (.inl f)))), h => exact h
  | .inr (c, fs), h => obtain ⟨gs, h1, h2⟩ := h; exact ⟨gs, h1, h2.mono hx⟩
abbrev zN (ws : va_W) : List Nat := ws.map (fun q => q.1)
theorem zN.at {ws : va_W} {k : Nat} {a : Nat} {e : va_E} (h : ws[k]? = some (a, e)) : (zN ws)[k]? = some a := by
  rw [List.getElem?_map, h]; rfl
theorem zN.set {ws : va_W} {k : Nat} {a : Nat} {e e' : va_E} (h : ws[k]? = some (a, e)) : zN (ws.set k (a, e')) = zN ws := by
  refine List.ext_getElem? fun j => ?_
  rw [List.getElem?_map, List.getElem?_map]
  by_cases hj : k = j
  · subst hj
    rw [List.getElem?_set_self (List.getElem?_eq_some_iff.mp h).1, h]; rfl
  · rw [List.getElem?_set_ne hj]
theorem zN.push {ws : va_W} {q : Nat × va_E} : zX (zN ws) (zN (ws ++ [q])) := by
  intro k x h
  have hl : k < (zN ws).length := (List.getElem?_eq_some_iff.mp h).1
  show ((ws ++ [q]).map (fun q => q.1))[k]? = some x
  rw [List.map_append, List.getElem?_append_left hl]
  exact h
/-- the heap of places hp stands in H, at the addresses of ws -/
def zW (G : zGP) (hp : List va_E) (ws : va_W) (H : Heap) : Prop := va_P G.1 zCl ws H ∧ va_D (zA G) ws ∧ ws.length = hp.length ∧ ∀ (k : Nat) (e : va_E), hp[k]? = some e → ∃ (a : Nat) (w : va_E), ws[k]? = some (a, w) ∧ zE G (zN ws) e w
theorem zW.set {G : zGP} {hp : List va_E} {ws : va_W} {H H1 : Heap} {k a : Nat} {e e' w w' : va_E} (h : zW G hp ws H) (ha : ws[k]? = some (a, w)) (he : zE G (zN ws) e' w') (hP : va_P G.1 zCl (ws.set k (a, w')) H1) (hD : va_D (zA G) (ws.set k (a, w'))) : zW G (hp.set k e') (ws.set k (a, w')) H1 := by
  refine ⟨hP, hD, by rw [List.length_set, List.length_set]; exact h.2.2.1, fun j x hj => ?_⟩
  rw [zN.set ha]
  have hlw : k < ws.length := (List.getElem?_eq_some_iff.mp ha).1
  by_cases hjk : k = j
  · subst hjk
    rw [List.getElem?_set_self (by rw [← h.2.2.1]; exact hlw)] at hj
    cases hj
    exact ⟨a, w', List.getElem?_set_self hlw, he⟩
  · rw [List.getElem?_set_ne hjk] at hj
    obtain ⟨b, y, q1, q2⟩ := h.2.2.2 j x hj
    exact ⟨b, y, by rw [List.getElem?_set_ne hjk]; exact q1, q2⟩
theorem zW.push {G : zGP} {hp : List va_E} {ws : va_W} {H H1 : Heap} {q : Nat} {e w : va_E} (h : zW G hp ws H) (he : zE G (zN (ws ++ [(q, w)])) e w) (hP : va_P G.1 zCl (ws ++ [(q, w)]) H1) (hD : va_D (zA G) (ws ++ [(q, w)])) : zW G (hp ++ [e]) (ws ++ [(q, w)]) H1 := by
  refine ⟨hP, hD, by rw [List.length_append, List.length_append, h.2.2.1]; rfl, fun j x hj => ?_⟩
  by_cases hl : j < hp.length
  · rw [List.getElem?_append_left hl] at hj
    obtain ⟨b, y, q1, q2⟩ := h.2.2.2 j x hj
    exact ⟨b, y, by rw [List.getElem?_append_left (by rw [h.2.2.1]; exact hl)]; exact q1, q2.mono zN.push⟩
  · rw [List.getElem?_append_right (by omega)] at hj
    have hz : j - hp.length < 1 := (List.getElem?_eq_some_iff.mp hj).1
    have hj0 : j = hp.length := by omega
    rw [show j - hp.length = 0 by omega] at hj
    cases hj
    exact ⟨q, w, by rw [hj0, ← h.2.2.1, List.getElem?_append_right (Nat.le_refl _), Nat.sub_self]; rfl, he⟩
theorem zW.new {G : zGP} {hp : List va_E} {ws : va_W} {H : Heap} {q : Nat} {w : va_E} (h : zW G hp ws H) : (zN (ws ++ [(q, w)]))[hp.length]? = some q := by
  rw [← h.2.2.1]
  show ((ws ++ [(q, w)]).map (fun q => q.1))[ws.length]? = some q
  rw [List.getElem?_map, List.getElem?_append_right (Nat.le_refl _), Nat.sub_self]; rfl
theorem zW.kept {G : zGP} {hp : List va_E} {ws : va_W} {H H1 : Heap} (h : zW G hp ws H) (hk : ∀ q : Nat, q < H.size → H1[q]? = H[q]?) : zW G hp ws H1 := ⟨h.1.kept (fun k q hq => hk q.1 ((h.1 k q hq).lt)), h.2⟩
def zI (l : Launch) (G : zGP) (U : State) (H : Heap) : Prop :=
  l.stackTraces = false ∧ va_K G.1 zCl (zTy G) U ∧ G.2.2.1 ≤ H.size ∧ G.2.2.2.1 < G.2.2.1 ∧ va_X G.2.2.2.1 G.2.2.2.2.1 G.2.2.2.2.2.1 U H ∧
  (∀ (k : Nat) (q : String × Nat × String), zStr[k]? = some q → vk_R q.1 q.2.1 q.2.2 (G.2.2.2.2.2.2 k) U) ∧
  vx_Zq Bundle.tN "UNASSIGNED_STACK" Bundle.steD (zA G) U H ∧ vx_Zq Bundle.tN "SUPPRESSED_SENTINEL" Bundle.listD (zA G) U H ∧
  (∀ q ∈ zCs, va_Nw (.castable q.1 q.2) U) ∧ (∀ y ∈ zDs, va_Nw (.declares y) U) ∧ (∀ q ∈ zNc, va_Nc q.1 q.2 U) ∧ (∀ C ∈ zAo, va_AO C U) ∧ ∀ q ∈ zNl, va_Nw (.methodLinkNest q.1 q.2.1 q.2.2.1 q.2.2.2) U
theorem zI.at {l : Launch} {G : zGP} {s U : State} {H : Heap} {locs : List Loc} (h : zI l G s s.heap) (hS : va_S (zA G) s.heap H locs) (hW : s.WarmedH U.vm) (hU : U.heap = H) : zI l G U U.heap := by
  obtain ⟨h1, h2, h3, h4, h5, h6, h7, h8, h9, h10, h11, h12, h13⟩ := h
  refine ⟨h1, va_K.moved hW.alike h2, by rw [hU]; exact Nat.le_trans h3 hS.1, h4, ?_, fun k q hk => vk_R.warm hW (h6 k q hk), ?_, ?_, fun q hq => va_Nw.warmC hW (h9 q hq), fun y hy => va_Nw.warmD hW (h10 y hy), fun q hq => (h11 q hq).moved hW.alike, fun C hC => va_AO.moved hW.alike (h12 C hC), fun q hq => va_Nw.warmM hW (h13 q hq)⟩
  · rw [hU]; exact va_X.moved hW.alike (va_X.kept h5 (hS.2.1 _ (Nat.lt_of_lt_of_le h4 h3) (Nat.not_le.mpr h4)))
  · rw [hU]; exact vx_Zq.moved hW.alike (h7.kept hS.2.1)
  · rw [hU]; exact vx_Zq.moved hW.alike (h8.kept hS.2.1)
def zC (l : Launch) (G : zGP) (M : zMI) (p : Program) (s : State) (m : MethodId) (args : Array Value) (meth : Method) (c : Code) : Prop :=
  p.tables.exec = Jvm.exec ∧ c.code = M.2.1 ∧ c.maxLocals = M.2.2.1 ∧ (∀ w ∈ M.2.2.2.2.1, w.before args s = true) ∧ s.vm.findClass M.1.cls = some m.cls ∧ meth.sig.returnType = M.2.2.2.1 ∧ meth.locks = false ∧ meth.name = M.1.name ∧ c.exceptionTable.toList = tableOf M.2.2.2.2.2.2 ∧ zI l G s s.heap
def zQc (G : zGP) (env : List Nat) (R : zRes) : Array Value → State → Outcome → State → Prop := fun _ st oc t => ∃ (v v' : Option Value) (ws' : va_W), R.1 = .inl v ∧ oc = .returned v' ∧ zO G (zN ws') v v' ∧ zW G R.2 ws' t.heap ∧ zX env (zN ws') ∧ va_F (zA G) st t
def zXc (G : zGP) (env : List Nat) (R : zRes) : String → State → State → Prop := fun E st t => ∃ ws' : va_W, R.1 = .inr E ∧ zW G R.2 ws' t.heap ∧ zX env (zN ws') ∧ va_F (zA G) st t
/-- from this frame of places the method comes to R -/
def Ev (l : Launch) (G : zGP) (M : zMI) (pc : Nat) (lc st : List Value) (hp : List va_E) (cs sl : Nat) (R : zRes) : Prop :=
  ∀ (p : Program) (e : Env) (s : State) (m : MethodId) (args : Array Value) (below : List Frame) (meth : Method) (c : Code) (H : Heap) (locs : List Loc) (ls : Array Slot) (cst : List Value) (ws : va_W) (env0 : List Nat),
    zC l G M p s m args meth c → va_S (zA G) s.heap H locs → zL G (zN ws) M.2.2.1 ls lc → zS G (zN ws) st cst → zW G hp ws H → zX env0 (zN ws) →
    W p l e M.2.2.2.2.2.1 s m args below meth c H locs cs sl (vx_MQ below (zQc G env0 R) (zXc G env0 R) args s M.2.2.2.2.2.1.cells M.2.2.2.2.2.1.slots (zA G)) (F0 m pc ls cst)
/-- the method's contract at these arguments and this heap -/
def Rn (l : Launch) (G : zGP) (M : zMI) (av : List Value) (hp : List va_E) (R : zRes) : Prop :=
  ∀ (ws : va_W) (cav : List Value), zS G (zN ws) av cav → vx_Met l M.1 M.2.2.2.2.1 M.2.2.2.2.2.1 (va_Pc cav (fun U => zI l G U U.heap ∧ zW G hp ws U.heap)) (zQc G (zN ws) R) (zXc G (zN ws) R) M.2.2.2.2.2.1.cells M.2.2.2.2.2.1.slots (zA G)
theorem zEntry {G : zGP} {env : List Nat} {av cav : List Value} {n : Nat} (h : zS G env av cav) (hn : av.length ≤ n) (hc : ∀ v ∈ av, v.category = 1) :
    (∀ v ∈ cav, v.category = 1) ∧ zL G env n ((cav.map Slot.val ++ List.replicate (n - cav.length) Slot.unset).toArray) (av ++ List.replicate (n - av.length) (.double 0)) := by
  have hlen := h.len
  have hat : ∀ (i : Nat) (v : Value), av[i]? = some v → ∃ w, cav[i]? = some w ∧ zV G env v w := by
    intro i v hv
    clear hn hc hlen
    induction av generalizing cav i with
    | nil => simp at hv
    | cons a t ih =>
      obtain ⟨x, xs, h1, h2, h3⟩ := h
      subst h1
      cases i with
      | zero => rw [List.getElem?_cons_zero] at hv; cases hv; exact ⟨x, rfl, h2⟩
      | succ i => rw [List.getElem?_cons_succ] at hv; rw [List.getElem?_cons_succ]; exact ih h3 i hv
  have hcc : ∀ v ∈ cav, v.category = 1 := by
    intro v hv
    have h1 := h.cats
    have h2 : v.category ∈ cav.map (fun v => v.category) := List.mem_map.mpr ⟨v, hv, rfl⟩
    rw [h1] at h2
    obtain ⟨u, hu, he⟩ := List.mem_map.mp h2
    rw [← he]; exact hc u hu
  have hE := lv_entry cav (n := n) (by
    have : lg_sl cav = cav.map Slot.val := by
      unfold lg_sl
      clear hat hlen h
      induction cav with
      | nil => rfl
      | cons a t ih =>
        have h1 : a.category = 1 := hcc a List.mem_cons_self
        rw [List.flatMap_cons, ih (fun v hv => hcc v (List.mem_cons_of_mem _ hv)), h1]; rfl
    rw [this, List.length_map, hlen]; exact hn)
  have hsl : lg_sl cav = cav.map Slot.val := by
    unfold lg_sl
    clear hat hlen h hE
    induction cav with
    | nil => rfl
    | cons a t ih =>
      have h1 : a.category = 1 := hcc a List.mem_cons_self
      rw [List.flatMap_cons, ih (fun v hv => hcc v (List.mem_cons_of_mem _ hv)), h1]; rfl
  rw [hsl, List.length_map] at hE
  refine ⟨hcc, hE.1, hE.2.1, fun i v hv hc1 => ?_⟩
  by_cases hi : i < av.length
  · rw [List.getElem?_append_left hi] at hv
    obtain ⟨w, q1, q2⟩ := hat i v hv
    refine ⟨w, ?_, q2⟩
    rw [List.getElem?_toArray, List.getElem?_append_left (by rw [List.length_map, hlen]; exact hi), List.getElem?_map, q1]; rfl
  · rw [List.getElem?_append_right (by omega)] at hv
    have h2 := List.eq_of_mem_replicate (List.mem_of_getElem? hv)
    subst h2
    cases hc1
theorem Rn.of {l : Launch} {G : zGP} {M : zMI} {av : List Value} {hp : List va_E} {R : zRes} {ws' : List Cond} (hy : plainName M.1.cls = true) (hw : M.2.2.2.2.1 = Cond.code M.1 M.2.1 M.2.2.1 M.2.2.2.1 :: ws') (hh : M.2.2.2.2.2.2 = []) (hn : av.length ≤ M.2.2.1) (hc : (av.all fun v => v.category == 1) = true)
    (k : Ev l G M 0 (av ++ List.replicate (M.2.2.1 - av.length) (.double 0)) [] hp 0 0 R) : Rn l G M av hp R := by
  intro ws cav hst
  refine vx_ofW (cc := M.2.1) (maxL := M.2.2.1) (ret := M.2.2.2.1) hy hw ?_
  intro p e s m args below meth c s₁ B hml hno hv
  obtain ⟨rfl, hI, hW⟩ := hv
  obtain ⟨hcc, hl⟩ := zEntry hst hn (fun v hv => by have h9 := List.all_eq_true.mp hc v hv; simpa using h9)
  rw [entry_eq m cav hcc]
  refine k p e s m _ below meth c s.heap [] _ [] ws (zN ws) ⟨B.exec, B.bytes, hml, atoms_spec (ws := M.2.2.2.2.1) B.pre, findClass_of_methodNamed B.named, B.returns, B.notSynchronized, (name_of_methodNamed B.named B.method).1, ?_, hI⟩ va_S.rf hl rfl hW zX.rf
  rw [hh]
  cases hq : c.exceptionTable.toList with
  | nil => rfl
  | cons x t => exact absurd (hno x (by rw [hq]; exact List.mem_cons_self)) (fun z => z)
theorem Rn.ofH {l : Launch} {G : zGP} {M : zMI} {av : List Value} {hp : List va_E} {R : zRes} {ws' : List Cond} (hy : plainName M.1.cls = true) (hw : M.2.2.2.2.1 = Cond.codeWith M.1 M.2.1 M.2.2.1 M.2.2.2.1 M.2.2.2.2.2.2 :: ws') (hn : av.length ≤ M.2.2.1) (hc : (av.all fun v => v.category == 1) = true)
    (k : Ev l G M 0 (av ++ List.replicate (M.2.2.1 - av.length) (.double 0)) [] hp 0 0 R) : Rn l G M av hp R := by
  intro ws cav hst
  refine vx_ofWH (cc := M.2.1) (maxL := M.2.2.1) (ret := M.2.2.2.1) (hh := M.2.2.2.2.2.2) hy hw ?_
  intro p e s m args below meth c s₁ B hml hv
  obtain ⟨rfl, hI, hW⟩ := hv
  obtain ⟨hcc, hl⟩ := zEntry hst hn (fun v hv => by have h9 := List.all_eq_true.mp hc v hv; simpa using h9)
  rw [entry_eq m cav hcc]
  have hts := atoms_spec (ws := M.2.2.2.2.1) B.pre
  exact k p e s m _ below meth c s.heap [] _ [] ws (zN ws) ⟨B.exec, B.bytes, hml, hts, findClass_of_methodNamed B.named, B.returns, B.notSynchronized, (name_of_methodNamed B.named B.method).1, vx_table (x := M.1) B (hts _ (by rw [hw]; exact List.mem_cons_self)), hI⟩ va_S.rf hl rfl hW zX.rf
section EV
variable {l : Launch} {G : zGP} {M : zMI} {pc : Nat} {lc st : List Value} {hp : List va_E} {cs sl : Nat} {R : zRes}
theorem e_iconst {n : Int} {v : Int32} (d : decode M.2.1 pc = .ok (.iconst n, 1)) (hv : Int32.ofInt n = v) (k : Ev l G M (pc + 1) lc (.int v :: st) hp cs sl R) : Ev l G M pc lc (st) hp cs sl R := by
  intro p e s m args below meth c H locs ls cst ws env0 hC hS hl hst hw hx0
  exact lv_iconst hC.1 hC.2.1 d hv (k p e s m args below meth c H locs ls _ ws env0 hC hS hl ⟨_, _, rfl, rfl, hst⟩ hw hx0)
theorem e_bipush {n : Int} {v : Int32} (d : decode M.2.1 pc = .ok (.bipush n, 2)) (hv : (Int8.ofInt n).toInt32 = v) (k : Ev l G M (pc + 2) lc (.int v :: st) hp cs sl R) : Ev l G M pc lc (st) hp cs sl R := by
  intro p e s m args below meth c H locs ls cst ws env0 hC hS hl hst hw hx0
  exact lv_bipush hC.1 hC.2.1 d hv (k p e s m args below meth c H locs ls _ ws env0 hC hS hl ⟨_, _, rfl, rfl, hst⟩ hw hx0)
theorem e_sipush {n : Int} {v : Int32} (d : decode M.2.1 pc = .ok (.sipush n, 3)) (hv : (Int16.ofInt n).toInt32 = v) (k : Ev l G M (pc + 3) lc (.int v :: st) hp cs sl R) : Ev l G M pc lc (st) hp cs sl R := by
  intro p e s m args below meth c H locs ls cst ws env0 hC hS hl hst hw hx0
  exact lv_sipush hC.1 hC.2.1 d hv (k p e s m args below meth c H locs ls _ ws env0 hC hS hl ⟨_, _, rfl, rfl, hst⟩ hw hx0)
theorem e_lconst {n : Fin 2} {v : Int64} (d : decode M.2.1 pc = .ok (.lconst n, 1)) (hv : Int64.ofNat (n : Nat) = v) (k : Ev l G M (pc + 1) lc (.long v :: st) hp cs sl R) : Ev l G M pc lc (st) hp cs sl R := by
  intro p e s m args below meth c H locs ls cst ws env0 hC hS hl hst hw hx0
  exact lv_lconst hC.1 hC.2.1 d hv (k p e s m args below meth c H locs ls _ ws env0 hC hS hl ⟨_, _, rfl, rfl, hst⟩ hw hx0)
theorem e_iload_n {j : Fin 4} {x : Int32} (d : decode M.2.1 pc = .ok (.iload_n j, 1)) (hx : lc[(j : Nat)]? = some (.int x)) (k : Ev l G M (pc + 1) lc (.int x :: st) hp cs sl R) : Ev l G M pc lc (st) hp cs sl R := by
  intro p e s m args below meth c H locs ls cst ws env0 hC hS hl hst hw hx0
  obtain ⟨w, h1, h2⟩ := hl.2.2 _ _ hx rfl
  have h2 : w = .int x := h2
  subst h2
  exact lv_iload_n hC.1 hC.2.1 d rfl h1 (k p e s m args below meth c H locs ls _ ws env0 hC hS hl ⟨_, _, rfl, rfl, hst⟩ hw hx0)
theorem e_iload {j : Nat} {x : Int32} (d : decode M.2.1 pc = .ok (.iload j, 2)) (hx : lc[j]? = some (.int x)) (k : Ev l G M (pc + 2) lc (.int x :: st) hp cs sl R) : Ev l G M pc lc (st) hp cs sl R := by
  intro p e s m args below meth c H locs ls cst ws env0 hC hS hl hst hw hx0
  obtain ⟨w, h1, h2⟩ := hl.2.2 _ _ hx rfl
  have h2 : w = .int x := h2
  subst h2
  exact lv_iload hC.1 hC.2.1 d h1 (k p e s m args below meth c H locs ls _ ws env0 hC hS hl ⟨_, _, rfl, rfl, hst⟩ hw hx0)
theorem zV.isR {env : List Nat} {v w : Value} (h : zV G env v w) (hr : (∃ i, v = .ref i) ∨ ∃ i, v = .retAddr i) : ∃ a, w = .ref a := by
  rcases hr with ⟨i, rfl⟩ | ⟨i, rfl⟩
  · obtain ⟨a, -, h⟩ := h; exact ⟨a, h⟩
  · exact ⟨_, h⟩
theorem e_aload_n {j : Fin 4} {i : Nat} (d : decode M.2.1 pc = .ok (.aload_n j, 1)) (hx : lc[(j : Nat)]? = some (.ref i)) (k : Ev l G M (pc + 1) lc (.ref i :: st) hp cs sl R) : Ev l G M pc lc (st) hp cs sl R := by
  intro p e s m args below meth c H locs ls cst ws env0 hC hS hl hst hw hx0
  obtain ⟨w, h1, h2⟩ := hl.2.2 _ _ hx rfl
  obtain ⟨a, rfl⟩ := h2.isR (by first | exact Or.inl ⟨_, rfl⟩ | exact Or.inr ⟨_, rfl⟩)
  exact lv_aload_n hC.1 hC.2.1 d rfl h1 (k p e s m args below meth c H locs ls _ ws env0 hC hS hl ⟨_, _, rfl, h2, hst⟩ hw hx0)
theorem e_aload_nS {j : Fin 4} {i : Nat} (d : decode M.2.1 pc = .ok (.aload_n j, 1)) (hx : lc[(j : Nat)]? = some (.retAddr i)) (k : Ev l G M (pc + 1) lc (.retAddr i :: st) hp cs sl R) : Ev l G M pc lc (st) hp cs sl R := by
  intro p e s m args below meth c H locs ls cst ws env0 hC hS hl hst hw hx0
  obtain ⟨w, h1, h2⟩ := hl.2.2 _ _ hx rfl
  obtain ⟨a, rfl⟩ := h2.isR (by first | exact Or.inl ⟨_, rfl⟩ | exact Or.inr ⟨_, rfl⟩)
  exact lv_aload_n hC.1 hC.2.1 d rfl h1 (k p e s m args below meth c H locs ls _ ws env0 hC hS hl ⟨_, _, rfl, h2, hst⟩ hw hx0)
theorem e_aload {j : Nat} {i : Nat} (d : decode M.2.1 pc = .ok (.aload j, 2)) (hx : lc[j]? = some (.ref i)) (k : Ev l G M (pc + 2) lc (.ref i :: st) hp cs sl R) : Ev l G M pc lc (st) hp cs sl R := by
  intro p e s m args below meth c H locs ls cst ws env0 hC hS hl hst hw hx0
  obtain ⟨w, h1, h2⟩ := hl.2.2 _ _ hx rfl
  obtain ⟨a, rfl⟩ := h2.isR (by first | exact Or.inl ⟨_, rfl⟩ | exact Or.inr ⟨_, rfl⟩)
  exact lv_aload hC.1 hC.2.1 d h1 (k p e s m args below meth c H locs ls _ ws env0 hC hS hl ⟨_, _, rfl, h2, hst⟩ hw hx0)
theorem e_aloadS {j : Nat} {i : Nat} (d : decode M.2.1 pc = .ok (.aload j, 2)) (hx : lc[j]? = some (.retAddr i)) (k : Ev l G M (pc + 2) lc (.retAddr i :: st) hp cs sl R) : Ev l G M pc lc (st) hp cs sl R := by
  intro p e s m args below meth c H locs ls cst ws env0 hC hS hl hst hw hx0
  obtain ⟨w, h1, h2⟩ := hl.2.2 _ _ hx rfl
  obtain ⟨a, rfl⟩ := h2.isR (by first | exact Or.inl ⟨_, rfl⟩ | exact Or.inr ⟨_, rfl⟩)
  exact lv_aload hC.1 hC.2.1 d h1 (k p e s m args below meth c H locs ls _ ws env0 hC hS hl ⟨_, _, rfl, h2, hst⟩ hw hx0)
theorem e_istore_n {j : Fin 4} {x : Int32} (d : decode M.2.1 pc = .ok (.istore_n j, 1)) (hn : (j : Nat) < M.2.2.1) (k : Ev l G M (pc + 1) (lc.set (j : Nat) (.int x)) (st) hp cs sl R) : Ev l G M pc lc (.int x :: st) hp cs sl R := by
  intro p e s m args below meth c H locs ls cst ws env0 hC hS hl hst hw hx0
  obtain ⟨w, r, rfl, h2, hst⟩ := hst
  have h2 : w = .int x := h2
  subst h2
  exact lv_istore_n hC.1 hC.2.1 d rfl hl.has hn rfl (fun ls' hl' => k p e s m args below meth c H locs ls' _ ws env0 hC hS (hl.after hl' (fun _ => rfl)) hst hw hx0)
theorem e_astore_n {j : Fin 4} {i : Nat} (d : decode M.2.1 pc = .ok (.astore_n j, 1)) (hn : (j : Nat) < M.2.2.1) (k : Ev l G M (pc + 1) (lc.set (j : Nat) (.ref i)) (st) hp cs sl R) : Ev l G M pc lc (.ref i :: st) hp cs sl R := by
  intro p e s m args below meth c H locs ls cst ws env0 hC hS hl hst hw hx0
  obtain ⟨w, r, rfl, h2, hst⟩ := hst
  obtain ⟨a, rfl⟩ := h2.isR (by first | exact Or.inl ⟨_, rfl⟩ | exact Or.inr ⟨_, rfl⟩)
  exact lv_astore_n hC.1 hC.2.1 d rfl hl.has hn rfl (fun ls' hl' => k p e s m args below meth c H locs ls' _ ws env0 hC hS (hl.after hl' (fun _ => h2)) hst hw hx0)
theorem e_astore_nS {j : Fin 4} {i : Nat} (d : decode M.2.1 pc = .ok (.astore_n j, 1)) (hn : (j : Nat) < M.2.2.1) (k : Ev l G M (pc + 1) (lc.set (j : Nat) (.retAddr i)) (st) hp cs sl R) : Ev l G M pc lc (.retAddr i :: st) hp cs sl R := by
  intro p e s m args below meth c H locs ls cst ws env0 hC hS hl hst hw hx0
  obtain ⟨w, r, rfl, h2, hst⟩ := hst
  obtain ⟨a, rfl⟩ := h2.isR (by first | exact Or.inl ⟨_, rfl⟩ | exact Or.inr ⟨_, rfl⟩)
  exact lv_astore_n hC.1 hC.2.1 d rfl hl.has hn rfl (fun ls' hl' => k p e s m args below meth c H locs ls' _ ws env0 hC hS (hl.after hl' (fun _ => h2)) hst hw hx0)
theorem e_istore {j : Nat} {x : Int32} (d : decode M.2.1 pc = .ok (.istore j, 2)) (hn : j < M.2.2.1) (k : Ev l G M (pc + 2) (lc.set j (.int x)) (st) hp cs sl R) : Ev l G M pc lc (.int x :: st) hp cs sl R := by
  intro p e s m args below meth c H locs ls cst ws env0 hC hS hl hst hw hx0
  obtain ⟨w, r, rfl, h2, hst⟩ := hst
  have h2 : w = .int x := h2
  subst h2
  exact lv_istore hC.1 hC.2.1 d hl.has hn rfl (fun ls' hl' => k p e s m args below meth c H locs ls' _ ws env0 hC hS (hl.after hl' (fun _ => rfl)) hst hw hx0)
theorem e_astore {j : Nat} {i : Nat} (d : decode M.2.1 pc = .ok (.astore j, 2)) (hn : j < M.2.2.1) (k : Ev l G M (pc + 2) (lc.set j (.ref i)) (st) hp cs sl R) : Ev l G M pc lc (.ref i :: st) hp cs sl R := by
  intro p e s m args below meth c H locs ls cst ws env0 hC hS hl hst hw hx0
  obtain ⟨w, r, rfl, h2, hst⟩ := hst
  obtain ⟨a, rfl⟩ := h2.isR (by first | exact Or.inl ⟨_, rfl⟩ | exact Or.inr ⟨_, rfl⟩)
  exact lv_astore hC.1 hC.2.1 d hl.has hn rfl (fun ls' hl' => k p e s m args below meth c H locs ls' _ ws env0 hC hS (hl.after hl' (fun _ => h2)) hst hw hx0)
theorem e_astoreS {j : Nat} {i : Nat} (d : decode M.2.1 pc = .ok (.astore j, 2)) (hn : j < M.2.2.1) (k : Ev l G M (pc + 2) (lc.set j (.retAddr i)) (st) hp cs sl R) : Ev l G M pc lc (.retAddr i :: st) hp cs sl R := by
  intro p e s m args below meth c H locs ls cst ws env0 hC hS hl hst hw hx0
  obtain ⟨w, r, rfl, h2, hst⟩ := hst
  obtain ⟨a, rfl⟩ := h2.isR (by first | exact Or.inl ⟨_, rfl⟩ | exact Or.inr ⟨_, rfl⟩)
  exact lv_astore hC.1 hC.2.1 d hl.has hn rfl (fun ls' hl' => k p e s m args below meth c H locs ls' _ ws env0 hC hS (hl.after hl' (fun _ => h2)) hst hw hx0)
theorem e_iinc {j : Nat} {n : Int} {x : Int32} (d : decode M.2.1 pc = .ok (.iinc j n, 3)) (hx : lc[j]? = some (.int x)) (hn : j < M.2.2.1) (k : Ev l G M (pc + 3) (lc.set j (.int (x + Int32.ofInt n))) (st) hp cs sl R) : Ev l G M pc lc (st) hp cs sl R := by
  intro p e s m args below meth c H locs ls cst ws env0 hC hS hl hst hw hx0
  obtain ⟨w, h1, h2⟩ := hl.2.2 _ _ hx rfl
  have h2 : w = .int x := h2
  subst h2
  obtain ⟨k9, hk9⟩ := List.getElem?_of_mem (zP.mem (List.getElem?_eq_some_iff.mp hx).1 h1 rfl)
  exact lv_iinc hC.1 hC.2.1 d hl.has hk9 rfl hn rfl (fun ls' hl' => k p e s m args below meth c H locs ls' _ ws env0 hC hS (hl.after hl' (fun _ => rfl)) hst hw hx0)
theorem e_iadd {x y : Int32} (d : decode M.2.1 pc = .ok (.iadd, 1)) (k : Ev l G M (pc + 1) lc (.int (x + y) :: st) hp cs sl R) : Ev l G M pc lc (.int y :: .int x :: st) hp cs sl R := by
  intro p e s m args below meth c H locs ls cst ws env0 hC hS hl hst hw hx0
  obtain ⟨w, r, rfl, h2, w2, r2, rfl, h3, hst⟩ := hst
  have h2 : w = .int y := h2
  have h3 : w2 = .int x := h3
  subst h2; subst h3
  exact lv_iadd hC.1 hC.2.1 d (k p e s m args below meth c H locs ls _ ws env0 hC hS hl ⟨_, _, rfl, rfl, hst⟩ hw hx0)
theorem e_isub {x y : Int32} (d : decode M.2.1 pc = .ok (.isub, 1)) (k : Ev l G M (pc + 1) lc (.int (x - y) :: st) hp cs sl R) : Ev l G M pc lc (.int y :: .int x :: st) hp cs sl R := by
  intro p e s m args below meth c H locs ls cst ws env0 hC hS hl hst hw hx0
  obtain ⟨w, r, rfl, h2, w2, r2, rfl, h3, hst⟩ := hst
  have h2 : w = .int y := h2
  have h3 : w2 = .int x := h3
  subst h2; subst h3
  exact lv_isub hC.1 hC.2.1 d (k p e s m args below meth c H locs ls _ ws env0 hC hS hl ⟨_, _, rfl, rfl, hst⟩ hw hx0)
theorem e_imul {x y : Int32} (d : decode M.2.1 pc = .ok (.imul, 1)) (k : Ev l G M (pc + 1) lc (.int (x * y) :: st) hp cs sl R) : Ev l G M pc lc (.int y :: .int x :: st) hp cs sl R := by
  intro p e s m args below meth c H locs ls cst ws env0 hC hS hl hst hw hx0
  obtain ⟨w, r, rfl, h2, w2, r2, rfl, h3, hst⟩ := hst
  have h2 : w = .int y := h2
  have h3 : w2 = .int x := h3
  subst h2; subst h3
  exact lv_imul hC.1 hC.2.1 d (k p e s m args below meth c H locs ls _ ws env0 hC hS hl ⟨_, _, rfl, rfl, hst⟩ hw hx0)
theorem e_iand {x y : Int32} (d : decode M.2.1 pc = .ok (.iand, 1)) (k : Ev l G M (pc + 1) lc (.int (x &&& y) :: st) hp cs sl R) : Ev l G M pc lc (.int y :: .int x :: st) hp cs sl R := by
  intro p e s m args below meth c H locs ls cst ws env0 hC hS hl hst hw hx0
  obtain ⟨w, r, rfl, h2, w2, r2, rfl, h3, hst⟩ := hst
  have h2 : w = .int y := h2
  have h3 : w2 = .int x := h3
  subst h2; subst h3
  exact lv_iand hC.1 hC.2.1 d (k p e s m args below meth c H locs ls _ ws env0 hC hS hl ⟨_, _, rfl, rfl, hst⟩ hw hx0)
theorem e_ior {x y : Int32} (d : decode M.2.1 pc = .ok (.ior, 1)) (k : Ev l G M (pc + 1) lc (.int (x ||| y) :: st) hp cs sl R) : Ev l G M pc lc (.int y :: .int x :: st) hp cs sl R := by
  intro p e s m args below meth c H locs ls cst ws env0 hC hS hl hst hw hx0
  obtain ⟨w, r, rfl, h2, w2, r2, rfl, h3, hst⟩ := hst
  have h2 : w = .int y := h2
  have h3 : w2 = .int x := h3
  subst h2; subst h3
  exact lv_ior hC.1 hC.2.1 d (k p e s m args below meth c H locs ls _ ws env0 hC hS hl ⟨_, _, rfl, rfl, hst⟩ hw hx0)
theorem e_ixor {x y : Int32} (d : decode M.2.1 pc = .ok (.ixor, 1)) (k : Ev l G M (pc + 1) lc (.int (x ^^^ y) :: st) hp cs sl R) : Ev l G M pc lc (.int y :: .int x :: st) hp cs sl R := by
  intro p e s m args below meth c H locs ls cst ws env0 hC hS hl hst hw hx0
  obtain ⟨w, r, rfl, h2, w2, r2, rfl, h3, hst⟩ := hst
  have h2 : w = .int y := h2
  have h3 : w2 = .int x := h3
  subst h2; subst h3
  exact lv_ixor hC.1 hC.2.1 d (k p e s m args below meth c H locs ls _ ws env0 hC hS hl ⟨_, _, rfl, rfl, hst⟩ hw hx0)
theorem e_irem {x y : Int32} (d : decode M.2.1 pc = .ok (.irem, 1)) (h0 : ¬ y = 0) (k : Ev l G M (pc + 1) lc (.int (x - x / y * y) :: st) hp cs sl R) : Ev l G M pc lc (.int y :: .int x :: st) hp cs sl R := by
  intro p e s m args below meth c H locs ls cst ws env0 hC hS hl hst hw hx0
  obtain ⟨w, r, rfl, h2, w2, r2, rfl, h3, hst⟩ := hst
  have h2 : w = .int y := h2
  have h3 : w2 = .int x := h3
  subst h2; subst h3
  exact lv_irem hC.1 hC.2.1 d h0 (k p e s m args below meth c H locs ls _ ws env0 hC hS hl ⟨_, _, rfl, rfl, hst⟩ hw hx0)
theorem e_idiv {x y : Int32} (d : decode M.2.1 pc = .ok (.idiv, 1)) (h0 : ¬ y = 0) (k : Ev l G M (pc + 1) lc (.int (x / y) :: st) hp cs sl R) : Ev l G M pc lc (.int y :: .int x :: st) hp cs sl R := by
  intro p e s m args below meth c H locs ls cst ws env0 hC hS hl hst hw hx0
  obtain ⟨w, r, rfl, h2, w2, r2, rfl, h3, hst⟩ := hst
  have h2 : w = .int y := h2
  have h3 : w2 = .int x := h3
  subst h2; subst h3
  exact lv_idiv hC.1 hC.2.1 d h0 (k p e s m args below meth c H locs ls _ ws env0 hC hS hl ⟨_, _, rfl, rfl, hst⟩ hw hx0)
theorem e_ineg {x : Int32} (d : decode M.2.1 pc = .ok (.ineg, 1)) (k : Ev l G M (pc + 1) lc (.int (-x) :: st) hp cs sl R) : Ev l G M pc lc (.int x :: st) hp cs sl R := by
  intro p e s m args below meth c H locs ls cst ws env0 hC hS hl hst hw hx0
  obtain ⟨w, r, rfl, h2, hst⟩ := hst
  have h2 : w = .int x := h2
  subst h2
  exact lv_ineg hC.1 hC.2.1 d (k p e s m args below meth c H locs ls _ ws env0 hC hS hl ⟨_, _, rfl, rfl, hst⟩ hw hx0)
theorem e_i2l {x : Int32} (d : decode M.2.1 pc = .ok (.i2l, 1)) (k : Ev l G M (pc + 1) lc (.long x.toInt64 :: st) hp cs sl R) : Ev l G M pc lc (.int x :: st) hp cs sl R := by
  intro p e s m args below meth c H locs ls cst ws env0 hC hS hl hst hw hx0
  obtain ⟨w, r, rfl, h2, hst⟩ := hst
  have h2 : w = .int x := h2
  subst h2
  exact lv_i2l hC.1 hC.2.1 d rfl (k p e s m args below meth c H locs ls _ ws env0 hC hS hl ⟨_, _, rfl, rfl, hst⟩ hw hx0)
theorem e_lcmp {x y : Int64} (d : decode M.2.1 pc = .ok (.lcmp, 1)) (k : Ev l G M (pc + 1) lc (.int (lg_cmp x y) :: st) hp cs sl R) : Ev l G M pc lc (.long y :: .long x :: st) hp cs sl R := by
  intro p e s m args below meth c H locs ls cst ws env0 hC hS hl hst hw hx0
  obtain ⟨w, r, rfl, h2, w2, r2, rfl, h3, hst⟩ := hst
  have h2 : w = .long y := h2
  have h3 : w2 = .long x := h3
  subst h2; subst h3
  exact W.lcmp hC.1 hC.2.1 d (k p e s m args below meth c H locs ls _ ws env0 hC hS hl ⟨_, _, rfl, rfl, hst⟩ hw hx0)
theorem e_dup {v : Value} (d : decode M.2.1 pc = .ok (.dup, 1)) (hv : v.category = 1) (k : Ev l G M (pc + 1) lc (v :: v :: st) hp cs sl R) : Ev l G M pc lc (v :: st) hp cs sl R := by
  intro p e s m args below meth c H locs ls cst ws env0 hC hS hl hst hw hx0
  obtain ⟨w, r, rfl, h2, hst⟩ := hst
  exact lv_dup hC.1 hC.2.1 d (h2.cat.trans hv) (k p e s m args below meth c H locs ls _ ws env0 hC hS hl ⟨_, _, rfl, h2, _, _, rfl, h2, hst⟩ hw hx0)
theorem e_pop {v : Value} (d : decode M.2.1 pc = .ok (.pop, 1)) (hv : v.category = 1) (k : Ev l G M (pc + 1) lc (st) hp cs sl R) : Ev l G M pc lc (v :: st) hp cs sl R := by
  intro p e s m args below meth c H locs ls cst ws env0 hC hS hl hst hw hx0
  obtain ⟨w, r, rfl, h2, hst⟩ := hst
  exact lv_pop hC.1 hC.2.1 d (h2.cat.trans hv) (k p e s m args below meth c H locs ls _ ws env0 hC hS hl hst hw hx0)
theorem e_dup_x1 {v u : Value} (d : decode M.2.1 pc = .ok (.dup_x1, 1)) (hv : v.category = 1) (hu : u.category = 1) (k : Ev l G M (pc + 1) lc (v :: u :: v :: st) hp cs sl R) : Ev l G M pc lc (v :: u :: st) hp cs sl R := by
  intro p e s m args below meth c H locs ls cst ws env0 hC hS hl hst hw hx0
  obtain ⟨w, r, rfl, h2, w2, r2, rfl, h3, hst⟩ := hst
  exact lv_dup_x1 hC.1 hC.2.1 d (h2.cat.trans hv) (h3.cat.trans hu) (k p e s m args below meth c H locs ls _ ws env0 hC hS hl ⟨_, _, rfl, h2, _, _, rfl, h3, _, _, rfl, h2, hst⟩ hw hx0)
theorem e_dup2 {v u : Value} (d : decode M.2.1 pc = .ok (.dup2, 1)) (hv : v.category = 1) (hu : u.category = 1) (k : Ev l G M (pc + 1) lc (v :: u :: v :: u :: st) hp cs sl R) : Ev l G M pc lc (v :: u :: st) hp cs sl R := by
  intro p e s m args below meth c H locs ls cst ws env0 hC hS hl hst hw hx0
  obtain ⟨w, r, rfl, h2, w2, r2, rfl, h3, hst⟩ := hst
  exact lv_dup2_11 hC.1 hC.2.1 d (h2.cat.trans hv) (h3.cat.trans hu) (k p e s m args below meth c H locs ls _ ws env0 hC hS hl ⟨_, _, rfl, h2, _, _, rfl, h3, _, _, rfl, h2, _, _, rfl, h3, hst⟩ hw hx0)
theorem e_goto {off : Int} {tgt : Nat} (d : decode M.2.1 pc = .ok (.goto off, 3)) (ht : (pc : Int) + off = (tgt : Int)) (k : Ev l G M tgt lc st hp cs sl R) : Ev l G M pc lc st hp cs sl R := by
  intro p e s m args below meth c H locs ls cst ws env0 hC hS hl hst hw hx0
  exact lv_goto hC.1 hC.2.1 d ht (k p e s m args below meth c H locs ls _ ws env0 hC hS hl hst hw hx0)
theorem e_if_eq {x : Int32} {off : Int} {tgt : Nat} (d : decode M.2.1 pc = .ok (.ifCond .eq off, 3)) (ht : (pc : Int) + off = (tgt : Int)) (kt : x = 0 → Ev l G M tgt lc st hp cs sl R) (kf : ¬ x = 0 → Ev l G M (pc + 3) lc st hp cs sl R) : Ev l G M pc lc (.int x :: st) hp cs sl R := by
  intro p e s m args below meth c H locs ls cst ws env0 hC hS hl hst hw hx0
  obtain ⟨w, r, rfl, h2, hst⟩ := hst
  have h2 : w = .int x := h2
  subst h2
  exact lv_if_eq hC.1 hC.2.1 d ht (fun q => kt q p e s m args below meth c H locs ls _ ws env0 hC hS hl hst hw hx0) (fun q => kf q p e s m args below meth c H locs ls _ ws env0 hC hS hl hst hw hx0)
theorem e_if_ne {x : Int32} {off : Int} {tgt : Nat} (d : decode M.2.1 pc = .ok (.ifCond .ne off, 3)) (ht : (pc : Int) + off = (tgt : Int)) (kt : ¬ x = 0 → Ev l G M tgt lc st hp cs sl R) (kf : x = 0 → Ev l G M (pc + 3) lc st hp cs sl R) : Ev l G M pc lc (.int x :: st) hp cs sl R := by
  intro p e s m args below meth c H locs ls cst ws env0 hC hS hl hst hw hx0
  obtain ⟨w, r, rfl, h2, hst⟩ := hst
  have h2 : w = .int x := h2
  subst h2
  exact lv_if_ne hC.1 hC.2.1 d ht (fun q => kt q p e s m args below meth c H locs ls _ ws env0 hC hS hl hst hw hx0) (fun q => kf q p e s m args below meth c H locs ls _ ws env0 hC hS hl hst hw hx0)
theorem e_if_lt {x : Int32} {off : Int} {tgt : Nat} (d : decode M.2.1 pc = .ok (.ifCond .lt off, 3)) (ht : (pc : Int) + off = (tgt : Int)) (kt : x < 0 → Ev l G M tgt lc st hp cs sl R) (kf : ¬ x < 0 → Ev l G M (pc + 3) lc st hp cs sl R) : Ev l G M pc lc (.int x :: st) hp cs sl R := by
  intro p e s m args below meth c H locs ls cst ws env0 hC hS hl hst hw hx0
  obtain ⟨w, r, rfl, h2, hst⟩ := hst
  have h2 : w = .int x := h2
  subst h2
  exact lv_if_lt hC.1 hC.2.1 d ht (fun q => kt q p e s m args below meth c H locs ls _ ws env0 hC hS hl hst hw hx0) (fun q => kf q p e s m args below meth c H locs ls _ ws env0 hC hS hl hst hw hx0)
theorem e_if_ge {x : Int32} {off : Int} {tgt : Nat} (d : decode M.2.1 pc = .ok (.ifCond .ge off, 3)) (ht : (pc : Int) + off = (tgt : Int)) (kt : 0 ≤ x → Ev l G M tgt lc st hp cs sl R) (kf : ¬ 0 ≤ x → Ev l G M (pc + 3) lc st hp cs sl R) : Ev l G M pc lc (.int x :: st) hp cs sl R := by
  intro p e s m args below meth c H locs ls cst ws env0 hC hS hl hst hw hx0
  obtain ⟨w, r, rfl, h2, hst⟩ := hst
  have h2 : w = .int x := h2
  subst h2
  exact lv_if_ge hC.1 hC.2.1 d ht (fun q => kt q p e s m args below meth c H locs ls _ ws env0 hC hS hl hst hw hx0) (fun q => kf q p e s m args below meth c H locs ls _ ws env0 hC hS hl hst hw hx0)
theorem e_if_gt {x : Int32} {off : Int} {tgt : Nat} (d : decode M.2.1 pc = .ok (.ifCond .gt off, 3)) (ht : (pc : Int) + off = (tgt : Int)) (kt : 0 < x → Ev l G M tgt lc st hp cs sl R) (kf : ¬ 0 < x → Ev l G M (pc + 3) lc st hp cs sl R) : Ev l G M pc lc (.int x :: st) hp cs sl R := by
  intro p e s m args below meth c H locs ls cst ws env0 hC hS hl hst hw hx0
  obtain ⟨w, r, rfl, h2, hst⟩ := hst
  have h2 : w = .int x := h2
  subst h2
  exact lv_if_gt hC.1 hC.2.1 d ht (fun q => kt q p e s m args below meth c H locs ls _ ws env0 hC hS hl hst hw hx0) (fun q => kf q p e s m args below meth c H locs ls _ ws env0 hC hS hl hst hw hx0)
theorem e_if_le {x : Int32} {off : Int} {tgt : Nat} (d : decode M.2.1 pc = .ok (.ifCond .le off, 3)) (ht : (pc : Int) + off = (tgt : Int)) (kt : x ≤ 0 → Ev l G M tgt lc st hp cs sl R) (kf : ¬ x ≤ 0 → Ev l G M (pc + 3) lc st hp cs sl R) : Ev l G M pc lc (.int x :: st) hp cs sl R := by
  intro p e s m args below meth c H locs ls cst ws env0 hC hS hl hst hw hx0
  obtain ⟨w, r, rfl, h2, hst⟩ := hst
  have h2 : w = .int x := h2
  subst h2
  exact lv_if_le hC.1 hC.2.1 d ht (fun q => kt q p e s m args below meth c H locs ls _ ws env0 hC hS hl hst hw hx0) (fun q => kf q p e s m args below meth c H locs ls _ ws env0 hC hS hl hst hw hx0)
theorem e_icmp_eq {x y : Int32} {off : Int} {tgt : Nat} (d : decode M.2.1 pc = .ok (.if_icmp .eq off, 3)) (ht : (pc : Int) + off = (tgt : Int)) (kt : x = y → Ev l G M tgt lc st hp cs sl R) (kf : ¬ x = y → Ev l G M (pc + 3) lc st hp cs sl R) : Ev l G M pc lc (.int y :: .int x :: st) hp cs sl R := by
  intro p e s m args below meth c H locs ls cst ws env0 hC hS hl hst hw hx0
  obtain ⟨w, r, rfl, h2, w2, r2, rfl, h3, hst⟩ := hst
  have h2 : w = .int y := h2
  have h3 : w2 = .int x := h3
  subst h2; subst h3
  exact lv_icmp_eq hC.1 hC.2.1 d ht (fun q => kt q p e s m args below meth c H locs ls _ ws env0 hC hS hl hst hw hx0) (fun q => kf q p e s m args below meth c H locs ls _ ws env0 hC hS hl hst hw hx0)
theorem e_icmp_ne {x y : Int32} {off : Int} {tgt : Nat} (d : decode M.2.1 pc = .ok (.if_icmp .ne off, 3)) (ht : (pc : Int) + off = (tgt : Int)) (kt : ¬ x = y → Ev l G M tgt lc st hp cs sl R) (kf : x = y → Ev l G M (pc + 3) lc st hp cs sl R) : Ev l G M pc lc (.int y :: .int x :: st) hp cs sl R := by
  intro p e s m args below meth c H locs ls cst ws env0 hC hS hl hst hw hx0
  obtain ⟨w, r, rfl, h2, w2, r2, rfl, h3, hst⟩ := hst
  have h2 : w = .int y := h2
  have h3 : w2 = .int x := h3
  subst h2; subst h3
  exact lv_icmp_ne hC.1 hC.2.1 d ht (fun q => kt q p e s m args below meth c H locs ls _ ws env0 hC hS hl hst hw hx0) (fun q => kf q p e s m args below meth c H locs ls _ ws env0 hC hS hl hst hw hx0)
theorem e_icmp_lt {x y : Int32} {off : Int} {tgt : Nat} (d : decode M.2.1 pc = .ok (.if_icmp .lt off, 3)) (ht : (pc : Int) + off = (tgt : Int)) (kt : x < y → Ev l G M tgt lc st hp cs sl R) (kf : ¬ x < y → Ev l G M (pc + 3) lc st hp cs sl R) : Ev l G M pc lc (.int y :: .int x :: st) hp cs sl R := by
  intro p e s m args below meth c H locs ls cst ws env0 hC hS hl hst hw hx0
  obtain ⟨w, r, rfl, h2, w2, r2, rfl, h3, hst⟩ := hst
  have h2 : w = .int y := h2
  have h3 : w2 = .int x := h3
  subst h2; subst h3
  exact lv_icmp_lt hC.1 hC.2.1 d ht (fun q => kt q p e s m args below meth c H locs ls _ ws env0 hC hS hl hst hw hx0) (fun q => kf q p e s m args below meth c H locs ls _ ws env0 hC hS hl hst hw hx0)
theorem e_icmp_ge {x y : Int32} {off : Int} {tgt : Nat} (d : decode M.2.1 pc = .ok (.if_icmp .ge off, 3)) (ht : (pc : Int) + off = (tgt : Int)) (kt : y ≤ x → Ev l G M tgt lc st hp cs sl R) (kf : ¬ y ≤ x → Ev l G M (pc + 3) lc st hp cs sl R) : Ev l G M pc lc (.int y :: .int x :: st) hp cs sl R := by
  intro p e s m args below meth c H locs ls cst ws env0 hC hS hl hst hw hx0
  obtain ⟨w, r, rfl, h2, w2, r2, rfl, h3, hst⟩ := hst
  have h2 : w = .int y := h2
  have h3 : w2 = .int x := h3
  subst h2; subst h3
  exact lv_icmp_ge hC.1 hC.2.1 d ht (fun q => kt q p e s m args below meth c H locs ls _ ws env0 hC hS hl hst hw hx0) (fun q => kf q p e s m args below meth c H locs ls _ ws env0 hC hS hl hst hw hx0)
theorem e_icmp_gt {x y : Int32} {off : Int} {tgt : Nat} (d : decode M.2.1 pc = .ok (.if_icmp .gt off, 3)) (ht : (pc : Int) + off = (tgt : Int)) (kt : y < x → Ev l G M tgt lc st hp cs sl R) (kf : ¬ y < x → Ev l G M (pc + 3) lc st hp cs sl R) : Ev l G M pc lc (.int y :: .int x :: st) hp cs sl R := by
  intro p e s m args below meth c H locs ls cst ws env0 hC hS hl hst hw hx0
  obtain ⟨w, r, rfl, h2, w2, r2, rfl, h3, hst⟩ := hst
  have h2 : w = .int y := h2
  have h3 : w2 = .int x := h3
  subst h2; subst h3
  exact lv_icmp_gt hC.1 hC.2.1 d ht (fun q => kt q p e s m args below meth c H locs ls _ ws env0 hC hS hl hst hw hx0) (fun q => kf q p e s m args below meth c H locs ls _ ws env0 hC hS hl hst hw hx0)
theorem e_icmp_le {x y : Int32} {off : Int} {tgt : Nat} (d : decode M.2.1 pc = .ok (.if_icmp .le off, 3)) (ht : (pc : Int) + off = (tgt : Int)) (kt : x ≤ y → Ev l G M tgt lc st hp cs sl R) (kf : ¬ x ≤ y → Ev l G M (pc + 3) lc st hp cs sl R) : Ev l G M pc lc (.int y :: .int x :: st) hp cs sl R := by
  intro p e s m args below meth c H locs ls cst ws env0 hC hS hl hst hw hx0
  obtain ⟨w, r, rfl, h2, w2, r2, rfl, h3, hst⟩ := hst
  have h2 : w = .int y := h2
  have h3 : w2 = .int x := h3
  subst h2; subst h3
  exact lv_icmp_le hC.1 hC.2.1 d ht (fun q => kt q p e s m args below meth c H locs ls _ ws env0 hC hS hl hst hw hx0) (fun q => kf q p e s m args below meth c H locs ls _ ws env0 hC hS hl hst hw hx0)
theorem zC.I {p : Program} {s : State} {m : MethodId} {args : Array Value} {meth : Method} {c : Code} (h : zC l G M p s m args meth c) : zI l G s s.heap := h.2.2.2.2.2.2.2.2.2
theorem zC.K {p : Program} {s : State} {m : MethodId} {args : Array Value} {meth : Method} {c : Code} (h : zC l G M p s m args meth c) : va_K G.1 zCl (zTy G) s := h.I.2.1
theorem zC.ts {p : Program} {s : State} {m : MethodId} {args : Array Value} {meth : Method} {c : Code} (h : zC l G M p s m args meth c) : ∀ w ∈ M.2.2.2.2.1, w.before args s = true := h.2.2.2.1
theorem zC.own {p : Program} {s : State} {m : MethodId} {args : Array Value} {meth : Method} {c : Code} (h : zC l G M p s m args meth c) : s.vm.findClass M.1.cls = some m.cls := h.2.2.2.2.1
theorem zC.lk {p : Program} {s : State} {m : MethodId} {args : Array Value} {meth : Method} {c : Code} (h : zC l G M p s m args meth c) : meth.locks = false := h.2.2.2.2.2.2.1
theorem zC.new {p : Program} {s : State} {m : MethodId} {args : Array Value} {meth : Method} {c : Code} (h : zC l G M p s m args meth c) : ∀ q, s.heap.size ≤ q → zA G q := fun q hq => Nat.le_trans h.I.2.2.1 hq
theorem zS.ref {i : Nat} {ws : va_W} {H : Heap} {w : Value} (h : zV G (zN ws) (.ref i) w) (hw : zW G hp ws H) {e : va_E} (he : hp[i]? = some e) : ∃ a y, w = .ref a ∧ ws[i]? = some (a, y) ∧ zE G (zN ws) e y := by
  obtain ⟨a, ha, rfl⟩ := h
  obtain ⟨b, y, h1, h2⟩ := hw.2.2.2 i _ he
  have hab : b = a := by have h9 := zN.at h1; rw [ha] at h9; exact (Option.some.inj h9).symm
  subst hab
  exact ⟨b, y, rfl, h1, h2⟩
/-- the site of a getfield -/
def zGet (M : zMI) (pc ci q : Nat) : Prop := ∃ (idx : Nat) (C : String) (T : u_T) (N : Nat), decode M.2.1 pc = .ok (.getfield idx, 3) ∧ zCl[ci]? = some (C, T, N) ∧ q < N ∧ (∀ w ∈ u_ws C T N, w ∈ M.2.2.2.2.1) ∧ Cond.fieldLink M.1.cls idx (T q).1 (T q).2.1 (T q).2.2.1 ∈ M.2.2.2.2.1
theorem e_get {ci q i : Nat} {fs : List Value} {v : Value} (d : zGet M pc ci q) (he : hp[i]? = some (.inr (ci, fs))) (hv : fs[q]? = some v) (k : Ev l G M (pc + 3) lc (v :: st) hp cs sl R) : Ev l G M pc lc (.ref i :: st) hp cs sl R := by
  obtain ⟨idx, C, T, N, d, hc, hq, hin, hlink⟩ := d
  intro p e s m args below meth c H locs ls cst ws env0 hC hS hl hst hw hx0
  obtain ⟨x, r, rfl, h2, hst⟩ := hst
  obtain ⟨a, y, rfl, h1, gs, rfl, h3⟩ := zS.ref h2 hw he
  obtain ⟨v', q1, q2⟩ := h3.2 q v hv
  exact va_get hC.1 hC.2.1 hC.ts hin hC.own hC.K hw.1 i h1 hc q hq (hC.ts _ hlink) (fun _ h => h) q1 d (k p e s m args below meth c H locs ls _ ws env0 hC hS hl ⟨_, _, rfl, q2, hst⟩ hw hx0)
def zFit (G : zGP) (ty : FieldType) (v : Value) : Prop := ∀ (env : List Nat) (w : Value), zV G env v w → narrow ty w = w ∧ fits ty w = true
theorem zFit.int {x : Int32} : zFit G .int (.int x) := fun _ w h => by have h : w = .int x := h; subst h; exact ⟨rfl, rfl⟩
theorem zFit.z0 : zFit G .boolean (.int 0) := fun _ w h => by have h : w = .int 0 := h; subst h; exact ⟨by decide, by decide⟩
theorem zFit.z1 : zFit G .boolean (.int 1) := fun _ w h => by have h : w = .int 1 := h; subst h; exact ⟨by decide, by decide⟩
theorem zFit.obj {C : String} {i : Nat} : zFit G (.object C) (.ref i) := fun _ w h => by obtain ⟨a, -, rfl⟩ := h; exact ⟨rfl, rfl⟩
theorem zFit.arr {t : FieldType} {i : Nat} : zFit G (.array t) (.ref i) := fun _ w h => by obtain ⟨a, -, rfl⟩ := h; exact ⟨rfl, rfl⟩
/-- the site of a putfield -/
def zPut (M : zMI) (pc ci q : Nat) (ty : FieldType) : Prop := ∃ (idx : Nat) (C : String) (T : u_T) (N : Nat) (ty0 : Nat → FieldType), decode M.2.1 pc = .ok (.putfield idx, 3) ∧ zCl[ci]? = some (C, T, N) ∧ q < N ∧ (∀ w ∈ u_ws C T N, w ∈ M.2.2.2.2.1) ∧ Cond.fieldLink M.1.cls idx (T q).1 (T q).2.1 (T q).2.2.1 ∈ M.2.2.2.2.1 ∧
  (∀ k, k < N → parseFieldDescriptor (T k).2.2.1 = some (ty0 k)) ∧ (∀ a, a < N → ∀ b, b < N → a ≠ b → (T a).2.1 ≠ (T b).2.1) ∧ parseFieldDescriptor (T q).2.2.1 = some ty ∧ ((T q).2.2.2 = false ∨ ((T q).2.2.2 = true ∧ M.1.name = "<init>" ∧ (T q).1 = M.1.cls))
theorem e_put {ci q i : Nat} {ty : FieldType} {fs : List Value} {v : Value} {hp' : List va_E} (d : zPut M pc ci q ty) (he : hp[i]? = some (.inr (ci, fs))) (hlt : q < fs.length) (hf : zFit G ty v) (hh : hp.set i (.inr (ci, fs.set q v)) = hp') (k : Ev l G M (pc + 3) lc st hp' cs sl R) : Ev l G M pc lc (v :: .ref i :: st) hp cs sl R := by
  subst hh
  obtain ⟨idx, C, T, N, ty0, d, hc, hq, hin, hlink, hty, hnm, hd, hfin⟩ := d
  intro p e s m args below meth c H locs ls cst ws env0 hC hS hl hst hw hx0
  obtain ⟨v', r, rfl, hv, x, r2, rfl, h2, hst⟩ := hst
  obtain ⟨a, y, rfl, h1, gs, rfl, h3⟩ := zS.ref h2 hw he
  obtain ⟨n1, n2⟩ := hf _ _ hv
  have hkk : ∀ (H1 : Heap) (locs1 : List Loc), va_P G.1 zCl (ws.set i (a, .inr (ci, gs.set q v'))) H1 → va_D (zA G) (ws.set i (a, .inr (ci, gs.set q v'))) → va_S (zA G) s.heap H1 locs1 → W p l e M.2.2.2.2.2.1 s m args below meth c H1 locs1 cs sl (vx_MQ below (zQc G env0 R) (zXc G env0 R) args s M.2.2.2.2.2.1.cells M.2.2.2.2.2.1.slots (zA G)) (F0 m (pc + 3) ls r2) := by
    intro H1 locs1 hP hD hS1
    have hN : zN (ws.set i (a, .inr (ci, gs.set q v'))) = zN ws := zN.set h1
    have hw' := zW.set (e := .inr (ci, fs)) (e' := .inr (ci, fs.set q v)) hw h1 ⟨_, rfl, h3.set hv⟩ hP hD
    exact k p e s m args below meth c H1 locs1 ls _ _ env0 hC hS1 (by rw [hN]; exact hl) (by rw [hN]; exact hst) hw' (by rw [hN]; exact hx0)
  rcases hfin with hfin | ⟨hfin, hnm2, hdecl⟩
  · exact va_put hC.1 hC.2.1 hC.ts hin ty0 hty hnm hC.own hC.K hw.1 hw.2.1 hS i h1 hc q hq (hC.ts _ hlink) (fun _ h => h) hfin hd n1 n2 (by rw [h3.1]; exact hlt) d hkk
  · exact va_putF hC.1 hC.2.1 hC.ts hin ty0 hty hnm hC.own hC.K hw.1 hw.2.1 hS i h1 hc q hq (hC.ts _ hlink) (fun _ h => h) hfin (hC.2.2.2.2.2.2.2.1.trans hnm2) hdecl hd n1 n2 (by rw [h3.1]; exact hlt) d hkk
theorem zTy0 : (zTy G)[0]? = some (G.2.1 0, .int) := rfl
theorem zTy1 : (zTy G)[1]? = some (G.2.1 1, .long) := rfl
theorem zTy2 : (zTy G)[2]? = some (G.2.1 2, .boolean) := rfl
theorem e_iald {i n : Nat} {f : Nat → Int32} {j x : Int32} (d : decode M.2.1 pc = .ok (.iaload, 1)) (he : hp[i]? = some (.inl (0, n, .inl f))) (hin : vp_in j n) (hx : f j.toNatClampNeg = x) (k : Ev l G M (pc + 1) lc (.int x :: st) hp cs sl R) : Ev l G M pc lc (.int j :: .ref i :: st) hp cs sl R := by
  subst hx
  intro p e s m args below meth c H locs ls cst ws env0 hC hS hl hst hw hx0
  obtain ⟨w, r, rfl, h2, w2, r2, rfl, h3, hst⟩ := hst
  have h2 : w = .int j := h2
  subst h2
  obtain ⟨a, y, rfl, h1, h4⟩ := zS.ref h3 hw he
  have h4 : y = .inl (G.2.1 0, n, .inl f) := h4
  subst h4
  exact va_iald hC.1 hC.2.1 hC.K hw.1 i 0 h1 zTy0 hin d (k p e s m args below meth c H locs ls _ ws env0 hC hS hl ⟨_, _, rfl, rfl, hst⟩ hw hx0)
theorem e_zald {i n : Nat} {f : Nat → Int32} {j x : Int32} (d : decode M.2.1 pc = .ok (.baload, 1)) (he : hp[i]? = some (.inl (2, n, .inl f))) (hin : vp_in j n) (hx : f j.toNatClampNeg = x) (k : Ev l G M (pc + 1) lc (.int x :: st) hp cs sl R) : Ev l G M pc lc (.int j :: .ref i :: st) hp cs sl R := by
  subst hx
  intro p e s m args below meth c H locs ls cst ws env0 hC hS hl hst hw hx0
  obtain ⟨w, r, rfl, h2, w2, r2, rfl, h3, hst⟩ := hst
  have h2 : w = .int j := h2
  subst h2
  obtain ⟨a, y, rfl, h1, h4⟩ := zS.ref h3 hw he
  have h4 : y = .inl (G.2.1 2, n, .inl f) := h4
  subst h4
  exact va_zald hC.1 hC.2.1 hC.K hw.1 i 2 h1 zTy2 hin d (k p e s m args below meth c H locs ls _ ws env0 hC hS hl ⟨_, _, rfl, rfl, hst⟩ hw hx0)
theorem e_lald {i n : Nat} {f : Nat → Int64} {j : Int32} {x : Int64} (d : decode M.2.1 pc = .ok (.laload, 1)) (he : hp[i]? = some (.inl (1, n, .inr (.inl f)))) (hin : vp_in j n) (hx : f j.toNatClampNeg = x) (k : Ev l G M (pc + 1) lc (.long x :: st) hp cs sl R) : Ev l G M pc lc (.int j :: .ref i :: st) hp cs sl R := by
  subst hx
  intro p e s m args below meth c H locs ls cst ws env0 hC hS hl hst hw hx0
  obtain ⟨w, r, rfl, h2, w2, r2, rfl, h3, hst⟩ := hst
  have h2 : w = .int j := h2
  subst h2
  obtain ⟨a, y, rfl, h1, h4⟩ := zS.ref h3 hw he
  have h4 : y = .inl (G.2.1 1, n, .inr (.inl f)) := h4
  subst h4
  exact va_lald hC.1 hC.2.1 hC.K hw.1 i 1 h1 zTy1 hin d (k p e s m args below meth c H locs ls _ ws env0 hC hS hl ⟨_, _, rfl, rfl, hst⟩ hw hx0)
theorem e_aald {i n t r0 : Nat} {f : Nat → Option Nat} {j : Int32} {C : String} (d : decode M.2.1 pc = .ok (.aaload, 1)) (he : hp[i]? = some (.inl (t, n, .inr (.inr (.inr (.inr f)))))) (ht : (zTy G)[t]? = some (G.2.1 t, .object C)) (hin : vp_in j n) (hx : f j.toNatClampNeg = some r0) (k : Ev l G M (pc + 1) lc (.ref r0 :: st) hp cs sl R) : Ev l G M pc lc (.int j :: .ref i :: st) hp cs sl R := by
  intro p e s m args below meth c H locs ls cst ws env0 hC hS hl hst hw hx0
  obtain ⟨w, r, rfl, h2, w2, r2, rfl, h3, hst⟩ := hst
  have h2 : w = .int j := h2
  subst h2
  obtain ⟨a, y, rfl, h1, g, rfl, h4⟩ := zS.ref h3 hw he
  have h5 := h4 j.toNatClampNeg
  rw [hx] at h5
  obtain ⟨b, q1, q2⟩ := h5
  refine va_aldq hC.1 hC.2.1 hC.K hw.1 i t h1 ht hin d ?_
  rw [q2]
  exact k p e s m args below meth c H locs ls _ ws env0 hC hS hl ⟨_, _, rfl, ⟨b, q1, rfl⟩, hst⟩ hw hx0
theorem e_iast {i n : Nat} {f : Nat → Int32} {j x : Int32} {hp' : List va_E} (d : decode M.2.1 pc = .ok (.iastore, 1)) (he : hp[i]? = some (.inl (0, n, .inl f))) (hin : vp_in j n) (hh : hp.set i (.inl (0, n, .inl (upd f j.toNatClampNeg x))) = hp') (k : Ev l G M (pc + 1) lc st hp' cs sl R) : Ev l G M pc lc (.int x :: .int j :: .ref i :: st) hp cs sl R := by
  subst hh
  intro p e s m args below meth c H locs ls cst ws env0 hC hS hl hst hw hx0
  obtain ⟨w0, r0, rfl, h0, w, r, rfl, h2, w2, r2, rfl, h3, hst⟩ := hst
  have h2 : w = .int j := h2
  have h0 : w0 = .int x := h0
  subst h2; subst h0
  obtain ⟨a, y, rfl, h1, h4⟩ := zS.ref h3 hw he
  have h4 : y = .inl (G.2.1 0, n, .inl f) := h4
  subst h4
  refine va_iast hC.1 hC.2.1 hC.K hw.1 hw.2.1 hS i 0 h1 zTy0 hin d (fun H1 locs1 hP hD hS1 => ?_)
  have hN : zN (ws.set i (a, .inl (G.2.1 0, n, .inl (upd f j.toNatClampNeg x)))) = zN ws := zN.set h1
  have hw' := zW.set (e := .inl (0, n, .inl f)) (e' := .inl (0, n, .inl (upd f j.toNatClampNeg x))) hw h1 rfl hP hD
  exact k p e s m args below meth c H1 locs1 ls _ _ env0 hC hS1 (by rw [hN]; exact hl) (by rw [hN]; exact hst) hw' (by rw [hN]; exact hx0)
theorem e_zast {i n : Nat} {f : Nat → Int32} {j x : Int32} {hp' : List va_E} (d : decode M.2.1 pc = .ok (.bastore, 1)) (he : hp[i]? = some (.inl (2, n, .inl f))) (hin : vp_in j n) (hx : x = 0 ∨ x = 1) (hh : hp.set i (.inl (2, n, .inl (upd f j.toNatClampNeg x))) = hp') (k : Ev l G M (pc + 1) lc st hp' cs sl R) : Ev l G M pc lc (.int x :: .int j :: .ref i :: st) hp cs sl R := by
  subst hh
  intro p e s m args below meth c H locs ls cst ws env0 hC hS hl hst hw hx0
  obtain ⟨w0, r0, rfl, h0, w, r, rfl, h2, w2, r2, rfl, h3, hst⟩ := hst
  have h2 : w = .int j := h2
  have h0 : w0 = .int x := h0
  subst h2; subst h0
  obtain ⟨a, y, rfl, h1, h4⟩ := zS.ref h3 hw he
  have h4 : y = .inl (G.2.1 2, n, .inl f) := h4
  subst h4
  refine va_zast hC.1 hC.2.1 hC.K hw.1 hw.2.1 hS i 2 h1 zTy2 hin d (fun H1 locs1 hP hD hS1 => ?_)
  have hnar : vp_nar .boolean x = x := by rcases hx with rfl | rfl <;> decide
  rw [hnar] at hP hD
  have hN : zN (ws.set i (a, .inl (G.2.1 2, n, .inl (upd f j.toNatClampNeg x)))) = zN ws := zN.set h1
  have hw' := zW.set (e := .inl (2, n, .inl f)) (e' := .inl (2, n, .inl (upd f j.toNatClampNeg x))) hw h1 rfl hP hD
  exact k p e s m args below meth c H1 locs1 ls _ _ env0 hC hS1 (by rw [hN]; exact hl) (by rw [hN]; exact hst) hw' (by rw [hN]; exact hx0)
theorem e_last {i n : Nat} {f : Nat → Int64} {j : Int32} {x : Int64} {hp' : List va_E} (d : decode M.2.1 pc = .ok (.lastore, 1)) (he : hp[i]? = some (.inl (1, n, .inr (.inl f)))) (hin : vp_in j n) (hh : hp.set i (.inl (1, n, .inr (.inl (vp_updL f j.toNatClampNeg x)))) = hp') (k : Ev l G M (pc + 1) lc st hp' cs sl R) : Ev l G M pc lc (.long x :: .int j :: .ref i :: st) hp cs sl R := by
  subst hh
  intro p e s m args below meth c H locs ls cst ws env0 hC hS hl hst hw hx0
  obtain ⟨w0, r0, rfl, h0, w, r, rfl, h2, w2, r2, rfl, h3, hst⟩ := hst
  have h2 : w = .int j := h2
  have h0 : w0 = .long x := h0
  subst h2; subst h0
  obtain ⟨a, y, rfl, h1, h4⟩ := zS.ref h3 hw he
  have h4 : y = .inl (G.2.1 1, n, .inr (.inl f)) := h4
  subst h4
  refine va_last hC.1 hC.2.1 hC.K hw.1 hw.2.1 hS i 1 h1 zTy1 hin d (fun H1 locs1 hP hD hS1 => ?_)
  have hN : zN (ws.set i (a, .inl (G.2.1 1, n, .inr (.inl (vp_updL f j.toNatClampNeg x))))) = zN ws := zN.set h1
  have hw' := zW.set (e := .inl (1, n, .inr (.inl f))) (e' := .inl (1, n, .inr (.inl (vp_updL f j.toNatClampNeg x)))) hw h1 rfl hP hD
  exact k p e s m args below meth c H1 locs1 ls _ _ env0 hC hS1 (by rw [hN]; exact hl) (by rw [hN]; exact hst) hw' (by rw [hN]; exact hx0)
theorem e_aast {i n t r0 ci : Nat} {f : Nat → Option Nat} {j : Int32} {q : vw_C} {vs : List Value} {hp' : List va_E} (d : decode M.2.1 pc = .ok (.aastore, 1)) (he : hp[i]? = some (.inl (t, n, .inr (.inr (.inr (.inr f)))))) (ht : (zTy G)[t]? = some (G.2.1 t, .object q.1)) (hv : hp[r0]? = some (.inr (ci, vs))) (hc : zCl[ci]? = some q) (hin : vp_in j n) (hh : hp.set i (.inl (t, n, .inr (.inr (.inr (.inr (va_up f j.toNatClampNeg (some r0))))))) = hp') (k : Ev l G M (pc + 1) lc st hp' cs sl R) : Ev l G M pc lc (.ref r0 :: .int j :: .ref i :: st) hp cs sl R := by
  subst hh
  intro p e s m args below meth c H locs ls cst ws env0 hC hS hl hst hw hx0
  obtain ⟨w0, rr0, rfl, h0, w, r, rfl, h2, w2, r2, rfl, h3, hst⟩ := hst
  have h2 : w = .int j := h2
  subst h2
  obtain ⟨a, y, rfl, h1, g, rfl, h4⟩ := zS.ref h3 hw he
  obtain ⟨b, y2, rfl, h5, gs, rfl, h6⟩ := zS.ref h0 hw hv
  refine va_astq hC.1 hC.2.1 hC.K hw.1 hw.2.1 hS i t r0 ci h1 ht h5 hc hin d (fun H1 locs1 hP hD hS1 => ?_)
  have hN : zN (ws.set i (a, .inl (G.2.1 t, n, .inr (.inr (.inr (.inr (va_up g j.toNatClampNeg (some b)))))))) = zN ws := zN.set h1
  have hw' := zW.set (e := .inl (t, n, .inr (.inr (.inr (.inr f))))) (e' := .inl (t, n, .inr (.inr (.inr (.inr (va_up f j.toNatClampNeg (some r0))))))) hw h1 ⟨_, rfl, fun z => by
    unfold va_up
    by_cases hz : z = j.toNatClampNeg
    · rw [if_pos hz, if_pos hz]; exact ⟨b, zN.at h5, rfl⟩
    · rw [if_neg hz, if_neg hz]; exact h4 z⟩ hP hD
  exact k p e s m args below meth c H1 locs1 ls _ _ env0 hC hS1 (by rw [hN]; exact hl) (by rw [hN]; exact hst) hw' (by rw [hN]; exact hx0)
theorem e_alen {i t n : Nat} {x : (Nat → Int32) ⊕ (Nat → Int64) ⊕ (Nat → UInt32) ⊕ (Nat → UInt64) ⊕ (Nat → Option Nat)} {ty : FieldType} {v : Int32} (d : decode M.2.1 pc = .ok (.arraylength, 1)) (he : hp[i]? = some (.inl (t, n, x))) (ht : (zTy G)[t]? = some (G.2.1 t, ty)) (hv : Int32.ofNat n = v) (k : Ev l G M (pc + 1) lc (.int v :: st) hp cs sl R) : Ev l G M pc lc (.ref i :: st) hp cs sl R := by
  intro p e s m args below meth c H locs ls cst ws env0 hC hS hl hst hw hx0
  obtain ⟨w, r, rfl, h2, hst⟩ := hst
  obtain ⟨a, y, rfl, h1, h4⟩ := zS.ref h2 hw he
  have hy : ∃ x', y = .inl (G.2.1 t, n, x') := by
    match x, h4 with
    | .inl f, h4 => exact ⟨_, h4⟩
    | .inr (.inl f), h4 => exact ⟨_, h4⟩
    | .inr (.inr (.inl f)), h4 => exact absurd h4 (fun z => z)
    | .inr (.inr (.inr (.inl f))), h4 => exact absurd h4 (fun z => z)
    | .inr (.inr (.inr (.inr f))), h4 => obtain ⟨g, h5, -⟩ := h4; exact ⟨_, h5⟩
  obtain ⟨x', rfl⟩ := hy
  exact va_alen hC.1 hC.2.1 hC.K hw.1 i t h1 ht hv d (k p e s m args below meth c H locs ls _ ws env0 hC hS hl ⟨_, _, rfl, rfl, hst⟩ hw hx0)
theorem e_sld {i : Nat} {j x : Int32} (d : decode M.2.1 pc = .ok (.iaload, 1)) (hin : vp_in j G.2.2.2.2.1) (hx : G.2.2.2.2.2.1 j.toNatClampNeg = x) (k : Ev l G M (pc + 1) lc (.int x :: st) hp cs sl R) : Ev l G M pc lc (.int j :: .retAddr i :: st) hp cs sl R := by
  subst hx
  intro p e s m args below meth c H locs ls cst ws env0 hC hS hl hst hw hx0
  obtain ⟨w, r, rfl, h2, w2, r2, rfl, h3, hst⟩ := hst
  have h2 : w = .int j := h2
  have h3 : w2 = .ref G.2.2.2.1 := h3
  subst h2; subst h3
  exact va_sld hC.1 hC.2.1 hC.I.2.2.2.2.1 (Nat.lt_of_lt_of_le hC.I.2.2.2.1 hC.I.2.2.1) (Nat.not_le.mpr hC.I.2.2.2.1) hS hin d (k p e s m args below meth c H locs ls _ ws env0 hC hS hl ⟨_, _, rfl, rfl, hst⟩ hw hx0)
theorem e_slen {i : Nat} {v : Int32} (d : decode M.2.1 pc = .ok (.arraylength, 1)) (hv : Int32.ofNat G.2.2.2.2.1 = v) (k : Ev l G M (pc + 1) lc (.int v :: st) hp cs sl R) : Ev l G M pc lc (.retAddr i :: st) hp cs sl R := by
  subst hv
  intro p e s m args below meth c H locs ls cst ws env0 hC hS hl hst hw hx0
  obtain ⟨w, r, rfl, h2, hst⟩ := hst
  have h2 : w = .ref G.2.2.2.1 := h2
  subst h2
  exact va_slen hC.1 hC.2.1 hC.I.2.2.2.2.1 (Nat.lt_of_lt_of_le hC.I.2.2.2.1 hC.I.2.2.1) (Nat.not_le.mpr hC.I.2.2.2.1) hS d (k p e s m args below meth c H locs ls _ ws env0 hC hS hl ⟨_, _, rfl, rfl, hst⟩ hw hx0)
/-- new cells -/
theorem zNewK {p : Program} {e : Env} {s : State} {m : MethodId} {args : Array Value} {below : List Frame} {meth : Method} {c : Code} {H H1 : Heap} {locs : List Loc} {ls : Array Slot} {cst : List Value} {ws : va_W} {env0 : List Nat} {q : Nat} {x y : va_E} {cs' sl' pc' : Nat}
    (hC : zC l G M p s m args meth c) (hl : zL G (zN ws) M.2.2.1 ls lc) (hst : zS G (zN ws) st cst) (hw : zW G hp ws H) (hx0 : zX env0 (zN ws)) (hE : ∀ env, zE G env x y) (hP : va_P G.1 zCl (ws ++ [(q, y)]) H1) (hD : va_D (zA G) (ws ++ [(q, y)])) (hS : va_S (zA G) s.heap H1 locs)
    (k : Ev l G M pc' lc (.ref hp.length :: st) (hp ++ [x]) cs' sl' R) : W p l e M.2.2.2.2.2.1 s m args below meth c H1 locs cs' sl' (vx_MQ below (zQc G env0 R) (zXc G env0 R) args s M.2.2.2.2.2.1.cells M.2.2.2.2.2.1.slots (zA G)) (F0 m pc' ls (.ref q :: cst)) :=
  k p e s m args below meth c H1 locs ls _ _ env0 hC hS (hl.mono zN.push) ⟨_, _, rfl, ⟨q, hw.new, rfl⟩, hst.mono zN.push⟩ (hw.push (hE _) hP hD) (hx0.tr zN.push)
/-- the site of a new -/
def zNew (M : zMI) (pc ci N : Nat) (fs : List Value) : Prop := ∃ (idx : Nat) (C : String) (T : u_T) (ty : Nat → FieldType), decode M.2.1 pc = .ok (.new idx, 3) ∧ zCl[ci]? = some (C, T, N) ∧ (∀ w ∈ u_ws C T N, w ∈ M.2.2.2.2.1) ∧ (∀ k, k < N → parseFieldDescriptor (T k).2.2.1 = some (ty k)) ∧
  Cond.classLink M.1.cls idx C ∈ M.2.2.2.2.1 ∧ Cond.instantiable C N ∈ M.2.2.2.2.1 ∧ Cond.initialized C ∈ M.2.2.2.2.1 ∧ (∀ j, j < N → defaultValue (ty j) = vp_V fs j) ∧ ∀ v ∈ fs, v = .int 0 ∨ v = .null
theorem zF.self {env : List Nat} {fs : List Value} (h : ∀ v ∈ fs, v = .int 0 ∨ v = .null) : zF G env fs fs := ⟨rfl, fun k v hk => ⟨v, hk, by rcases h v (List.mem_of_getElem? hk) with rfl | rfl <;> rfl⟩⟩
theorem e_new {ci N : Nat} {fs : List Value} {hp' : List va_E} (d : zNew M pc ci N fs) (hcs : cs + 1 ≤ M.2.2.2.2.2.1.cells) (hsl : sl + N ≤ M.2.2.2.2.2.1.slots) (hh : hp ++ [.inr (ci, fs)] = hp') (k : Ev l G M (pc + 3) lc (.ref hp.length :: st) hp' (cs + 1) (sl + N) R) : Ev l G M pc lc st hp cs sl R := by
  subst hh
  obtain ⟨idx, C, T, ty, d, hc, hin, hty, w1, w2, w3, hfs, hz⟩ := d
  intro p e s m args below meth c H locs ls cst ws env0 hC hS hl hst hw hx0
  exact va_new hC.1 hC.2.1 hC.ts hin ty hty hC.own (hC.ts _ w1) (hC.ts _ w2) (hC.ts _ w3) hC.K hw.1 hw.2.1 hS hC.new hc hfs hcs hsl d (fun q H1 hP hD hS1 => zNewK (x := .inr (ci, fs)) hC hl hst hw hx0 (fun env => ⟨fs, rfl, zF.self hz⟩) hP hD hS1 k)
theorem e_newI {n : Int32} {N : Nat} {hp' : List va_E} (d : decode M.2.1 pc = .ok (.newarray .int, 2)) (hw : Cond.arrayClass .int ∈ M.2.2.2.2.1) (hn : ¬ n < 0) (hN : n.toNatClampNeg = N) (hby : N * 4 ≤ 536870912) (hcs : cs + 1 ≤ M.2.2.2.2.2.1.cells) (hsl : sl + N ≤ M.2.2.2.2.2.1.slots) (hh : hp ++ [.inl (0, N, .inl (fun _ => 0))] = hp') (k : Ev l G M (pc + 2) lc (.ref hp.length :: st) hp' (cs + 1) (sl + N) R) : Ev l G M pc lc (.int n :: st) hp cs sl R := by
  subst hh
  have hw9 := hw
  intro p e s m args below meth c H locs ls cst ws env0 hC hS hl hst hw hx0
  obtain ⟨w, r, rfl, h2, hst⟩ := hst
  have h2 : w = .int n := h2
  subst h2
  refine va_newa (atype := .int) (ty := .int) (a0 := (N, .inl (fun _ => 0))) hC.1 hC.2.1 (hC.ts _ hw9) rfl hC.K hw.1 hw.2.1 hS hC.new (fun _ => rfl) hn hN hby hcs hsl d (fun q cA H1 hK hP hD hS1 => ?_)
  have e1 : s.vm.findClass ("[" ++ FieldType.int.toString) = some cA := (hK.2 5 (cA, .int) rfl).2
  have e2 : s.vm.findClass ("[" ++ FieldType.int.toString) = some (G.2.1 0) := (hC.K.2 0 _ zTy0).2
  have hcA : cA = G.2.1 0 := Option.some.inj (e1.symm.trans e2)
  subst hcA
  exact zNewK (x := .inl (0, N, .inl (fun _ => 0))) hC hl hst hw hx0 (fun env => rfl) hP hD hS1 k
theorem e_newZ {n : Int32} {N : Nat} {hp' : List va_E} (d : decode M.2.1 pc = .ok (.newarray .boolean, 2)) (hw : Cond.arrayClass .boolean ∈ M.2.2.2.2.1) (hn : ¬ n < 0) (hN : n.toNatClampNeg = N) (hby : N * 1 ≤ 536870912) (hcs : cs + 1 ≤ M.2.2.2.2.2.1.cells) (hsl : sl + N ≤ M.2.2.2.2.2.1.slots) (hh : hp ++ [.inl (2, N, .inl (fun _ => 0))] = hp') (k : Ev l G M (pc + 2) lc (.ref hp.length :: st) hp' (cs + 1) (sl + N) R) : Ev l G M pc lc (.int n :: st) hp cs sl R := by
  subst hh
  have hw9 := hw
  intro p e s m args below meth c H locs ls cst ws env0 hC hS hl hst hw hx0
  obtain ⟨w, r, rfl, h2, hst⟩ := hst
  have h2 : w = .int n := h2
  subst h2
  refine va_newa (atype := .boolean) (ty := .boolean) (a0 := (N, .inl (fun _ => 0))) hC.1 hC.2.1 (hC.ts _ hw9) rfl hC.K hw.1 hw.2.1 hS hC.new (fun _ => rfl) hn hN hby hcs hsl d (fun q cA H1 hK hP hD hS1 => ?_)
  have e1 : s.vm.findClass ("[" ++ FieldType.boolean.toString) = some cA := (hK.2 5 (cA, .boolean) rfl).2
  have e2 : s.vm.findClass ("[" ++ FieldType.boolean.toString) = some (G.2.1 2) := (hC.K.2 2 _ zTy2).2
  have hcA : cA = G.2.1 2 := Option.some.inj (e1.symm.trans e2)
  subst hcA
  exact zNewK (x := .inl (2, N, .inl (fun _ => 0))) hC hl hst hw hx0 (fun env => rfl) hP hD hS1 k
theorem e_newL {n : Int32} {N : Nat} {hp' : List va_E} (d : decode M.2.1 pc = .ok (.newarray .long, 2)) (hw : Cond.arrayClass .long ∈ M.2.2.2.2.1) (hn : ¬ n < 0) (hN : n.toNatClampNeg = N) (hby : N * 8 ≤ 536870912) (hcs : cs + 1 ≤ M.2.2.2.2.2.1.cells) (hsl : sl + N ≤ M.2.2.2.2.2.1.slots) (hh : hp ++ [.inl (1, N, .inr (.inl (fun _ => 0)))] = hp') (k : Ev l G M (pc + 2) lc (.ref hp.length :: st) hp' (cs + 1) (sl + N) R) : Ev l G M pc lc (.int n :: st) hp cs sl R := by
  subst hh
  have hw9 := hw
  intro p e s m args below meth c H locs ls cst ws env0 hC hS hl hst hw hx0
  obtain ⟨w, r, rfl, h2, hst⟩ := hst
  have h2 : w = .int n := h2
  subst h2
  refine va_newa (atype := .long) (ty := .long) (a0 := (N, .inr (.inl (fun _ => 0)))) hC.1 hC.2.1 (hC.ts _ hw9) rfl hC.K hw.1 hw.2.1 hS hC.new (fun _ => rfl) hn hN hby hcs hsl d (fun q cA H1 hK hP hD hS1 => ?_)
  have e1 : s.vm.findClass ("[" ++ FieldType.long.toString) = some cA := (hK.2 5 (cA, .long) rfl).2
  have e2 : s.vm.findClass ("[" ++ FieldType.long.toString) = some (G.2.1 1) := (hC.K.2 1 _ zTy1).2
  have hcA : cA = G.2.1 1 := Option.some.inj (e1.symm.trans e2)
  subst hcA
  exact zNewK (x := .inl (1, N, .inr (.inl (fun _ => 0)))) hC hl hst hw hx0 (fun env => rfl) hP hD hS1 k
theorem e_newQ {n : Int32} {N t idx : Nat} {C : String} {hp' : List va_E} (d : decode M.2.1 pc = .ok (.anewarray idx, 3)) (hw : Cond.classLink M.1.cls idx C ∈ M.2.2.2.2.1) (ho : C ∈ zAo) (ht : (zTy G)[t]? = some (G.2.1 t, .object C)) (hn : ¬ n < 0) (hN : n.toNatClampNeg = N) (hby : N * 4 ≤ 536870912) (hcs : cs + 1 ≤ M.2.2.2.2.2.1.cells) (hsl : sl + N ≤ M.2.2.2.2.2.1.slots) (hh : hp ++ [.inl (t, N, .inr (.inr (.inr (.inr (fun _ => none)))))] = hp') (k : Ev l G M (pc + 3) lc (.ref hp.length :: st) hp' (cs + 1) (sl + N) R) : Ev l G M pc lc (.int n :: st) hp cs sl R := by
  subst hh
  have hw9 := hw
  intro p e s m args below meth c H locs ls cst ws env0 hC hS hl hst hw hx0
  obtain ⟨w, r, rfl, h2, hst⟩ := hst
  have h2 : w = .int n := h2
  subst h2
  refine va_newq hC.1 hC.2.1 hC.own (hC.ts _ hw9) (hC.I.2.2.2.2.2.2.2.2.2.2.2.1 _ ho) hC.K hw.1 hw.2.1 hS hC.new hn hN hby hcs hsl d (fun q cA H1 hK hP hD hS1 => ?_)
  obtain ⟨-, -, -, -, -, e1⟩ := (hK.2 5 (cA, .object C) rfl).2
  obtain ⟨-, -, -, -, -, e2⟩ := (hC.K.2 t _ ht).2
  have hcA : cA = G.2.1 t := Option.some.inj (e1.symm.trans e2)
  subst hcA
  exact zNewK (x := .inl (t, N, .inr (.inr (.inr (.inr (fun _ => none)))))) hC hl hst hw hx0 (fun env => ⟨_, rfl, fun _ => rfl⟩) hP hD hS1 k
/-- ends -/
theorem e_iret {v : Int32} {ty : FieldType} (d : decode M.2.1 pc = .ok (.ireturn, 1)) (hr : M.2.2.2.1 = some ty) (hn : narrow ty (.int v) = .int v) (hcs : cs ≤ M.2.2.2.2.2.1.cells) (hsl : sl ≤ M.2.2.2.2.2.1.slots) (hR : R = (.inl (some (.int v)), hp)) : Ev l G M pc lc [.int v] hp cs sl R := by
  subst hR
  intro p e s m args below meth c H locs ls cst ws env0 hC hS hl hst hw hx0
  obtain ⟨w, r, rfl, h2, rfl⟩ := hst
  have h2 : w = .int v := h2
  subst h2
  exact W.widen hcs hsl (vx_ret (W.zret hC.1 hC.2.1 (hC.2.2.2.2.2.1.trans hr) hn (fun t ht hW => ⟨_, _, ws, rfl, rfl, ⟨_, rfl, rfl⟩, by rw [ht]; exact hw, hx0, hS.F ht⟩) hS.2.2 d hC.lk))
theorem e_vret (d : decode M.2.1 pc = .ok (.return_, 1)) (hr : M.2.2.2.1 = none) (hcs : cs ≤ M.2.2.2.2.2.1.cells) (hsl : sl ≤ M.2.2.2.2.2.1.slots) (hR : R = (.inl none, hp)) : Ev l G M pc lc [] hp cs sl R := by
  subst hR
  intro p e s m args below meth c H locs ls cst ws env0 hC hS hl hst hw hx0
  have hst : cst = [] := hst
  subst hst
  exact W.widen hcs hsl (vx_ret (W.vret hC.1 hC.2.1 (hC.2.2.2.2.2.1.trans hr) (fun t ht hW => ⟨_, _, ws, rfl, rfl, rfl, by rw [ht]; exact hw, hx0, hS.F ht⟩) hS.2.2 d hC.lk))
theorem e_aret {i : Nat} {C : String} (d : decode M.2.1 pc = .ok (.areturn, 1)) (hr : M.2.2.2.1 = some (.object C)) (hcs : cs ≤ M.2.2.2.2.2.1.cells) (hsl : sl ≤ M.2.2.2.2.2.1.slots) (hR : R = (.inl (some (.ref i)), hp)) : Ev l G M pc lc [.ref i] hp cs sl R := by
  subst hR
  intro p e s m args below meth c H locs ls cst ws env0 hC hS hl hst hw hx0
  obtain ⟨w, r, rfl, ⟨a, h1, rfl⟩, rfl⟩ := hst
  exact W.widen hcs hsl (vx_ret (W.aret hC.1 hC.2.1 (hC.2.2.2.2.2.1.trans hr) (Or.inl ⟨C, rfl⟩) (Or.inr ⟨a, rfl⟩) (fun t ht hW => ⟨_, _, ws, rfl, rfl, ⟨_, rfl, ⟨a, h1, rfl⟩⟩, by rw [ht]; exact hw, hx0, hS.F ht⟩) hS.2.2 d hC.lk))
theorem e_obj {i idx : Nat} (d : decode M.2.1 pc = .ok (.invokespecial idx, 3)) (w1 : Cond.methodLink M.1.cls idx Lib.objectInit ∈ M.2.2.2.2.1) (w2 : Cond.instanceMethod Lib.objectInit ∈ M.2.2.2.2.1) (w3 : Cond.code Lib.objectInit ⟨#[0xb1]⟩ 1 none ∈ M.2.2.2.2.1) (hfr : 1 ≤ M.2.2.2.2.2.1.frames) (hlo : (st.map fun v => v.category).sum + 12 ≤ M.2.2.2.2.2.1.locals) (k : Ev l G M (pc + 3) lc st hp cs sl R) : Ev l G M pc lc (.ref i :: st) hp cs sl R := by
  intro p e s m args below meth c H locs ls cst ws env0 hC hS hl hst hw hx0
  obtain ⟨w, r, rfl, ⟨a, h1, rfl⟩, hst⟩ := hst
  refine W.objInit hC.1 hC.2.1 hC.own (hC.ts _ w1) (hC.ts _ w2) (hC.ts _ w3) rfl (hl.1.trans hC.2.2.1.symm) rfl d hfr ?_ (k p e s m args below meth c H locs ls _ ws env0 hC hS hl hst hw hx0)
  rw [hst.cats]
  show 2 * 0 + _ + 12 ≤ _
  omega
theorem e_max {x y : Int32} {idx : Nat} (d : decode M.2.1 pc = .ok (.invokestatic idx, 3)) (w1 : Cond.methodLink M.1.cls idx Lib.Math.max.name ∈ M.2.2.2.2.1) (w2 : Cond.static Lib.Math.max.name ∈ M.2.2.2.2.1) (w3 : Cond.initialized "java/lang/Math" ∈ M.2.2.2.2.1) (w4 : Cond.code Lib.Math.max.name Lib.Math.max.code 2 (some .int) ∈ M.2.2.2.2.1) (hfr : 1 ≤ M.2.2.2.2.2.1.frames) (hlo : (st.map fun v => v.category).sum + 13 ≤ M.2.2.2.2.2.1.locals) (hcs : cs ≤ M.2.2.2.2.2.1.cells) (hsl : sl ≤ M.2.2.2.2.2.1.slots) (k : Ev l G M (pc + 3) lc (.int (if x < y then y else x) :: st) hp cs sl R) : Ev l G M pc lc (.int y :: .int x :: st) hp cs sl R := by
  intro p e s m args below meth c H locs ls cst ws env0 hC hS hl hst hw hx0
  obtain ⟨w, r, rfl, h2, w9, r2, rfl, h3, hst⟩ := hst
  have h2 : w = .int y := h2
  have h3 : w9 = .int x := h3
  subst h2; subst h3
  exact va_mmax hC.1 hC.2.1 (hC.2.2.1.trans hl.1.symm) hC.own (hC.ts _ w1) (hC.ts _ w2) (hC.ts _ w3) (hC.ts _ w4) hfr (by rw [hst.cats]; exact hlo) hcs hsl d (k p e s m args below meth c H locs ls _ ws env0 hC hS hl ⟨_, _, rfl, rfl, hst⟩ hw hx0)
theorem e_min {x y : Int32} {idx : Nat} (d : decode M.2.1 pc = .ok (.invokestatic idx, 3)) (w1 : Cond.methodLink M.1.cls idx Lib.Math.min.name ∈ M.2.2.2.2.1) (w2 : Cond.static Lib.Math.min.name ∈ M.2.2.2.2.1) (w3 : Cond.initialized "java/lang/Math" ∈ M.2.2.2.2.1) (w4 : Cond.code Lib.Math.min.name Lib.Math.min.code 2 (some .int) ∈ M.2.2.2.2.1) (hfr : 1 ≤ M.2.2.2.2.2.1.frames) (hlo : (st.map fun v => v.category).sum + 13 ≤ M.2.2.2.2.2.1.locals) (hcs : cs ≤ M.2.2.2.2.2.1.cells) (hsl : sl ≤ M.2.2.2.2.2.1.slots) (k : Ev l G M (pc + 3) lc (.int (if y < x then y else x) :: st) hp cs sl R) : Ev l G M pc lc (.int y :: .int x :: st) hp cs sl R := by
  intro p e s m args below meth c H locs ls cst ws env0 hC hS hl hst hw hx0
  obtain ⟨w, r, rfl, h2, w9, r2, rfl, h3, hst⟩ := hst
  have h2 : w = .int y := h2
  have h3 : w9 = .int x := h3
  subst h2; subst h3
  exact va_mmin hC.1 hC.2.1 (hC.2.2.1.trans hl.1.symm) hC.own (hC.ts _ w1) (hC.ts _ w2) (hC.ts _ w3) (hC.ts _ w4) hfr (by rw [hst.cats]; exact hlo) hcs hsl d (k p e s m args below meth c H locs ls _ ws env0 hC hS hl ⟨_, _, rfl, rfl, hst⟩ hw hx0)
/-- references are compared by their places -/
theorem zApart {ws : va_W} {H : Heap} {i j a b : Nat} (hw : zW G hp ws H) (hi : (zN ws)[i]? = some a) (hj : (zN ws)[j]? = some b) : a = b ↔ i = j := by
  refine ⟨fun h => ?_, fun h => by subst h; exact Option.some.inj (hi.symm.trans hj)⟩
  have f : ∀ {k x : Nat}, (zN ws)[k]? = some x → ∃ q, ws[k]? = some q ∧ q.1 = x := by
    intro k x hk
    have hk : (ws.map (fun q => q.1))[k]? = some x := hk
    rw [List.getElem?_map] at hk
    cases hq : ws[k]? with
    | none => rw [hq] at hk; cases hk
    | some q => rw [hq] at hk; exact ⟨q, rfl, Option.some.inj hk⟩
  obtain ⟨q1, h1, e1⟩ := f hi
  obtain ⟨q2, h2, e2⟩ := f hj
  exact hw.2.1.1 i j q1 q2 h1 h2 (by rw [e1, e2]; exact h)
theorem e_acmp_eq {i j : Nat} {off : Int} {tgt : Nat} (d : decode M.2.1 pc = .ok (.if_acmp .eq off, 3)) (ht : (pc : Int) + off = (tgt : Int)) (kt : i = j → Ev l G M tgt lc st hp cs sl R) (kf : ¬ i = j → Ev l G M (pc + 3) lc st hp cs sl R) : Ev l G M pc lc (.ref j :: .ref i :: st) hp cs sl R := by
  intro p e s m args below meth c H locs ls cst ws env0 hC hS hl hst hw hx0
  obtain ⟨w, r, rfl, ⟨b, h1, rfl⟩, w9, r2, rfl, ⟨a, h3, rfl⟩, hst⟩ := hst
  have hab := zApart hw h3 h1
  exact lv_acmp_eq (rx := some a) (ry := some b) hC.1 hC.2.1 d ht (fun q => kt (hab.mp (Option.some.inj q)) p e s m args below meth c H locs ls _ ws env0 hC hS hl hst hw hx0) (fun q => kf (fun z => q (by rw [hab.mpr z])) p e s m args below meth c H locs ls _ ws env0 hC hS hl hst hw hx0)
theorem e_acmp_ne {i j : Nat} {off : Int} {tgt : Nat} (d : decode M.2.1 pc = .ok (.if_acmp .ne off, 3)) (ht : (pc : Int) + off = (tgt : Int)) (kt : ¬ i = j → Ev l G M tgt lc st hp cs sl R) (kf : i = j → Ev l G M (pc + 3) lc st hp cs sl R) : Ev l G M pc lc (.ref j :: .ref i :: st) hp cs sl R := by
  intro p e s m args below meth c H locs ls cst ws env0 hC hS hl hst hw hx0
  obtain ⟨w, r, rfl, ⟨b, h1, rfl⟩, w9, r2, rfl, ⟨a, h3, rfl⟩, hst⟩ := hst
  have hab := zApart hw h3 h1
  exact lv_acmp_ne (rx := some a) (ry := some b) hC.1 hC.2.1 d ht (fun q => kt (fun z => q (by rw [hab.mpr z])) p e s m args below meth c H locs ls _ ws env0 hC hS hl hst hw hx0) (fun q => kf (hab.mp (Option.some.inj q)) p e s m args below meth c H locs ls _ ws env0 hC hS hl hst hw hx0)
theorem e_lsw {x : Int32} {dflt off : Int} {ps : Array (Int × Int)} {len tgt : Nat} (d : decode M.2.1 pc = .ok (.lookupswitch dflt ps, len)) (hp9 : (ps.toList.zip (ps.toList.drop 1)).all (fun (a, next) => a.1 < next.1) = true) (ho : Op.lookupswitch.offset ps.toList dflt x.toInt = off) (ht : (pc : Int) + off = (tgt : Int)) (k : Ev l G M tgt lc st hp cs sl R) : Ev l G M pc lc (.int x :: st) hp cs sl R := by
  intro p e s m args below meth c H locs ls cst ws env0 hC hS hl hst hw hx0
  obtain ⟨w, r, rfl, h2, hst⟩ := hst
  have h2 : w = .int x := h2
  subst h2
  exact lv_lookup hC.1 hC.2.1 d hp9 ho ht (k p e s m args below meth c H locs ls _ ws env0 hC hS hl hst hw hx0)
theorem e_tswO {x : Int32} {dflt lo hi : Int} {offs : Array Int} {len tgt : Nat} (d : decode M.2.1 pc = .ok (.tableswitch dflt lo hi offs, len)) (h : x.toInt < lo ∨ hi < x.toInt) (ht : (pc : Int) + dflt = (tgt : Int)) (k : Ev l G M tgt lc st hp cs sl R) : Ev l G M pc lc (.int x :: st) hp cs sl R := by
  intro p e s m args below meth c H locs ls cst ws env0 hC hS hl hst hw hx0
  obtain ⟨w, r, rfl, h2, hst⟩ := hst
  have h2 : w = .int x := h2
  subst h2
  exact lv_tableOut hC.1 hC.2.1 d h ht (k p e s m args below meth c H locs ls _ ws env0 hC hS hl hst hw hx0)
theorem e_tswI {x : Int32} {dflt lo hi off : Int} {offs : Array Int} {len tgt : Nat} (d : decode M.2.1 pc = .ok (.tableswitch dflt lo hi offs, len)) (h1 : ¬ x.toInt < lo) (h2 : ¬ hi < x.toInt) (ho : offs[(x.toInt - lo).toNat]? = some off) (ht : (pc : Int) + off = (tgt : Int)) (k : Ev l G M tgt lc st hp cs sl R) : Ev l G M pc lc (.int x :: st) hp cs sl R := by
  intro p e s m args below meth c H locs ls cst ws env0 hC hS hl hst hw hx0
  obtain ⟨w, r, rfl, h3, hst⟩ := hst
  have h3 : w = .int x := h3
  subst h3
  exact lv_tableIn hC.1 hC.2.1 d h1 h2 ho ht (k p e s m args below meth c H locs ls _ ws env0 hC hS hl hst hw hx0)
/-- calls -/
theorem zCallK {p : Program} {e : Env} {Rm : Room} {s : State} {m : MethodId} {args av : Array Value} {below : List Frame} {meth : Method} {c : Code} {H : Heap} {locs : List Loc} {ls : Array Slot} {cst crest : List Value} {env : List Nat} {mc ms : Nat} {R' : zRes} {Q : State → Prop}
    (hr : vx_Run p l e Rm s m args below meth c H locs cs sl mc ms (F0 m pc ls cst) crest (zQc G env R' av) (zXc G env R') (zA G)) (hS : va_S (zA G) s.heap H locs)
    (kk : ∀ (v v' : Option Value) (ws' : va_W) (H1 : Heap) (locs1 : List Loc), R'.1 = .inl v → zO G (zN ws') v v' → zW G R'.2 ws' H1 → zX env (zN ws') → va_S (zA G) s.heap H1 locs1 → W p l e Rm s m args below meth c H1 locs1 (cs + mc) (sl + ms) Q (F0 m (pc + 3) ls (v'.toList ++ crest)))
    (kx : ∀ (E : String) (ce : Cell) (q : Addr) (ws' : va_W) (H1 : Heap) (locs1 : List Loc), R'.1 = .inr E → zW G R'.2 ws' H1 → zX env (zN ws') → va_S (zA G) s.heap H1 locs1 → H1[q]? = some ce → ce.vm = .none → s.vm.findClass E = some ce.cls → vx_W p l e Rm s m args below meth c H1 locs1 (cs + mc) (sl + ms) Q (F0 m pc ls crest) q) :
    W p l e Rm s m args below meth c H locs cs sl Q (F0 m pc ls cst) := by
  intro T hT X
  rcases hr T hT X with ⟨v9, st₀, t, T', L, h0, X', hL, e1, e2, ⟨v, v', ws', hv, ho, hO, hw, hx, hF⟩, stp⟩ | ⟨q, st₀, t, T', L, E, ce, h0, X', hL, e1, e2, ⟨ws', hv, hw, hx, hF⟩, hce, hcv, hcl, stp⟩
  · cases ho
    obtain ⟨k1, k2, k3⟩ := vx_keep h0 e1 hS (fun _ _ z => z) (fun _ z => z) hL hF
    obtain ⟨t2, a1, b1⟩ := kk v v9 ws' T'.heap (locs ++ L) hv hO (by rw [e1]; exact hw) hx k3 T' rfl X'
    exact ⟨t2, stp t2 a1, b1⟩
  · obtain ⟨k1, k2, k3⟩ := vx_keep h0 e1 hS (fun _ _ z => z) (fun _ z => z) hL hF
    obtain ⟨t2, a1, b1⟩ := kx E ce q ws' T'.heap (locs ++ L) hv (by rw [e1]; exact hw) hx k3 (by rw [e1]; exact hce) hcv hcl T' rfl X'
    exact ⟨t2, stp.trans a1, b1⟩
theorem zBlind {ws : va_W} {cav : List Value} : FrameBlind (va_Pc cav (fun U => zI l G U U.heap ∧ zW G hp ws U.heap)) := fun a U g mk ⟨h1, h2, h3⟩ => ⟨h1, h2.at (U := U.calling g mk a) va_S.rf (State.WarmedH.refl U) rfl, h3⟩
/-- what goes on behind a call, in one word: with a value, without, thrown on -/
def zGo (l : Launch) (G : zGP) (M : zMI) (pc : Nat) (lc st : List Value) (cs sl : Nat) (R : zRes) (R' : zRes) : Prop :=
  (∃ v, R'.1 = .inl (some v) ∧ Ev l G M (pc + 3) lc (v :: st) R'.2 cs sl R) ∨ (R'.1 = .inl none ∧ Ev l G M (pc + 3) lc st R'.2 cs sl R) ∨
  (∃ E, R'.1 = .inr E ∧ ((M.2.2.2.2.2.2 = [] ∧ cs ≤ M.2.2.2.2.2.1.cells ∧ sl ≤ M.2.2.2.2.2.1.slots ∧ R = R') ∨
    ∃ (pre suf : List ExceptionTableEntry) (x : ExceptionTableEntry) (name : String) (j n : Nat), tableOf M.2.2.2.2.2.2 = pre ++ x :: suf ∧ (∀ z ∈ pre, covers z pc = false ∨ (z.catchType ≠ 0 ∧ ∃ nm : String, Cond.classLink M.1.cls z.catchType nm ∈ M.2.2.2.2.1 ∧ (E, nm) ∈ zNc)) ∧ covers x pc = true ∧ x.catchType ≠ 0 ∧ Cond.classLink M.1.cls x.catchType name ∈ M.2.2.2.2.1 ∧ (E, name) ∈ zCs ∧
      ((∃ j4 : Fin 4, (j4 : Nat) = j ∧ n = 1 ∧ decode M.2.1 x.handlerPc = .ok (.astore_n j4, 1)) ∨ (n = 2 ∧ decode M.2.1 x.handlerPc = .ok (.astore j, 2))) ∧ j < M.2.2.1 ∧ Ev l G M (x.handlerPc + n) (lc.set j (.double 0)) [] R'.2 cs sl R))
theorem zGoK {p : Program} {e : Env} {s : State} {m : MethodId} {args av : Array Value} {below : List Frame} {meth : Method} {c : Code} {H : Heap} {locs : List Loc} {ls : Array Slot} {cst crest : List Value} {ws : va_W} {env0 : List Nat} {mc ms : Nat} {R' : zRes}
    (hC : zC l G M p s m args meth c) (hS : va_S (zA G) s.heap H locs) (hl : zL G (zN ws) M.2.2.1 ls lc) (hst : zS G (zN ws) st crest) (hx0 : zX env0 (zN ws))
    (hr : vx_Run p l e M.2.2.2.2.2.1 s m args below meth c H locs cs sl mc ms (F0 m pc ls cst) crest (zQc G (zN ws) R' av) (zXc G (zN ws) R') (zA G)) (k : zGo l G M pc lc st (cs + mc) (sl + ms) R R') :
    W p l e M.2.2.2.2.2.1 s m args below meth c H locs cs sl (vx_MQ below (zQc G env0 R) (zXc G env0 R) args s M.2.2.2.2.2.1.cells M.2.2.2.2.2.1.slots (zA G)) (F0 m pc ls cst) := by
  refine zCallK hr hS (fun v v' ws' H1 locs1 hv hO hw hx hS1 => ?_) (fun E ce q ws' H1 locs1 hv hw hx hS1 hce hcv hcl => ?_)
  · rcases k with ⟨u, hu, k⟩ | ⟨hu, k⟩ | ⟨E, hu, -⟩
    · rw [hv] at hu
      cases hu
      obtain ⟨x, rfl, h2⟩ := hO
      exact k p e s m args below meth c H1 locs1 ls _ ws' env0 hC hS1 (hl.mono hx) ⟨_, _, rfl, h2, hst.mono hx⟩ hw (hx0.tr hx)
    · rw [hv] at hu
      cases hu
      have hO : v' = none := hO
      subst hO
      exact k p e s m args below meth c H1 locs1 ls _ ws' env0 hC hS1 (hl.mono hx) (hst.mono hx) hw (hx0.tr hx)
    · rw [hv] at hu; cases hu
  · rcases k with ⟨u, hu, -⟩ | ⟨hu, -⟩ | ⟨E', hu, k⟩
    · rw [hv] at hu; cases hu
    · rw [hv] at hu; cases hu
    · rw [hv] at hu
      cases hu
      rcases k with ⟨ht, h1, h2, rfl⟩ | ⟨pre, suf, x, name, j, n, hsp, hpass, hcov, h0, hlink, hcast, hd, hj, k⟩
      · have htb : c.exceptionTable.toList = [] := by rw [hC.2.2.2.2.2.2.2.2.1, ht]; rfl
        exact vx_out (fun z hz => by rw [htb] at hz; cases hz) hC.lk hce hcv hcl (fun t ht9 _ => ⟨ws', hv, by rw [ht9]; exact hw, hx0.tr hx, hS1.F ht9⟩) hS1.2.2 h1 h2
      · refine vx_catch hC.own pre x suf (by rw [hC.2.2.2.2.2.2.2.2.1]; exact hsp) (fun z hz => ?_) hcov h0 (hC.ts _ hlink) (va_Nw.use rfl (hC.I.2.2.2.2.2.2.2.2.1 _ hcast)) hce hcv hcl ?_
        · rcases hpass z hz with h | ⟨h, nm, h3, h4⟩
          · exact Or.inl h
          · exact Or.inr ⟨h, nm, hC.ts _ h3, hC.I.2.2.2.2.2.2.2.2.2.2.1 _ h4⟩
        · have hl1 := hl.mono hx
          rcases hd with ⟨j4, hj4, rfl, hd⟩ | ⟨rfl, hd⟩
          · exact lv_astore_n hC.1 hC.2.1 hd hj4 hl1.has hj rfl (fun ls' hl' => k p e s m args below meth c H1 locs1 ls' _ ws' env0 hC hS1 (hl1.after hl' (fun z => by cases z)) rfl hw (hx0.tr hx))
          · exact lv_astore hC.1 hC.2.1 hd hl1.has hj rfl (fun ls' hl' => k p e s m args below meth c H1 locs1 ls' _ ws' env0 hC hS1 (hl1.after hl' (fun z => by cases z)) rfl hw (hx0.tr hx))
def zCV (M : zMI) (pc : Nat) (Mc : zMI) (n : Nat) : Prop := ∃ (idx : Nat) (ws' : List Cond), decode M.2.1 pc = .ok (.invokevirtual idx, 3) ∧ GoodIn M.2.2.2.2.1 (wsV M.1.cls idx Mc.1.cls Mc.1 Mc.2.2.2.2.1) ∧ Mc.2.2.2.2.1 = Cond.code Mc.1 Mc.2.1 Mc.2.2.1 Mc.2.2.2.1 :: ws' ∧
  (Mc.1.cls ≠ "java/lang/invoke/MethodHandle" ∧ Mc.1.cls ≠ "java/lang/invoke/VarHandle" ∧ (parseMethodDescriptor Mc.1.desc).map (fun d => d.parameters.length) = some n) ∧ (Mc.2.2.2.2.2.1.frames + 1 ≤ M.2.2.2.2.2.1.frames ∧ 8 + (Mc.2.2.1 + 11) + Mc.2.2.2.2.2.1.locals ≤ M.2.2.2.2.2.1.locals)
def zCS (M : zMI) (pc : Nat) (Mc : zMI) (n : Nat) : Prop := ∃ (idx : Nat) (ws' : List Cond), decode M.2.1 pc = .ok (.invokestatic idx, 3) ∧ GoodIn M.2.2.2.2.1 (va_wsS M.1.cls idx Mc.1 Mc.2.2.2.2.1) ∧ (Mc.2.2.2.2.1 = Cond.code Mc.1 Mc.2.1 Mc.2.2.1 Mc.2.2.2.1 :: ws' ∨ Mc.2.2.2.2.1 = Cond.codeWith Mc.1 Mc.2.1 Mc.2.2.1 Mc.2.2.2.1 Mc.2.2.2.2.2.2 :: ws') ∧
  (Mc.1.cls ≠ "java/lang/invoke/MethodHandle" ∧ Mc.1.cls ≠ "java/lang/invoke/VarHandle" ∧ (parseMethodDescriptor Mc.1.desc).map (fun d => d.parameters.length) = some n) ∧ (Mc.2.2.2.2.2.1.frames + 1 ≤ M.2.2.2.2.2.1.frames ∧ 8 + (Mc.2.2.1 + 11) + Mc.2.2.2.2.2.1.locals ≤ M.2.2.2.2.2.1.locals)
def zCI (M : zMI) (pc : Nat) (Mc : zMI) (n : Nat) : Prop := ∃ (idx : Nat) (ws' : List Cond), decode M.2.1 pc = .ok (.invokespecial idx, 3) ∧ GoodIn M.2.2.2.2.1 Mc.2.2.2.2.1 ∧ Mc.2.2.2.2.1 = Cond.code Mc.1 Mc.2.1 Mc.2.2.1 none :: ws' ∧
  (Cond.initialized Mc.1.cls ∈ M.2.2.2.2.1 ∧ Cond.instanceMethod Mc.1 ∈ M.2.2.2.2.1 ∧ Mc.1.name = "<init>") ∧ (Cond.methodLink M.1.cls idx Mc.1 ∈ M.2.2.2.2.1 ∨ ∃ host : String, (M.1.cls, idx, Mc.1, host) ∈ zNl) ∧
  (Mc.1.cls ≠ "java/lang/invoke/MethodHandle" ∧ Mc.1.cls ≠ "java/lang/invoke/VarHandle" ∧ (parseMethodDescriptor Mc.1.desc).map (fun d => d.parameters.length) = some n) ∧ (Mc.2.2.2.2.2.1.frames + 1 ≤ M.2.2.2.2.2.1.frames ∧ 8 + (Mc.2.2.1 + 11) + Mc.2.2.2.2.2.1.locals ≤ M.2.2.2.2.2.1.locals)
theorem e_callV {Mc : zMI} {As fs : List Value} {i ci n : Nat} {q : vw_C} {R' : zRes} (d : zCV M pc Mc n) (hM : Rn l G Mc (.ref i :: As) hp R') (he : hp[i]? = some (.inr (ci, fs))) (hc : zCl[ci]? = some q) (hq : q.1 = Mc.1.cls) (hn : As.length = n) (hcat : (st.map fun v => v.category).sum ≤ 8) (hcs : cs + Mc.2.2.2.2.2.1.cells ≤ M.2.2.2.2.2.1.cells) (hsl : sl + Mc.2.2.2.2.2.1.slots ≤ M.2.2.2.2.2.1.slots)
    (k : zGo l G M pc lc st (cs + Mc.2.2.2.2.2.1.cells) (sl + Mc.2.2.2.2.2.1.slots) R R') : Ev l G M pc lc (As.reverse ++ .ref i :: st) hp cs sl R := by
  obtain ⟨idx, ws', d, hg, hws, hd, hR⟩ := d
  intro p e s m args below meth c H locs ls cst ws env0 hC hS hl hst hw hx0
  obtain ⟨c1, c2, rfl, hA, x, r, rfl, hi, hs2⟩ := hst.split
  obtain ⟨a, y, rfl, h1, gs, rfl, h2⟩ := zS.ref hi hw he
  have hA' := hA.rev
  rw [List.reverse_reverse] at hA'
  refine zGoK hC hS hl hs2 hx0 (vx_runV (cc := M.2.1) (nL := M.2.2.1) (Ts := M.2.2.2.2.1) (own := M.1.cls) (C := Mc.1.cls) (As := c1.reverse) (rest := r) (n := n) (index := idx) ⟨hC.1, hC.2.1, hC.2.2.1, hC.own, hC.ts⟩ (hM ws (.ref a :: c1.reverse) ⟨_, _, rfl, hi, hA'⟩) (cwV n hC.ts hg hws rfl rfl ⟨rfl, hd⟩ hR) ⟨zBlind, ?_, fun U hU hWm => ⟨rfl, hC.I.at hS hWm hU, by rw [hU]; exact hw⟩⟩ rfl (hA'.len.trans hn) hl.1 (by rw [List.reverse_reverse]) (lv_room (by rw [hs2.cats]; exact hcat)) d ⟨hcs, hsl⟩) k
  obtain ⟨cell, g1, g2, g3⟩ := va_recv hC.K hw.1 hc h1
  exact ⟨cell, g1, g2, by rw [← hq]; exact g3⟩
theorem e_callS {Mc : zMI} {As : List Value} {n : Nat} {R' : zRes} (d : zCS M pc Mc n) (hM : Rn l G Mc As hp R') (hn : As.length = n) (hcat : (st.map fun v => v.category).sum ≤ 8) (hcs : cs + Mc.2.2.2.2.2.1.cells ≤ M.2.2.2.2.2.1.cells) (hsl : sl + Mc.2.2.2.2.2.1.slots ≤ M.2.2.2.2.2.1.slots)
    (k : zGo l G M pc lc st (cs + Mc.2.2.2.2.2.1.cells) (sl + Mc.2.2.2.2.2.1.slots) R R') : Ev l G M pc lc (As.reverse ++ st) hp cs sl R := by
  obtain ⟨idx, ws', d, hg, hws, hd, hR⟩ := d
  intro p e s m args below meth c H locs ls cst ws env0 hC hS hl hst hw hx0
  obtain ⟨c1, r, rfl, hA, hst⟩ := hst.split
  have hA' := hA.rev
  rw [List.reverse_reverse] at hA'
  rcases hws with hws | hws
  · exact zGoK hC hS hl hst hx0 (vx_runS (cc := M.2.1) (nL := M.2.2.1) (Ts := M.2.2.2.2.1) (own := M.1.cls) (As := c1.reverse) (rest := r) (n := n) (index := idx) ⟨hC.1, hC.2.1, hC.2.2.1, hC.own, hC.ts⟩ (hM ws c1.reverse hA') (va_cwS n hC.ts hg hws rfl rfl hd hR) ⟨zBlind, fun U hU hWm => ⟨rfl, hC.I.at hS hWm hU, by rw [hU]; exact hw⟩⟩ rfl (hA'.len.trans hn) hl.1 (by rw [List.reverse_reverse]) (lv_room (by rw [hst.cats]; exact hcat)) d ⟨hcs, hsl⟩) k
  · exact zGoK hC hS hl hst hx0 (vx_runSX (cc := M.2.1) (nL := M.2.2.1) (Ts := M.2.2.2.2.1) (own := M.1.cls) (As := c1.reverse) (rest := r) (n := n) (index := idx) ⟨hC.1, hC.2.1, hC.2.2.1, hC.own, hC.ts⟩ (hM ws c1.reverse hA') (vx_cwSW n hC.ts hg hws rfl rfl hd hR) ⟨zBlind, fun U hU hWm => ⟨rfl, hC.I.at hS hWm hU, by rw [hU]; exact hw⟩⟩ rfl (hA'.len.trans hn) hl.1 (by rw [List.reverse_reverse]) (lv_room (by rw [hst.cats]; exact hcat)) d ⟨hcs, hsl⟩) k
theorem zMet {y : MethodName} {ws : List Cond} {rm : Room} {Pc : Array Value → State → Prop} {Qc : Array Value → State → Outcome → State → Prop} {XC : String → State → State → Prop} {mc ms : Nat} {free : Addr → Prop} (h : vx_Met l y ws rm Pc Qc XC mc ms free) (hX : ∀ E st t, ¬ XC E st t) : Met l y ws rm Pc Qc mc ms free := by
  intro p e h1 h2 h3 s m args below h4 h5 h6 h7
  obtain ⟨n, o, q1, q2, q3, q4⟩ := h p e h1 h2 h3 s m args below h4 h5 h6 h7
  refine ⟨n, o, q1, q2, q3, ?_⟩
  rcases q4 with q4 | ⟨q, -, E, ce, L, hx, -⟩
  · exact q4
  · exact absurd hx (hX _ _ _)
theorem zRun {p : Program} {e : Env} {Rm : Room} {s : State} {m : MethodId} {args : Array Value} {below : List Frame} {meth : Method} {c : Code} {H : Heap} {locs : List Loc} {mc ms : Nat} {g : JFrame} {rest : List Value} {Qa : State → Outcome → State → Prop} {XC : String → State → State → Prop} {free : Addr → Prop} (h : va_Run p l e Rm s m args below meth c H locs cs sl mc ms g rest Qa free) : vx_Run p l e Rm s m args below meth c H locs cs sl mc ms g rest Qa XC free :=
  fun T hT X => Or.inl (h T hT X)
theorem e_callI {Mc : zMI} {As : List Value} {i n : Nat} {R' : zRes} (d : zCI M pc Mc n) (hM : Rn l G Mc (.ref i :: As) hp R') (hn : As.length = n) (hret : ∃ v, R'.1 = .inl v) (hcat : (st.map fun v => v.category).sum ≤ 8) (hcs : cs + Mc.2.2.2.2.2.1.cells ≤ M.2.2.2.2.2.1.cells) (hsl : sl + Mc.2.2.2.2.2.1.slots ≤ M.2.2.2.2.2.1.slots)
    (k : zGo l G M pc lc st (cs + Mc.2.2.2.2.2.1.cells) (sl + Mc.2.2.2.2.2.1.slots) R R') : Ev l G M pc lc (As.reverse ++ .ref i :: st) hp cs sl R := by
  obtain ⟨idx, ws', d, hg, hws, ⟨w1, w3, hin⟩, w2, hd, hR⟩ := d
  intro p e s m args below meth c H locs ls cst ws env0 hC hS hl hst hw hx0
  obtain ⟨c1, c2, rfl, hA, x, r, rfl, ⟨a, ha, rfl⟩, hs2⟩ := hst.split
  have hA' := hA.rev
  rw [List.reverse_reverse] at hA'
  obtain ⟨v9, hv9⟩ := hret
  have hMet := zMet (hM ws (.ref a :: c1.reverse) ⟨_, _, rfl, ⟨a, ha, rfl⟩, hA'⟩) (fun E st t ⟨ws', q, _⟩ => by rw [hv9] at q; cases q)
  rcases w2 with w2 | ⟨host, w2⟩
  · exact zGoK hC hS hl hs2 hx0 (zRun (va_runI (cc := M.2.1) (nL := M.2.2.1) (Ts := M.2.2.2.2.1) (own := M.1.cls) (b := a) (As := c1.reverse) (rest := r) (n := n) (index := idx) ⟨hC.1, hC.2.1, hC.2.2.1, hC.own, hC.ts⟩ hMet (cwI n hC.ts hg hws rfl rfl (hC.ts _ w1) (hC.ts _ w2) (hC.ts _ w3) hin hd hR) ⟨zBlind, fun U hU hWm => ⟨rfl, hC.I.at hS hWm hU, by rw [hU]; exact hw⟩⟩ rfl (hA'.len.trans hn) hl.1 (by rw [List.reverse_reverse]) (lv_room (by rw [hs2.cats]; exact hcat)) d ⟨hcs, hsl⟩)) k
  · exact zGoK hC hS hl hs2 hx0 (zRun (va_runIN (host := host) (cc := M.2.1) (nL := M.2.2.1) (Ts := M.2.2.2.2.1) (own := M.1.cls) (b := a) (As := c1.reverse) (rest := r) (n := n) (index := idx) ⟨hC.1, hC.2.1, hC.2.2.1, hC.own, hC.ts⟩ hMet ⟨va_cnB n hC.ts hg hws rfl rfl (hC.I.2.2.2.2.2.2.2.2.2.2.2.2 _ w2) (hC.ts _ w1) hd hR, hin, hC.ts _ w3⟩ ⟨zBlind, fun U hU hWm => ⟨rfl, hC.I.at hS hWm hU, by rw [hU]; exact hw⟩⟩ rfl (hA'.len.trans hn) hl.1 (by rw [List.reverse_reverse]) (lv_room (by rw [hs2.cats]; exact hcat)) d ⟨hcs, hsl⟩)) k
theorem zGo.v {v : Value} {hp' : List va_E} (k : Ev l G M (pc + 3) lc (v :: st) hp' cs sl R) : zGo l G M pc lc st cs sl R (.inl (some v), hp') := Or.inl ⟨v, rfl, k⟩
theorem zGo.n {hp' : List va_E} (k : Ev l G M (pc + 3) lc st hp' cs sl R) : zGo l G M pc lc st cs sl R (.inl none, hp') := Or.inr (Or.inl ⟨rfl, k⟩)
theorem zGo.t {E : String} {hp' : List va_E} (hh : M.2.2.2.2.2.2 = []) (h1 : cs ≤ M.2.2.2.2.2.1.cells) (h2 : sl ≤ M.2.2.2.2.2.1.slots) (hR : R = (.inr E, hp')) : zGo l G M pc lc st cs sl R (.inr E, hp') := Or.inr (Or.inr ⟨E, rfl, Or.inl ⟨hh, h1, h2, hR⟩⟩)
/-- the site of 'throw new E("text")' -/
def zThr (M : zMI) (pc : Nat) (E : String) : Prop := ∃ (ik is ic k : Nat) (text : String), decode M.2.1 pc = .ok (.new ik, 3) ∧ decode M.2.1 (pc + 3) = .ok (.dup, 1) ∧ decode M.2.1 (pc + 4) = .ok (.ldc is, 2) ∧ decode M.2.1 (pc + 6) = .ok (.invokespecial ic, 3) ∧ decode M.2.1 (pc + 9) = .ok (.athrow, 1) ∧
  zStr[k]? = some (M.1.cls, is, text) ∧ Bundle.fit E = true ∧ Cond.classLink M.1.cls ik E ∈ M.2.2.2.2.1 ∧ Cond.initialized E ∈ M.2.2.2.2.1 ∧ (∀ w ∈ (vx_atS M.1.cls ic E ["java/lang/RuntimeException", "java/lang/Exception"]).filter goodWord, w ∈ M.2.2.2.2.1) ∧
  (∀ w ∈ (vx_atS M.1.cls ic E ["java/lang/RuntimeException", "java/lang/Exception"]).filter (fun w => !goodWord w), w ∈ zCs.map (fun q => Cond.castable q.1 q.2) ++ zDs.map Cond.declares) ∧
  (∀ w ∈ Cond.classLink M.1.cls ik E :: Cond.initialized E :: vx_atS M.1.cls ic E ["java/lang/RuntimeException", "java/lang/Exception"], vx_ot w = true) ∧ M.2.2.2.2.2.2 = [] ∧ 5 < M.2.2.2.2.2.1.frames
theorem e_thr {E : String} (d : zThr M pc E) (hlo : (st.map fun v => v.category).sum + (13 * 3 + 43) ≤ M.2.2.2.2.2.1.locals) (hcs : cs + 1 ≤ M.2.2.2.2.2.1.cells) (hsl : sl + 6 ≤ M.2.2.2.2.2.1.slots) (hR : R = (.inr E, hp)) : Ev l G M pc lc st hp cs sl R := by
  subst hR
  obtain ⟨ik, is, ic, k, text, d0, d3, d4, d6, d9, hstr, hfit, w1, w2, w3, w4, w5, hh, hfr⟩ := d
  intro p e s m args below meth c H locs ls cst ws env0 hC hS hl hst hw hx0
  have htb : c.exceptionTable.toList = [] := by rw [hC.2.2.2.2.2.2.2.2.1, hh]; rfl
  refine vx_throwS (names := ["java/lang/RuntimeException", "java/lang/Exception"]) (text := text) (ik := ik) (is := is) (ic := ic) (A := zA G) (sa := G.2.2.2.2.2.2 k) hC.1 hC.2.1 hC.I.1 hC.own hfit (by decide +kernel) (hC.ts _ w1) (hC.ts _ w2) (hC.I.2.2.2.2.2.1 k _ hstr) (vx_hat (B := zCs.map (fun q => Cond.castable q.1 q.2) ++ zDs.map Cond.declares) (fun w hw9 => hC.ts w (w3 w hw9)) w4 (fun w hw9 => ?_)) w5 hC.I.2.2.2.2.2.2.1 hC.I.2.2.2.2.2.2.2.1 hS (hl.1.trans hC.2.2.1.symm) d0 d3 d4 d6 d9 (fun z hz => by rw [htb] at hz; cases hz) hfr (by rw [hst.cats]; exact hlo) hcs hsl hC.lk (fun t hvm hz hk => ⟨ws, rfl, hw.kept hk, hx0, Nat.le_trans hS.1 hz, fun q h1 h2 => (hk q (Nat.lt_of_lt_of_le h1 hS.1)).trans (hS.2.1 q h1 h2)⟩) hS.2.2 hcs hsl
  rcases List.mem_append.mp hw9 with h | h
  · obtain ⟨q, hq, rfl⟩ := List.mem_map.mp h
    exact va_Nw.use rfl (hC.I.2.2.2.2.2.2.2.2.1 q hq)
  · obtain ⟨y, hy, rfl⟩ := List.mem_map.mp h
    exact va_Nw.use rfl (hC.I.2.2.2.2.2.2.2.2.2.1 y hy)
theorem e_cV0 {Mc : zMI} {fs : List Value} {i ci : Nat} {q : vw_C} {R' : zRes} (d : zCV M pc Mc 0) (hM : Rn l G Mc [.ref i] hp R') (he : hp[i]? = some (.inr (ci, fs))) (hc : zCl[ci]? = some q) (hq : q.1 = Mc.1.cls) (hcat : (st.map fun v => v.category).sum ≤ 8) (hcs : cs + Mc.2.2.2.2.2.1.cells ≤ M.2.2.2.2.2.1.cells) (hsl : sl + Mc.2.2.2.2.2.1.slots ≤ M.2.2.2.2.2.1.slots) (k : zGo l G M pc lc st (cs + Mc.2.2.2.2.2.1.cells) (sl + Mc.2.2.2.2.2.1.slots) R R') : Ev l G M pc lc (.ref i :: st) hp cs sl R := e_callV (As := []) d hM he hc hq rfl hcat hcs hsl k
theorem e_cV1 {Mc : zMI} {a1 : Value} {fs : List Value} {i ci : Nat} {q : vw_C} {R' : zRes} (d : zCV M pc Mc 1) (hM : Rn l G Mc [.ref i, a1] hp R') (he : hp[i]? = some (.inr (ci, fs))) (hc : zCl[ci]? = some q) (hq : q.1 = Mc.1.cls) (hcat : (st.map fun v => v.category).sum ≤ 8) (hcs : cs + Mc.2.2.2.2.2.1.cells ≤ M.2.2.2.2.2.1.cells) (hsl : sl + Mc.2.2.2.2.2.1.slots ≤ M.2.2.2.2.2.1.slots) (k : zGo l G M pc lc st (cs + Mc.2.2.2.2.2.1.cells) (sl + Mc.2.2.2.2.2.1.slots) R R') : Ev l G M pc lc (a1 :: .ref i :: st) hp cs sl R := e_callV (As := [a1]) d hM he hc hq rfl hcat hcs hsl k
theorem e_cV2 {Mc : zMI} {a1 a2 : Value} {fs : List Value} {i ci : Nat} {q : vw_C} {R' : zRes} (d : zCV M pc Mc 2) (hM : Rn l G Mc [.ref i, a1, a2] hp R') (he : hp[i]? = some (.inr (ci, fs))) (hc : zCl[ci]? = some q) (hq : q.1 = Mc.1.cls) (hcat : (st.map fun v => v.category).sum ≤ 8) (hcs : cs + Mc.2.2.2.2.2.1.cells ≤ M.2.2.2.2.2.1.cells) (hsl : sl + Mc.2.2.2.2.2.1.slots ≤ M.2.2.2.2.2.1.slots) (k : zGo l G M pc lc st (cs + Mc.2.2.2.2.2.1.cells) (sl + Mc.2.2.2.2.2.1.slots) R R') : Ev l G M pc lc (a2 :: a1 :: .ref i :: st) hp cs sl R := e_callV (As := [a1, a2]) d hM he hc hq rfl hcat hcs hsl k
theorem e_cV3 {Mc : zMI} {a1 a2 a3 : Value} {fs : List Value} {i ci : Nat} {q : vw_C} {R' : zRes} (d : zCV M pc Mc 3) (hM : Rn l G Mc [.ref i, a1, a2, a3] hp R') (he : hp[i]? = some (.inr (ci, fs))) (hc : zCl[ci]? = some q) (hq : q.1 = Mc.1.cls) (hcat : (st.map fun v => v.category).sum ≤ 8) (hcs : cs + Mc.2.2.2.2.2.1.cells ≤ M.2.2.2.2.2.1.cells) (hsl : sl + Mc.2.2.2.2.2.1.slots ≤ M.2.2.2.2.2.1.slots) (k : zGo l G M pc lc st (cs + Mc.2.2.2.2.2.1.cells) (sl + Mc.2.2.2.2.2.1.slots) R R') : Ev l G M pc lc (a3 :: a2 :: a1 :: .ref i :: st) hp cs sl R := e_callV (As := [a1, a2, a3]) d hM he hc hq rfl hcat hcs hsl k
theorem e_cV4 {Mc : zMI} {a1 a2 a3 a4 : Value} {fs : List Value} {i ci : Nat} {q : vw_C} {R' : zRes} (d : zCV M pc Mc 4) (hM : Rn l G Mc [.ref i, a1, a2, a3, a4] hp R') (he : hp[i]? = some (.inr (ci, fs))) (hc : zCl[ci]? = some q) (hq : q.1 = Mc.1.cls) (hcat : (st.map fun v => v.category).sum ≤ 8) (hcs : cs + Mc.2.2.2.2.2.1.cells ≤ M.2.2.2.2.2.1.cells) (hsl : sl + Mc.2.2.2.2.2.1.slots ≤ M.2.2.2.2.2.1.slots) (k : zGo l G M pc lc st (cs + Mc.2.2.2.2.2.1.cells) (sl + Mc.2.2.2.2.2.1.slots) R R') : Ev l G M pc lc (a4 :: a3 :: a2 :: a1 :: .ref i :: st) hp cs sl R := e_callV (As := [a1, a2, a3, a4]) d hM he hc hq rfl hcat hcs hsl k
theorem e_cS0 {Mc : zMI} {R' : zRes} (d : zCS M pc Mc 0) (hM : Rn l G Mc [] hp R') (hcat : (st.map fun v => v.category).sum ≤ 8) (hcs : cs + Mc.2.2.2.2.2.1.cells ≤ M.2.2.2.2.2.1.cells) (hsl : sl + Mc.2.2.2.2.2.1.slots ≤ M.2.2.2.2.2.1.slots) (k : zGo l G M pc lc st (cs + Mc.2.2.2.2.2.1.cells) (sl + Mc.2.2.2.2.2.1.slots) R R') : Ev l G M pc lc (st) hp cs sl R := e_callS (As := []) d hM rfl hcat hcs hsl k
theorem e_cS1 {Mc : zMI} {a1 : Value} {R' : zRes} (d : zCS M pc Mc 1) (hM : Rn l G Mc [a1] hp R') (hcat : (st.map fun v => v.category).sum ≤ 8) (hcs : cs + Mc.2.2.2.2.2.1.cells ≤ M.2.2.2.2.2.1.cells) (hsl : sl + Mc.2.2.2.2.2.1.slots ≤ M.2.2.2.2.2.1.slots) (k : zGo l G M pc lc st (cs + Mc.2.2.2.2.2.1.cells) (sl + Mc.2.2.2.2.2.1.slots) R R') : Ev l G M pc lc (a1 :: st) hp cs sl R := e_callS (As := [a1]) d hM rfl hcat hcs hsl k
theorem e_cS2 {Mc : zMI} {a1 a2 : Value} {R' : zRes} (d : zCS M pc Mc 2) (hM : Rn l G Mc [a1, a2] hp R') (hcat : (st.map fun v => v.category).sum ≤ 8) (hcs : cs + Mc.2.2.2.2.2.1.cells ≤ M.2.2.2.2.2.1.cells) (hsl : sl + Mc.2.2.2.2.2.1.slots ≤ M.2.2.2.2.2.1.slots) (k : zGo l G M pc lc st (cs + Mc.2.2.2.2.2.1.cells) (sl + Mc.2.2.2.2.2.1.slots) R R') : Ev l G M pc lc (a2 :: a1 :: st) hp cs sl R := e_callS (As := [a1, a2]) d hM rfl hcat hcs hsl k
theorem e_cS3 {Mc : zMI} {a1 a2 a3 : Value} {R' : zRes} (d : zCS M pc Mc 3) (hM : Rn l G Mc [a1, a2, a3] hp R') (hcat : (st.map fun v => v.category).sum ≤ 8) (hcs : cs + Mc.2.2.2.2.2.1.cells ≤ M.2.2.2.2.2.1.cells) (hsl : sl + Mc.2.2.2.2.2.1.slots ≤ M.2.2.2.2.2.1.slots) (k : zGo l G M pc lc st (cs + Mc.2.2.2.2.2.1.cells) (sl + Mc.2.2.2.2.2.1.slots) R R') : Ev l G M pc lc (a3 :: a2 :: a1 :: st) hp cs sl R := e_callS (As := [a1, a2, a3]) d hM rfl hcat hcs hsl k
theorem e_cS4 {Mc : zMI} {a1 a2 a3 a4 : Value} {R' : zRes} (d : zCS M pc Mc 4) (hM : Rn l G Mc [a1, a2, a3, a4] hp R') (hcat : (st.map fun v => v.category).sum ≤ 8) (hcs : cs + Mc.2.2.2.2.2.1.cells ≤ M.2.2.2.2.2.1.cells) (hsl : sl + Mc.2.2.2.2.2.1.slots ≤ M.2.2.2.2.2.1.slots) (k : zGo l G M pc lc st (cs + Mc.2.2.2.2.2.1.cells) (sl + Mc.2.2.2.2.2.1.slots) R R') : Ev l G M pc lc (a4 :: a3 :: a2 :: a1 :: st) hp cs sl R := e_callS (As := [a1, a2, a3, a4]) d hM rfl hcat hcs hsl k
theorem e_cS5 {Mc : zMI} {a1 a2 a3 a4 a5 : Value} {R' : zRes} (d : zCS M pc Mc 5) (hM : Rn l G Mc [a1, a2, a3, a4, a5] hp R') (hcat : (st.map fun v => v.category).sum ≤ 8) (hcs : cs + Mc.2.2.2.2.2.1.cells ≤ M.2.2.2.2.2.1.cells) (hsl : sl + Mc.2.2.2.2.2.1.slots ≤ M.2.2.2.2.2.1.slots) (k : zGo l G M pc lc st (cs + Mc.2.2.2.2.2.1.cells) (sl + Mc.2.2.2.2.2.1.slots) R R') : Ev l G M pc lc (a5 :: a4 :: a3 :: a2 :: a1 :: st) hp cs sl R := e_callS (As := [a1, a2, a3, a4, a5]) d hM rfl hcat hcs hsl k
theorem e_cS6 {Mc : zMI} {a1 a2 a3 a4 a5 a6 : Value} {R' : zRes} (d : zCS M pc Mc 6) (hM : Rn l G Mc [a1, a2, a3, a4, a5, a6] hp R') (hcat : (st.map fun v => v.category).sum ≤ 8) (hcs : cs + Mc.2.2.2.2.2.1.cells ≤ M.2.2.2.2.2.1.cells) (hsl : sl + Mc.2.2.2.2.2.1.slots ≤ M.2.2.2.2.2.1.slots) (k : zGo l G M pc lc st (cs + Mc.2.2.2.2.2.1.cells) (sl + Mc.2.2.2.2.2.1.slots) R R') : Ev l G M pc lc (a6 :: a5 :: a4 :: a3 :: a2 :: a1 :: st) hp cs sl R := e_callS (As := [a1, a2, a3, a4, a5, a6]) d hM rfl hcat hcs hsl k
theorem e_cI0 {Mc : zMI} {i : Nat} {R' : zRes} (d : zCI M pc Mc 0) (hM : Rn l G Mc [.ref i] hp R') (hret : ∃ v, R'.1 = .inl v) (hcat : (st.map fun v => v.category).sum ≤ 8) (hcs : cs + Mc.2.2.2.2.2.1.cells ≤ M.2.2.2.2.2.1.cells) (hsl : sl + Mc.2.2.2.2.2.1.slots ≤ M.2.2.2.2.2.1.slots) (k : zGo l G M pc lc st (cs + Mc.2.2.2.2.2.1.cells) (sl + Mc.2.2.2.2.2.1.slots) R R') : Ev l G M pc lc (.ref i :: st) hp cs sl R := e_callI (As := []) d hM rfl hret hcat hcs hsl k
theorem e_cI1 {Mc : zMI} {a1 : Value} {i : Nat} {R' : zRes} (d : zCI M pc Mc 1) (hM : Rn l G Mc [.ref i, a1] hp R') (hret : ∃ v, R'.1 = .inl v) (hcat : (st.map fun v => v.category).sum ≤ 8) (hcs : cs + Mc.2.2.2.2.2.1.cells ≤ M.2.2.2.2.2.1.cells) (hsl : sl + Mc.2.2.2.2.2.1.slots ≤ M.2.2.2.2.2.1.slots) (k : zGo l G M pc lc st (cs + Mc.2.2.2.2.2.1.cells) (sl + Mc.2.2.2.2.2.1.slots) R R') : Ev l G M pc lc (a1 :: .ref i :: st) hp cs sl R := e_callI (As := [a1]) d hM rfl hret hcat hcs hsl k
theorem e_cI2 {Mc : zMI} {a1 a2 : Value} {i : Nat} {R' : zRes} (d : zCI M pc Mc 2) (hM : Rn l G Mc [.ref i, a1, a2] hp R') (hret : ∃ v, R'.1 = .inl v) (hcat : (st.map fun v => v.category).sum ≤ 8) (hcs : cs + Mc.2.2.2.2.2.1.cells ≤ M.2.2.2.2.2.1.cells) (hsl : sl + Mc.2.2.2.2.2.1.slots ≤ M.2.2.2.2.2.1.slots) (k : zGo l G M pc lc st (cs + Mc.2.2.2.2.2.1.cells) (sl + Mc.2.2.2.2.2.1.slots) R R') : Ev l G M pc lc (a2 :: a1 :: .ref i :: st) hp cs sl R := e_callI (As := [a1, a2]) d hM rfl hret hcat hcs hsl k
theorem e_topi {x y : Int32} (h : x = y) (k : Ev l G M pc lc (.int y :: st) hp cs sl R) : Ev l G M pc lc (.int x :: st) hp cs sl R := by subst h; exact k
end EV
end
