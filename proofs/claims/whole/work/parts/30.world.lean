/-! ===== the world at the law's entry ===== -/
theorem zTb {s : State} {b : Nat} (hts : ∀ w ∈ lw_tbl, w.before #[Value.ref b] s = true) {w : Cond} (i : Nat) (h : tables_1[i]? = some w) : w.before #[Value.ref b] s = true := hts w (List.mem_append_right _ (List.mem_of_getElem? h))
theorem zArr {s : State} {A : Array Value} {ty : FieldType} (h : (Cond.arrayClass ty).before A s = true) (ht : ∀ C, ty ≠ .object C) : ∃ cA, ArrOfT s cA ty ∧ va_RA s cA ty := by
  obtain ⟨cA, kA, comp, f1, f2, f3⟩ := Cond.arrayClass_spec h
  refine ⟨cA, fun N z => ⟨(fun k h => by cases h), kA, f2, comp, f3⟩, ?_⟩
  cases ty with
  | object C => exact absurd rfl (ht C)
  | _ => exact f1
theorem zArrO {s : State} {A : Array Value} {C : String} (h : (Cond.arrayOver (.object C)).before A s = true) : ∃ cA, ArrOfT s cA (.object C) ∧ va_RA s cA (.object C) := by
  obtain ⟨comp, cA, kA, f1, -, f2, f3, f4⟩ := Cond.arrayOver_spec h
  exact ⟨cA, fun N z => ⟨(fun k h => by cases h), kA, f2, comp, f3⟩, kA, comp, f2, f3, f1, f4⟩
theorem zStrR {s : State} {b cur k : Nat} {t : String} (hc : s.vm.findClass "BufferedCores" = some cur) (h : (Cond.stringRef "BufferedCores" k t).before #[Value.ref b] s = true) : ∃ a, vk_R "BufferedCores" k t a s := by
  obtain ⟨_, _, _, a, _, _, _, _, _, h6⟩ := Cond.stringRef_spec hc h
  exact ⟨a, vk_R.of h h6⟩
set_option maxHeartbeats 4000000 in
set_option maxRecDepth 100000 in
theorem zStart {l : Launch} {s : State} {b L : Nat} {xs : Nat → Int32} (hst : l.stackTraces = false) (hts : ∀ w ∈ lw_tbl, w.before #[Value.ref b] s = true) (hX : va_X b L xs s s.heap) (hbl : b < s.heap.size) (hgv : (Jvm.Cond.and given_1 narrow_1).before #[Value.ref b] s = true) : ∃ G : zGP, G.2.2.1 = s.heap.size ∧ G.2.2.2.1 = b ∧ G.2.2.2.2.1 = L ∧ zI l G s s.heap := by
  have hz : ∀ w ∈ zT, w.before #[Value.ref b] s = true := fun w hw => hts w (List.mem_filter.mp hw).1
  have hg := flat_of_before _ hgv
  obtain ⟨c0, i0, k0⟩ := u_known (N := 7) hz uws_Co (zTb (w := Cond.instantiable "BufferedCores$Core" 7) hts 33 (by decide +kernel))
  obtain ⟨c1, i1, k1⟩ := u_known (N := 3) hz uws_Li (zTb (w := Cond.instantiable "BufferedCores$Line" 3) hts 106 (by decide +kernel))
  obtain ⟨c2, i2, k2⟩ := u_known (N := 3) hz uws_Lo (zTb (w := Cond.instantiable "BufferedCores$Log" 3) hts 153 (by decide +kernel))
  obtain ⟨c3, i3, k3⟩ := u_known (N := 4) hz uws_Pr (zTb (w := Cond.instantiable "BufferedCores$Program" 4) hts 39 (by decide +kernel))
  obtain ⟨c4, i4, k4⟩ := u_known (N := 4) hz uws_Rq (zTb (w := Cond.instantiable "BufferedCores$Request" 4) hts 65 (by decide +kernel))
  obtain ⟨c5, i5, k5⟩ := u_known (N := 3) hz uws_Sb (zTb (w := Cond.instantiable "BufferedCores$StoreBuffer" 3) hts 88 (by decide +kernel))
  obtain ⟨c6, i6, k6⟩ := u_known (N := 3) hz uws_B (zTb (w := Cond.instantiable "BufferedCores" 3) hts 18 (by decide +kernel))
  obtain ⟨c7, i7, k7⟩ := u_known (N := 22) hz uws_M (zTb (w := Cond.instantiable "BufferedCoresModel" 22) hts 579 (by decide +kernel))
  obtain ⟨a0, p0, q0⟩ := zArr (zTb (w := Cond.arrayClass .int) hts 61 (by decide +kernel)) (fun C h => by cases h)
  obtain ⟨a1, p1, q1⟩ := zArr (zTb (w := Cond.arrayClass .long) hts 783 (by decide +kernel)) (fun C h => by cases h)
  obtain ⟨a2, p2, q2⟩ := zArr (zTb (w := Cond.arrayClass .boolean) hts 651 (by decide +kernel)) (fun C h => by cases h)
  obtain ⟨a3, p3, q3⟩ := zArrO (zTb (w := Cond.arrayOver (.object "BufferedCores$Core")) hts 32 (by decide +kernel))
  obtain ⟨a4, p4, q4⟩ := zArrO (zTb (w := Cond.arrayOver (.object "BufferedCores$Line")) hts 63 (by decide +kernel))
  obtain ⟨s0, r0⟩ := zStrR k6.2.1 (zTb (w := Cond.stringRef "BufferedCores" 229 "no such core") hts 244 (by decide +kernel))
  obtain ⟨s1, r1⟩ := zStrR k6.2.1 (zTb (w := Cond.stringRef "BufferedCores" 52 "no such instruction") hts 286 (by decide +kernel))
  obtain ⟨s2, r2⟩ := zStrR k6.2.1 (zTb (w := Cond.stringRef "BufferedCores" 65 "the program is full") hts 302 (by decide +kernel))
  obtain ⟨s3, r3⟩ := zStrR k6.2.1 (zTb (w := Cond.stringRef "BufferedCores" 232 "no such address") hts 323 (by decide +kernel))
  obtain ⟨s4, r4⟩ := zStrR k6.2.1 (zTb (w := Cond.stringRef "BufferedCores" 80 "a core has the word, or it is in flight") hts 340 (by decide +kernel))
  obtain ⟨s5, r5⟩ := zStrR k6.2.1 (zTb (w := Cond.stringRef "BufferedCores" 189 "no such register") hts 469 (by decide +kernel))
  obtain ⟨s6, r6⟩ := zStrR k6.2.1 (zTb (w := Cond.stringRef "BufferedCores" 234 "no such store") hts 504 (by decide +kernel))
  obtain ⟨s7, r7⟩ := zStrR k6.2.1 (zTb (w := Cond.stringRef "BufferedCores" 198 "no such line") hts 525 (by decide +kernel))
  obtain ⟨s8, r8⟩ := zStrR k6.2.1 (zTb (w := Cond.stringRef "BufferedCores" 213 "the core has not the word") hts 533 (by decide +kernel))
  obtain ⟨s9, r9⟩ := zStrR k6.2.1 (zTb (w := Cond.stringRef "BufferedCores" 239 "no such event") hts 570 (by decide +kernel))
  refine ⟨(((fun c => match c with | 0 => c0 | 1 => c1 | 2 => c2 | 3 => c3 | 4 => c4 | 5 => c5 | 6 => c6 | _ => c7), (fun c => match c with | 0 => i0 | 1 => i1 | 2 => i2 | 3 => i3 | 4 => i4 | 5 => i5 | 6 => i6 | _ => i7)), (fun c => match c with | 0 => a0 | 1 => a1 | 2 => a2 | 3 => a3 | _ => a4), s.heap.size, b, L, xs, (fun c => match c with | 0 => s0 | 1 => s1 | 2 => s2 | 3 => s3 | 4 => s4 | 5 => s5 | 6 => s6 | 7 => s7 | 8 => s8 | _ => s9)), rfl, rfl, rfl, hst, ⟨?_, ?_⟩, Nat.le_refl _, hbl, hX, ?_, ?_, ?_, ?_, ?_, ?_, ?_, ?_⟩
  · intro c q hq
    match c, hq with
    | 0, hq => obtain rfl : _ = q := Option.some.inj hq; exact k0
    | 1, hq => obtain rfl : _ = q := Option.some.inj hq; exact k1
    | 2, hq => obtain rfl : _ = q := Option.some.inj hq; exact k2
    | 3, hq => obtain rfl : _ = q := Option.some.inj hq; exact k3
    | 4, hq => obtain rfl : _ = q := Option.some.inj hq; exact k4
    | 5, hq => obtain rfl : _ = q := Option.some.inj hq; exact k5
    | 6, hq => obtain rfl : _ = q := Option.some.inj hq; exact k6
    | 7, hq => obtain rfl : _ = q := Option.some.inj hq; exact k7
    | n + 8, hq => exact absurd hq (by simp [zCl])
  · intro c q hq
    match c, hq with
    | 0, hq => obtain rfl : _ = q := Option.some.inj hq; exact ⟨p0, q0⟩
    | 1, hq => obtain rfl : _ = q := Option.some.inj hq; exact ⟨p1, q1⟩
    | 2, hq => obtain rfl : _ = q := Option.some.inj hq; exact ⟨p2, q2⟩
    | 3, hq => obtain rfl : _ = q := Option.some.inj hq; exact ⟨p3, q3⟩
    | 4, hq => obtain rfl : _ = q := Option.some.inj hq; exact ⟨p4, q4⟩
    | n + 5, hq => exact absurd hq (by simp [zTy])
  · intro c q hq
    match c, hq with
    | 0, hq => obtain rfl : _ = q := Option.some.inj hq; exact r0
    | 1, hq => obtain rfl : _ = q := Option.some.inj hq; exact r1
    | 2, hq => obtain rfl : _ = q := Option.some.inj hq; exact r2
    | 3, hq => obtain rfl : _ = q := Option.some.inj hq; exact r3
    | 4, hq => obtain rfl : _ = q := Option.some.inj hq; exact r4
    | 5, hq => obtain rfl : _ = q := Option.some.inj hq; exact r5
    | 6, hq => obtain rfl : _ = q := Option.some.inj hq; exact r6
    | 7, hq => obtain rfl : _ = q := Option.some.inj hq; exact r7
    | 8, hq => obtain rfl : _ = q := Option.some.inj hq; exact r8
    | 9, hq => obtain rfl : _ = q := Option.some.inj hq; exact r9
    | n + 10, hq => exact absurd hq (by simp [zStr])
  · exact vx_Zqof (zTb (w := Cond.laysStatic "java/lang/Throwable" "UNASSIGNED_STACK" "[Ljava/lang/StackTraceElement;") hts 229 (by decide +kernel)) (zTb (w := Cond.initialized "java/lang/Throwable") hts 10 (by decide +kernel)) (hg _ (by decide +kernel)) (fun a h => Nat.not_le.mpr h)
  · exact vx_Zqof (zTb (w := Cond.laysStatic "java/lang/Throwable" "SUPPRESSED_SENTINEL" "Ljava/util/List;") hts 231 (by decide +kernel)) (zTb (w := Cond.initialized "java/lang/Throwable") hts 10 (by decide +kernel)) (hg _ (by decide +kernel)) (fun a h => Nat.not_le.mpr h)
  · intro q hq
    rcases (by simpa [zCs] using hq : q = ("java/lang/IndexOutOfBoundsException", "java/lang/IndexOutOfBoundsException") ∨ q = ("java/lang/IllegalArgumentException", "java/lang/IllegalArgumentException") ∨ q = ("java/lang/IllegalStateException", "java/lang/IllegalStateException") ∨ q = ("java/util/NoSuchElementException", "java/util/NoSuchElementException")) with rfl | rfl | rfl | rfl
    · exact va_Nw.of rfl (zTb (w := Cond.castable "java/lang/IndexOutOfBoundsException" "java/lang/IndexOutOfBoundsException") hts 204 (by decide +kernel))
    · exact va_Nw.of rfl (zTb (w := Cond.castable "java/lang/IllegalArgumentException" "java/lang/IllegalArgumentException") hts 279 (by decide +kernel))
    · exact va_Nw.of rfl (zTb (w := Cond.castable "java/lang/IllegalStateException" "java/lang/IllegalStateException") hts 295 (by decide +kernel))
    · exact va_Nw.of rfl (zTb (w := Cond.castable "java/util/NoSuchElementException" "java/util/NoSuchElementException") hts 497 (by decide +kernel))
  · intro q hq
    rcases (by simpa [zDs] using hq : q = (⟨"java/lang/RuntimeException", "<init>", "(Ljava/lang/String;)V"⟩ : MethodName) ∨ q = (⟨"java/lang/Exception", "<init>", "(Ljava/lang/String;)V"⟩ : MethodName) ∨ q = (⟨"java/lang/Throwable", "<init>", "(Ljava/lang/String;)V"⟩ : MethodName)) with rfl | rfl | rfl
    · exact va_Nw.of rfl (zTb (w := Cond.declares (⟨"java/lang/RuntimeException", "<init>", "(Ljava/lang/String;)V"⟩ : MethodName)) hts 206 (by decide +kernel))
    · exact va_Nw.of rfl (zTb (w := Cond.declares (⟨"java/lang/Exception", "<init>", "(Ljava/lang/String;)V"⟩ : MethodName)) hts 208 (by decide +kernel))
    · exact va_Nw.of rfl (zTb (w := Cond.declares (⟨"java/lang/Throwable", "<init>", "(Ljava/lang/String;)V"⟩ : MethodName)) hts 210 (by decide +kernel))
  · intro q hq
    rcases (by simpa [zNc] using hq : q = ("java/lang/IndexOutOfBoundsException", "java/lang/IllegalArgumentException") ∨ q = ("java/lang/IndexOutOfBoundsException", "java/lang/IllegalStateException") ∨ q = ("java/lang/IndexOutOfBoundsException", "java/util/NoSuchElementException") ∨ q = ("java/lang/IllegalArgumentException", "java/lang/IndexOutOfBoundsException") ∨ q = ("java/lang/IllegalArgumentException", "java/lang/IllegalStateException") ∨ q = ("java/lang/IllegalArgumentException", "java/util/NoSuchElementException") ∨ q = ("java/lang/IllegalStateException", "java/lang/IndexOutOfBoundsException") ∨ q = ("java/lang/IllegalStateException", "java/lang/IllegalArgumentException") ∨ q = ("java/lang/IllegalStateException", "java/util/NoSuchElementException") ∨ q = ("java/util/NoSuchElementException", "java/lang/IndexOutOfBoundsException") ∨ q = ("java/util/NoSuchElementException", "java/lang/IllegalArgumentException") ∨ q = ("java/util/NoSuchElementException", "java/lang/IllegalStateException")) with rfl | rfl | rfl | rfl | rfl | rfl | rfl | rfl | rfl | rfl | rfl | rfl
    · exact va_Nc.of (hg (Cond.not (.castable "java/lang/IndexOutOfBoundsException" "java/lang/IllegalArgumentException")) (by decide +kernel))
    · exact va_Nc.of (hg (Cond.not (.castable "java/lang/IndexOutOfBoundsException" "java/lang/IllegalStateException")) (by decide +kernel))
    · exact va_Nc.of (hg (Cond.not (.castable "java/lang/IndexOutOfBoundsException" "java/util/NoSuchElementException")) (by decide +kernel))
    · exact va_Nc.of (hg (Cond.not (.castable "java/lang/IllegalArgumentException" "java/lang/IndexOutOfBoundsException")) (by decide +kernel))
    · exact va_Nc.of (hg (Cond.not (.castable "java/lang/IllegalArgumentException" "java/lang/IllegalStateException")) (by decide +kernel))
    · exact va_Nc.of (hg (Cond.not (.castable "java/lang/IllegalArgumentException" "java/util/NoSuchElementException")) (by decide +kernel))
    · exact va_Nc.of (hg (Cond.not (.castable "java/lang/IllegalStateException" "java/lang/IndexOutOfBoundsException")) (by decide +kernel))
    · exact va_Nc.of (hg (Cond.not (.castable "java/lang/IllegalStateException" "java/lang/IllegalArgumentException")) (by decide +kernel))
    · exact va_Nc.of (hg (Cond.not (.castable "java/lang/IllegalStateException" "java/util/NoSuchElementException")) (by decide +kernel))
    · exact va_Nc.of (hg (Cond.not (.castable "java/util/NoSuchElementException" "java/lang/IndexOutOfBoundsException")) (by decide +kernel))
    · exact va_Nc.of (hg (Cond.not (.castable "java/util/NoSuchElementException" "java/lang/IllegalArgumentException")) (by decide +kernel))
    · exact va_Nc.of (hg (Cond.not (.castable "java/util/NoSuchElementException" "java/lang/IllegalStateException")) (by decide +kernel))
  · intro q hq
    rcases (by simpa [zAo] using hq : q = "BufferedCores$Core" ∨ q = "BufferedCores$Line") with rfl | rfl
    · exact va_AO.of (zTb (w := Cond.arrayOver (.object "BufferedCores$Core")) hts 32 (by decide +kernel))
    · exact va_AO.of (zTb (w := Cond.arrayOver (.object "BufferedCores$Line")) hts 63 (by decide +kernel))
  · intro q hq
    rcases (by simpa [zNl] using hq : q = ("BufferedCores$Core", 17, (⟨"BufferedCores$Program", "<init>", "()V"⟩ : MethodName), "BufferedCores") ∨ q = ("BufferedCores$Core", 30, (⟨"BufferedCores$Request", "<init>", "()V"⟩ : MethodName), "BufferedCores") ∨ q = ("BufferedCores$Core", 48, (⟨"BufferedCores$Line", "<init>", "()V"⟩ : MethodName), "BufferedCores") ∨ q = ("BufferedCores", 33, (⟨"BufferedCores$Log", "<init>", "()V"⟩ : MethodName), "BufferedCores")) with rfl | rfl | rfl | rfl
    · exact va_Nw.of rfl (zTb (w := Cond.methodLinkNest "BufferedCores$Core" 17 (⟨"BufferedCores$Program", "<init>", "()V"⟩ : MethodName) "BufferedCores") hts 40 (by decide +kernel))
    · exact va_Nw.of rfl (zTb (w := Cond.methodLinkNest "BufferedCores$Core" 30 (⟨"BufferedCores$Request", "<init>", "()V"⟩ : MethodName) "BufferedCores") hts 66 (by decide +kernel))
    · exact va_Nw.of rfl (zTb (w := Cond.methodLinkNest "BufferedCores$Core" 48 (⟨"BufferedCores$Line", "<init>", "()V"⟩ : MethodName) "BufferedCores") hts 107 (by decide +kernel))
    · exact va_Nw.of rfl (zTb (w := Cond.methodLinkNest "BufferedCores" 33 (⟨"BufferedCores$Log", "<init>", "()V"⟩ : MethodName) "BufferedCores") hts 154 (by decide +kernel))
