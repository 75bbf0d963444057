theorem NW_tbl : ∀ w ∈ NW, w ∈ lw_tbl := by decide +kernel
theorem NW_at {b : Nat} {s : State} (hts : ∀ w ∈ lw_tbl, w.before #[Value.ref b] s = true) : ∀ w ∈ NW, va_Nw w s := by
  intro w hw
  have h := hts w (NW_tbl w hw)
  simp only [NW, List.mem_cons, List.not_mem_nil, or_false] at hw
  rcases hw with rfl | rfl | rfl | rfl | rfl | rfl <;> first | exact va_Nw.of rfl h | exact va_AO.of h
theorem sw_0 : Cond.stringRef "MachineTables" 80 "no such machine or state" ∈ lw_tbl := by decide +kernel
theorem sw_1 : Cond.stringRef "MachineTables" 88 "not as many inputs" ∈ lw_tbl := by decide +kernel
theorem sw_2 : Cond.stringRef "MachineTables" 123 "given up" ∈ lw_tbl := by decide +kernel
theorem sw_3 : Cond.stringRef "MachineTables" 130 "an output is no input, or too many pairs" ∈ lw_tbl := by decide +kernel
theorem sw_4 : Cond.stringRef "MachineTables" 144 "no such input of the word" ∈ lw_tbl := by decide +kernel
theorem xw_ok {b : Nat} {s : State} (hts : ∀ w ∈ lw_tbl, w.before #[Value.ref b] s = true) (hgv : (Jvm.Cond.and given_1 narrow_1).before #[Value.ref b] s = true) : ∀ w ∈ XW, w.before #[] s = true := by
  have hs := flat_of_before _ hgv
  have w0 : (Cond.laysStatic "java/lang/Throwable" "UNASSIGNED_STACK" "[Ljava/lang/StackTraceElement;").before #[] s = true := by
    have h := hts (Cond.laysStatic "java/lang/Throwable" "UNASSIGNED_STACK" "[Ljava/lang/StackTraceElement;") (by decide +kernel)
    first | exact va_tabs rfl rfl h | exact h
  have w1 : (Cond.laysStatic "java/lang/Throwable" "SUPPRESSED_SENTINEL" "Ljava/util/List;").before #[] s = true := by
    have h := hts (Cond.laysStatic "java/lang/Throwable" "SUPPRESSED_SENTINEL" "Ljava/util/List;") (by decide +kernel)
    first | exact va_tabs rfl rfl h | exact h
  have w2 : (Cond.isRef (.static "java/lang/Throwable" "UNASSIGNED_STACK" "[Ljava/lang/StackTraceElement;")).before #[] s = true := by
    have h := hs (Cond.isRef (.static "java/lang/Throwable" "UNASSIGNED_STACK" "[Ljava/lang/StackTraceElement;")) (by decide +kernel)
    first | exact va_tabs rfl rfl h | exact h
  have w3 : (Cond.isRef (.static "java/lang/Throwable" "SUPPRESSED_SENTINEL" "Ljava/util/List;")).before #[] s = true := by
    have h := hs (Cond.isRef (.static "java/lang/Throwable" "SUPPRESSED_SENTINEL" "Ljava/util/List;")) (by decide +kernel)
    first | exact va_tabs rfl rfl h | exact h
  have w4 : (Cond.declares ⟨"java/lang/Throwable", "<init>", "(Ljava/lang/String;)V"⟩).before #[] s = true := by
    have h := hts (Cond.declares ⟨"java/lang/Throwable", "<init>", "(Ljava/lang/String;)V"⟩) (by decide +kernel)
    first | exact va_tabs rfl rfl h | exact h
  have w5 : (Cond.declares ⟨"java/lang/Exception", "<init>", "(Ljava/lang/String;)V"⟩).before #[] s = true := by
    have h := hts (Cond.declares ⟨"java/lang/Exception", "<init>", "(Ljava/lang/String;)V"⟩) (by decide +kernel)
    first | exact va_tabs rfl rfl h | exact h
  have w6 : (Cond.declares ⟨"java/lang/RuntimeException", "<init>", "(Ljava/lang/String;)V"⟩).before #[] s = true := by
    have h := hts (Cond.declares ⟨"java/lang/RuntimeException", "<init>", "(Ljava/lang/String;)V"⟩) (by decide +kernel)
    first | exact va_tabs rfl rfl h | exact h
  have w7 : (Cond.castable "java/util/NoSuchElementException" "java/util/NoSuchElementException").before #[] s = true := by
    have h := hts (Cond.castable "java/util/NoSuchElementException" "java/util/NoSuchElementException") (by decide +kernel)
    first | exact va_tabs rfl rfl h | exact h
  have w8 : (Cond.castable "java/lang/IllegalArgumentException" "java/lang/IllegalArgumentException").before #[] s = true := by
    have h := hts (Cond.castable "java/lang/IllegalArgumentException" "java/lang/IllegalArgumentException") (by decide +kernel)
    first | exact va_tabs rfl rfl h | exact h
  have w9 : (Cond.castable "java/lang/ArithmeticException" "java/lang/ArithmeticException").before #[] s = true := by
    have h := hts (Cond.castable "java/lang/ArithmeticException" "java/lang/ArithmeticException") (by decide +kernel)
    first | exact va_tabs rfl rfl h | exact h
  intro w hw
  simp only [XW, List.mem_cons, List.not_mem_nil, or_false] at hw
  rcases hw with rfl | rfl | rfl | rfl | rfl | rfl | rfl | rfl | rfl | rfl
  · exact w0
  · exact w1
  · exact w2
  · exact w3
  · exact w4
  · exact w5
  · exact w6
  · exact w7
  · exact w8
  · exact w9
