/-! ===== need: it returns, or throws ===== -/
theorem as_self (vm : Vm) (k : ClassId) : vm.assignable k k = true := by
  show vm.assignableAux (255 + 1) k k = true
  rw [Vm.assignableAux, Bool.or_eq_true, beq_iff_eq]
  exact Or.inl rfl
theorem cast_self {args : Array Value} {s : State} {X : String} {n : Nat} (h : (Cond.instantiable X n).before args s = true) : (Cond.castable X X).before args s = true := by
  obtain ⟨k, kC, hf, -⟩ := Cond.instantiable_spec h
  have ha := as_self s.vm k
  simp [Cond.before, Cond.holds, Cond.value, hf, ha]
theorem decl_of {args : Array Value} {s : State} {x : MethodName} {b : ByteArray} {mL : Nat} {ret : Option FieldType} (h1 : (Cond.instanceMethod x).before args s = true) (h2 : (Cond.code x b mL ret).before args s = true) : (Cond.declares x).before args s = true := by
  obtain ⟨mk, mt, hn, hm, hst, -⟩ := Cond.instanceMethod_spec h1
  obtain ⟨mt', c, hm', -, -, -, -, -, -, hs⟩ := Cond.code_spec hn h2
  cases hm.symm.trans hm'
  simp [Cond.before, Cond.holds, Cond.value, hn, hm, hst, hs]
/-- the words that are no good words: what they say follows from others -/
def odd (X : String) : List Cond := [.isRef (.static Bundle.tN "UNASSIGNED_STACK" Bundle.steD), .isRef (.static Bundle.tN "SUPPRESSED_SENTINEL" Bundle.listD), .castable X X, .laysStatic Bundle.tN "UNASSIGNED_STACK" Bundle.steD, .laysStatic Bundle.tN "SUPPRESSED_SENTINEL" Bundle.listD, .declares ⟨"java/lang/RuntimeException", "<init>", "()V"⟩, .declares ⟨"java/lang/Exception", "<init>", "()V"⟩, .declares ⟨"java/lang/Throwable", "<init>", "()V"⟩]
theorem atomsT {args : Array Value} {s : State} {A : Nat → Prop} (hal : ∀ w ∈ al, w.before args s = true) (hZ : ZT A s) {own X : String} {ic : Nat} (key : Cond.instantiable X 6 ∈ al ∧ ∀ a ∈ Bundle.ownAtoms0 own ic X upN, a ∈ al ∨ a ∈ odd X) : ∀ a ∈ Bundle.ownAtoms0 own ic X upN, a.before args s = true := fun a ha => by
  rcases key.2 a ha with h | h
  · exact hal a h
  · simp only [odd, List.mem_cons, List.not_mem_nil, or_false] at h
    rcases h with rfl | rfl | rfl | rfl | rfl | rfl | rfl | rfl
    · exact hZ.1.ref args
    · exact hZ.2.ref args
    · exact cast_self (hal _ key.1)
    · exact hZ.1.lay args
    · exact hZ.2.lay args
    · exact decl_of (hal _ m_418) (hal _ m_419)
    · exact decl_of (hal _ m_421) (hal _ m_422)
    · exact decl_of (hal _ m_397) (hal _ m_398)
def cand0 : List Cond := [(Jvm.Cond.initialized "java/lang/Throwable"),
  (Jvm.Cond.initialized "java/lang/Exception"),
  (Jvm.Cond.initialized "java/lang/RuntimeException"),
  (Jvm.Cond.initialized "java/lang/IllegalArgumentException"),
  (Jvm.Cond.initialized "java/lang/IndexOutOfBoundsException"),
  (Jvm.Cond.methodLink "PictureMachine" (1 : Nat) ({ cls := "java/lang/Object", name := "<init>", desc := "()V" } : Jvm.MethodName)),
  (Jvm.Cond.instanceMethod ({ cls := "java/lang/Object", name := "<init>", desc := "()V" } : Jvm.MethodName)),
  (Jvm.Cond.code ({ cls := "java/lang/Object", name := "<init>", desc := "()V" } : Jvm.MethodName) object_method_1_code (1 : Nat) (Option.none : Option Jvm.ClassFile.FieldType)),
  (Jvm.Cond.methodLink "PictureMachine$Board" (3 : Nat) ({ cls := "java/lang/Object", name := "<init>", desc := "()V" } : Jvm.MethodName)),
  (Jvm.Cond.methodLink "PictureMachine$Clock" (3 : Nat) ({ cls := "java/lang/Object", name := "<init>", desc := "()V" } : Jvm.MethodName)),
  (Jvm.Cond.superclass "PictureMachine$Clock" "java/lang/Object"),
  (Jvm.Cond.methodLink "PictureMachine$Wires" (1 : Nat) ({ cls := "java/lang/Object", name := "<init>", desc := "()V" } : Jvm.MethodName)),
  (Jvm.Cond.superclass "PictureMachine$Wires" "java/lang/Object"),
  (Jvm.Cond.methodLink "PictureMachine$Memory" (3 : Nat) ({ cls := "java/lang/Object", name := "<init>", desc := "()V" } : Jvm.MethodName)),
  (Jvm.Cond.superclass "PictureMachine$Memory" "java/lang/Object"),
  (Jvm.Cond.methodLink "PictureMachine$Drive" (3 : Nat) ({ cls := "java/lang/Object", name := "<init>", desc := "()V" } : Jvm.MethodName)),
  (Jvm.Cond.superclass "PictureMachine$Drive" "java/lang/Object"),
  (Jvm.Cond.methodLink "PictureMachine$Chance" (3 : Nat) ({ cls := "java/lang/Object", name := "<init>", desc := "()V" } : Jvm.MethodName)),
  (Jvm.Cond.superclass "PictureMachine$Chance" "java/lang/Object"),
  (Jvm.Cond.methodLink "PictureMachine$Display" (3 : Nat) ({ cls := "java/lang/Object", name := "<init>", desc := "()V" } : Jvm.MethodName)),
  (Jvm.Cond.superclass "PictureMachine$Display" "java/lang/Object"),
  (Jvm.Cond.methodLink "PictureMachine$Picture" (3 : Nat) ({ cls := "java/lang/Object", name := "<init>", desc := "()V" } : Jvm.MethodName)),
  (Jvm.Cond.superclass "PictureMachine$Picture" "java/lang/Object"),
  (Jvm.Cond.superclass "PictureMachine$Board" "java/lang/Object"),
  (Jvm.Cond.methodLink "PictureMachine$Processor" (3 : Nat) ({ cls := "java/lang/Object", name := "<init>", desc := "()V" } : Jvm.MethodName)),
  (Jvm.Cond.superclass "PictureMachine$Processor" "java/lang/Object"),
  (Jvm.Cond.superclass "PictureMachine" "java/lang/Object"),
  (Jvm.Cond.classLink "PictureMachineLaw" (13 : Nat) "java/lang/IllegalArgumentException"),
  (Jvm.Cond.classLink "PictureMachine" (233 : Nat) "java/lang/IllegalArgumentException"),
  (Jvm.Cond.instantiable "java/lang/IllegalArgumentException" (6 : Nat)),
  (Jvm.Cond.declares ({ cls := "java/lang/RuntimeException", name := "<init>", desc := "()V" } : Jvm.MethodName)),
  (Jvm.Cond.declares ({ cls := "java/lang/RuntimeException", name := "<init>", desc := "(Ljava/lang/String;)V" } : Jvm.MethodName)),
  (Jvm.Cond.declares ({ cls := "java/lang/Exception", name := "<init>", desc := "()V" } : Jvm.MethodName)),
  (Jvm.Cond.declares ({ cls := "java/lang/Exception", name := "<init>", desc := "(Ljava/lang/String;)V" } : Jvm.MethodName)),
  (Jvm.Cond.declares ({ cls := "java/lang/Throwable", name := "<init>", desc := "()V" } : Jvm.MethodName)),
  (Jvm.Cond.declares ({ cls := "java/lang/Throwable", name := "<init>", desc := "(Ljava/lang/String;)V" } : Jvm.MethodName)),
  (Jvm.Cond.selects "java/lang/IllegalArgumentException" ({ cls := "java/lang/Throwable", name := "fillInStackTrace", desc := "(I)Ljava/lang/Throwable;" } : Jvm.MethodName) ({ cls := "java/lang/Throwable", name := "fillInStackTrace", desc := "(I)Ljava/lang/Throwable;" } : Jvm.MethodName)),
  (Jvm.Cond.selects "java/lang/IllegalArgumentException" ({ cls := "java/lang/Throwable", name := "fillInStackTrace", desc := "()Ljava/lang/Throwable;" } : Jvm.MethodName) ({ cls := "java/lang/Throwable", name := "fillInStackTrace", desc := "()Ljava/lang/Throwable;" } : Jvm.MethodName)),
  (Jvm.Cond.lays "java/lang/IllegalArgumentException" "java/lang/Throwable" "cause" "Ljava/lang/Throwable;"),
  (Jvm.Cond.lays "java/lang/Throwable" "java/lang/Throwable" "cause" "Ljava/lang/Throwable;"),
  (Jvm.Cond.lays "java/lang/IllegalArgumentException" "java/lang/Throwable" "stackTrace" "[Ljava/lang/StackTraceElement;"),
  (Jvm.Cond.lays "java/lang/Throwable" "java/lang/Throwable" "stackTrace" "[Ljava/lang/StackTraceElement;"),
  (Jvm.Cond.lays "java/lang/IllegalArgumentException" "java/lang/Throwable" "suppressedExceptions" "Ljava/util/List;"),
  (Jvm.Cond.lays "java/lang/Throwable" "java/lang/Throwable" "suppressedExceptions" "Ljava/util/List;"),
  (Jvm.Cond.lays "java/lang/IllegalArgumentException" "java/lang/Throwable" "detailMessage" "Ljava/lang/String;"),
  (Jvm.Cond.lays "java/lang/Throwable" "java/lang/Throwable" "detailMessage" "Ljava/lang/String;"),
  (Jvm.Cond.lays "java/lang/IllegalArgumentException" "java/lang/Throwable" "backtrace" "Ljava/lang/Object;"),
  (Jvm.Cond.lays "java/lang/Throwable" "java/lang/Throwable" "backtrace" "Ljava/lang/Object;"),
  (Jvm.Cond.fieldLink "java/lang/Throwable" (198 : Nat) "java/lang/Throwable" "backtrace" "Ljava/lang/Object;"),
  (Jvm.Cond.superclass "java/lang/Throwable" "java/lang/Object"),
  (Jvm.Cond.instanceMethod ({ cls := "java/lang/Throwable", name := "<init>", desc := "()V" } : Jvm.MethodName)),
  (Jvm.Cond.code ({ cls := "java/lang/Throwable", name := "<init>", desc := "()V" } : Jvm.MethodName) prog_18_method_1_code (1 : Nat) (Option.none : Option Jvm.ClassFile.FieldType)),
  (Jvm.Cond.methodLink "java/lang/Throwable" (1 : Nat) ({ cls := "java/lang/Object", name := "<init>", desc := "()V" } : Jvm.MethodName)),
  (Jvm.Cond.fieldLink "java/lang/Throwable" (13 : Nat) "java/lang/Throwable" "UNASSIGNED_STACK" "[Ljava/lang/StackTraceElement;"),
  (Jvm.Cond.laysStatic "java/lang/Throwable" "UNASSIGNED_STACK" "[Ljava/lang/StackTraceElement;"),
  (Jvm.Cond.fieldLink "java/lang/Throwable" (20 : Nat) "java/lang/Throwable" "SUPPRESSED_SENTINEL" "Ljava/util/List;"),
  (Jvm.Cond.laysStatic "java/lang/Throwable" "SUPPRESSED_SENTINEL" "Ljava/util/List;"),
  (Jvm.Cond.methodLink "java/lang/Throwable" (27 : Nat) ({ cls := "java/lang/Throwable", name := "fillInStackTrace", desc := "()Ljava/lang/Throwable;" } : Jvm.MethodName)),
  (Jvm.Cond.instanceMethod ({ cls := "java/lang/Throwable", name := "fillInStackTrace", desc := "()Ljava/lang/Throwable;" } : Jvm.MethodName)),
  (Jvm.Cond.sameMethod "java/lang/Throwable" "java/lang/Throwable" "fillInStackTrace" "()Ljava/lang/Throwable;"),
  (Jvm.Cond.selects "java/lang/IndexOutOfBoundsException" ({ cls := "java/lang/Throwable", name := "fillInStackTrace", desc := "()Ljava/lang/Throwable;" } : Jvm.MethodName) ({ cls := "java/lang/Throwable", name := "fillInStackTrace", desc := "()Ljava/lang/Throwable;" } : Jvm.MethodName)),
  (Jvm.Cond.codeSync ({ cls := "java/lang/Throwable", name := "fillInStackTrace", desc := "()Ljava/lang/Throwable;" } : Jvm.MethodName) prog_18_method_18_code (1 : Nat) (Option.some (Jvm.ClassFile.FieldType.object "java/lang/Throwable"))),
  (Jvm.Cond.methodLink "java/lang/Throwable" (202 : Nat) ({ cls := "java/lang/Throwable", name := "fillInStackTrace", desc := "(I)Ljava/lang/Throwable;" } : Jvm.MethodName)),
  (Jvm.Cond.privateMethod ({ cls := "java/lang/Throwable", name := "fillInStackTrace", desc := "(I)Ljava/lang/Throwable;" } : Jvm.MethodName)),
  (Jvm.Cond.instanceMethod ({ cls := "java/lang/Throwable", name := "fillInStackTrace", desc := "(I)Ljava/lang/Throwable;" } : Jvm.MethodName)),
  (Jvm.Cond.instantiable "java/lang/Throwable" (6 : Nat)),
  (Jvm.Cond.native ({ cls := "java/lang/Throwable", name := "fillInStackTrace", desc := "(I)Ljava/lang/Throwable;" } : Jvm.MethodName)),
  (Jvm.Cond.methodLink "PictureMachine" (235 : Nat) ({ cls := "java/lang/IllegalArgumentException", name := "<init>", desc := "()V" } : Jvm.MethodName)),
  (Jvm.Cond.instanceMethod ({ cls := "java/lang/IllegalArgumentException", name := "<init>", desc := "()V" } : Jvm.MethodName)),
  (Jvm.Cond.code ({ cls := "java/lang/IllegalArgumentException", name := "<init>", desc := "()V" } : Jvm.MethodName) prog_14_method_1_code (1 : Nat) (Option.none : Option Jvm.ClassFile.FieldType)),
  (Jvm.Cond.methodLink "java/lang/IllegalArgumentException" (1 : Nat) ({ cls := "java/lang/RuntimeException", name := "<init>", desc := "()V" } : Jvm.MethodName)),
  (Jvm.Cond.instanceMethod ({ cls := "java/lang/RuntimeException", name := "<init>", desc := "()V" } : Jvm.MethodName)),
  (Jvm.Cond.code ({ cls := "java/lang/RuntimeException", name := "<init>", desc := "()V" } : Jvm.MethodName) prog_16_method_1_code (1 : Nat) (Option.none : Option Jvm.ClassFile.FieldType)),
  (Jvm.Cond.methodLink "java/lang/RuntimeException" (1 : Nat) ({ cls := "java/lang/Exception", name := "<init>", desc := "()V" } : Jvm.MethodName)),
  (Jvm.Cond.instanceMethod ({ cls := "java/lang/Exception", name := "<init>", desc := "()V" } : Jvm.MethodName)),
  (Jvm.Cond.code ({ cls := "java/lang/Exception", name := "<init>", desc := "()V" } : Jvm.MethodName) prog_13_method_1_code (1 : Nat) (Option.none : Option Jvm.ClassFile.FieldType)),
  (Jvm.Cond.methodLink "java/lang/Exception" (1 : Nat) ({ cls := "java/lang/Throwable", name := "<init>", desc := "()V" } : Jvm.MethodName)),
  (Jvm.Cond.fieldLink "java/lang/Throwable" (198 : Nat) "java/lang/Throwable" "backtrace" "Ljava/lang/Object;"),
  (Jvm.Cond.fieldLink "java/lang/Throwable" (7 : Nat) "java/lang/Throwable" "cause" "Ljava/lang/Throwable;"),
  (Jvm.Cond.fieldLink "java/lang/Throwable" (17 : Nat) "java/lang/Throwable" "stackTrace" "[Ljava/lang/StackTraceElement;"),
  (Jvm.Cond.fieldLink "java/lang/Throwable" (24 : Nat) "java/lang/Throwable" "suppressedExceptions" "Ljava/util/List;"),
  (Jvm.Cond.soleField "java/lang/Throwable" "backtrace"),
  (Jvm.Cond.soleField "java/lang/Throwable" "detailMessage"),
  (Jvm.Cond.soleField "java/lang/Throwable" "cause"),
  (Jvm.Cond.soleField "java/lang/Throwable" "stackTrace"),
  (Jvm.Cond.lays "java/lang/IllegalArgumentException" "java/lang/Throwable" "depth" "I"),
  (Jvm.Cond.soleField "java/lang/Throwable" "depth"),
  (Jvm.Cond.soleField "java/lang/Throwable" "suppressedExceptions"),
  (Jvm.Cond.superclass "java/lang/IllegalArgumentException" "java/lang/RuntimeException"),
  (Jvm.Cond.classLink "PictureMachineLaw" (40 : Nat) "java/lang/IndexOutOfBoundsException"),
  (Jvm.Cond.classLink "PictureMachine" (82 : Nat) "java/lang/IndexOutOfBoundsException"),
  (Jvm.Cond.instantiable "java/lang/IndexOutOfBoundsException" (6 : Nat)),
  (Jvm.Cond.selects "java/lang/IndexOutOfBoundsException" ({ cls := "java/lang/Throwable", name := "fillInStackTrace", desc := "(I)Ljava/lang/Throwable;" } : Jvm.MethodName) ({ cls := "java/lang/Throwable", name := "fillInStackTrace", desc := "(I)Ljava/lang/Throwable;" } : Jvm.MethodName)),
  (Jvm.Cond.lays "java/lang/IndexOutOfBoundsException" "java/lang/Throwable" "cause" "Ljava/lang/Throwable;"),
  (Jvm.Cond.lays "java/lang/IndexOutOfBoundsException" "java/lang/Throwable" "stackTrace" "[Ljava/lang/StackTraceElement;"),
  (Jvm.Cond.lays "java/lang/IndexOutOfBoundsException" "java/lang/Throwable" "suppressedExceptions" "Ljava/util/List;"),
  (Jvm.Cond.lays "java/lang/IndexOutOfBoundsException" "java/lang/Throwable" "detailMessage" "Ljava/lang/String;"),
  (Jvm.Cond.lays "java/lang/IndexOutOfBoundsException" "java/lang/Throwable" "backtrace" "Ljava/lang/Object;"),
  (Jvm.Cond.methodLink "PictureMachine" (84 : Nat) ({ cls := "java/lang/IndexOutOfBoundsException", name := "<init>", desc := "()V" } : Jvm.MethodName)),
  (Jvm.Cond.instanceMethod ({ cls := "java/lang/IndexOutOfBoundsException", name := "<init>", desc := "()V" } : Jvm.MethodName)),
  (Jvm.Cond.code ({ cls := "java/lang/IndexOutOfBoundsException", name := "<init>", desc := "()V" } : Jvm.MethodName) prog_15_method_1_code (1 : Nat) (Option.none : Option Jvm.ClassFile.FieldType)),
  (Jvm.Cond.methodLink "java/lang/IndexOutOfBoundsException" (1 : Nat) ({ cls := "java/lang/RuntimeException", name := "<init>", desc := "()V" } : Jvm.MethodName)),
  (Jvm.Cond.lays "java/lang/IndexOutOfBoundsException" "java/lang/Throwable" "depth" "I"),
  (Jvm.Cond.superclass "java/lang/IndexOutOfBoundsException" "java/lang/RuntimeException"),
  (Jvm.Cond.methodLink "PictureMachineModel" (1 : Nat) ({ cls := "java/lang/Object", name := "<init>", desc := "()V" } : Jvm.MethodName)),
  (Jvm.Cond.superclass "PictureMachineModel" "java/lang/Object"),
  (Jvm.Cond.sameMethod "java/lang/Throwable" "java/lang/Throwable" "fillInStackTrace" "(I)Ljava/lang/Throwable;")]
theorem cand_in : ∀ w ∈ cand0, w ∈ tables_1 := by
  intro w hw
  simp only [cand0, List.mem_cons, List.not_mem_nil, or_false] at hw
  rcases hw with rfl | rfl | rfl | rfl | rfl | rfl | rfl | rfl | rfl | rfl | rfl | rfl | rfl | rfl | rfl | rfl | rfl | rfl | rfl | rfl | rfl | rfl | rfl | rfl | rfl | rfl | rfl | rfl | rfl | rfl | rfl | rfl | rfl | rfl | rfl | rfl | rfl | rfl | rfl | rfl | rfl | rfl | rfl | rfl | rfl | rfl | rfl | rfl | rfl | rfl | rfl | rfl | rfl | rfl | rfl | rfl | rfl | rfl | rfl | rfl | rfl | rfl | rfl | rfl | rfl | rfl | rfl | rfl | rfl | rfl | rfl | rfl | rfl | rfl | rfl | rfl | rfl | rfl | rfl | rfl | rfl | rfl | rfl | rfl | rfl | rfl | rfl | rfl | rfl | rfl | rfl | rfl | rfl | rfl | rfl | rfl | rfl | rfl | rfl | rfl | rfl | rfl | rfl | rfl | rfl | rfl | rfl
  · exact ck_1 (List.mem_of_getElem? (i := 12) (by decide +kernel))
  · exact ck_1 (List.mem_of_getElem? (i := 13) (by decide +kernel))
  · exact ck_1 (List.mem_of_getElem? (i := 14) (by decide +kernel))
  · exact ck_1 (List.mem_of_getElem? (i := 15) (by decide +kernel))
  · exact ck_1 (List.mem_of_getElem? (i := 17) (by decide +kernel))
  · exact ck_1 (List.mem_of_getElem? (i := 23) (by decide +kernel))
  · exact ck_1 (List.mem_of_getElem? (i := 24) (by decide +kernel))
  · exact ck_1 (List.mem_of_getElem? (i := 25) rfl)
  · exact ck_1 (List.mem_of_getElem? (i := 31) (by decide +kernel))
  · exact ck_1 (List.mem_of_getElem? (i := 37) (by decide +kernel))
  · exact ck_1 (List.mem_of_getElem? (i := 51) (by decide +kernel))
  · exact ck_1 (List.mem_of_getElem? (i := 57) (by decide +kernel))
  · exact ck_1 (List.mem_of_getElem? (i := 69) (by decide +kernel))
  · exact ck_1 (List.mem_of_getElem? (i := 75) (by decide +kernel))
  · exact ck_1 (List.mem_of_getElem? (i := 80) (by decide +kernel))
  · exact ck_1 (List.mem_of_getElem? (i := 87) (by decide +kernel))
  · exact ck_1 (List.mem_of_getElem? (i := 123) (by decide +kernel))
  · exact ck_1 (List.mem_of_getElem? (i := 129) (by decide +kernel))
  · exact ck_1 (List.mem_of_getElem? (i := 146) (by decide +kernel))
  · exact ck_1 (List.mem_of_getElem? (i := 152) (by decide +kernel))
  · exact ck_1 (List.mem_of_getElem? (i := 200) (by decide +kernel))
  · exact ck_1 (List.mem_of_getElem? (i := 206) (by decide +kernel))
  · exact ck_1 (List.mem_of_getElem? (i := 226) (by decide +kernel))
  · exact ck_2 (List.mem_of_getElem? (i := 25) (by decide +kernel))
  · exact ck_2 (List.mem_of_getElem? (i := 31) (by decide +kernel))
  · exact ck_2 (List.mem_of_getElem? (i := 78) (by decide +kernel))
  · exact ck_2 (List.mem_of_getElem? (i := 85) (by decide +kernel))
  · exact ck_2 (List.mem_of_getElem? (i := 120) (by decide +kernel))
  · exact ck_2 (List.mem_of_getElem? (i := 134) (by decide +kernel))
  · exact ck_2 (List.mem_of_getElem? (i := 135) (by decide +kernel))
  · exact ck_2 (List.mem_of_getElem? (i := 137) (by decide +kernel))
  · exact ck_2 (List.mem_of_getElem? (i := 138) (by decide +kernel))
  · exact ck_2 (List.mem_of_getElem? (i := 139) (by decide +kernel))
  · exact ck_2 (List.mem_of_getElem? (i := 140) (by decide +kernel))
  · exact ck_2 (List.mem_of_getElem? (i := 141) (by decide +kernel))
  · exact ck_2 (List.mem_of_getElem? (i := 142) (by decide +kernel))
  · exact ck_2 (List.mem_of_getElem? (i := 143) (by decide +kernel))
  · exact ck_2 (List.mem_of_getElem? (i := 144) (by decide +kernel))
  · exact ck_2 (List.mem_of_getElem? (i := 145) (by decide +kernel))
  · exact ck_2 (List.mem_of_getElem? (i := 146) (by decide +kernel))
  · exact ck_2 (List.mem_of_getElem? (i := 147) (by decide +kernel))
  · exact ck_2 (List.mem_of_getElem? (i := 148) (by decide +kernel))
  · exact ck_2 (List.mem_of_getElem? (i := 149) (by decide +kernel))
  · exact ck_2 (List.mem_of_getElem? (i := 150) (by decide +kernel))
  · exact ck_2 (List.mem_of_getElem? (i := 151) (by decide +kernel))
  · exact ck_2 (List.mem_of_getElem? (i := 152) (by decide +kernel))
  · exact ck_2 (List.mem_of_getElem? (i := 153) (by decide +kernel))
  · exact ck_2 (List.mem_of_getElem? (i := 154) (by decide +kernel))
  · exact ck_2 (List.mem_of_getElem? (i := 155) (by decide +kernel))
  · exact ck_2 (List.mem_of_getElem? (i := 156) (by decide +kernel))
  · exact ck_2 (List.mem_of_getElem? (i := 157) (by decide +kernel))
  · exact ck_2 (List.mem_of_getElem? (i := 158) rfl)
  · exact ck_2 (List.mem_of_getElem? (i := 159) (by decide +kernel))
  · exact ck_2 (List.mem_of_getElem? (i := 160) (by decide +kernel))
  · exact ck_2 (List.mem_of_getElem? (i := 161) (by decide +kernel))
  · exact ck_2 (List.mem_of_getElem? (i := 162) (by decide +kernel))
  · exact ck_2 (List.mem_of_getElem? (i := 163) (by decide +kernel))
  · exact ck_2 (List.mem_of_getElem? (i := 164) (by decide +kernel))
  · exact ck_2 (List.mem_of_getElem? (i := 165) (by decide +kernel))
  · exact ck_2 (List.mem_of_getElem? (i := 166) (by decide +kernel))
  · exact ck_2 (List.mem_of_getElem? (i := 167) (by decide +kernel))
  · exact ck_2 (List.mem_of_getElem? (i := 168) rfl)
  · exact ck_2 (List.mem_of_getElem? (i := 169) (by decide +kernel))
  · exact ck_2 (List.mem_of_getElem? (i := 170) (by decide +kernel))
  · exact ck_2 (List.mem_of_getElem? (i := 171) (by decide +kernel))
  · exact ck_2 (List.mem_of_getElem? (i := 172) (by decide +kernel))
  · exact ck_2 (List.mem_of_getElem? (i := 173) (by decide +kernel))
  · exact ck_2 (List.mem_of_getElem? (i := 174) (by decide +kernel))
  · exact ck_2 (List.mem_of_getElem? (i := 175) (by decide +kernel))
  · exact ck_2 (List.mem_of_getElem? (i := 176) rfl)
  · exact ck_2 (List.mem_of_getElem? (i := 177) (by decide +kernel))
  · exact ck_2 (List.mem_of_getElem? (i := 178) (by decide +kernel))
  · exact ck_2 (List.mem_of_getElem? (i := 179) rfl)
  · exact ck_2 (List.mem_of_getElem? (i := 180) (by decide +kernel))
  · exact ck_2 (List.mem_of_getElem? (i := 181) (by decide +kernel))
  · exact ck_2 (List.mem_of_getElem? (i := 182) rfl)
  · exact ck_2 (List.mem_of_getElem? (i := 183) (by decide +kernel))
  · exact ck_2 (List.mem_of_getElem? (i := 184) (by decide +kernel))
  · exact ck_2 (List.mem_of_getElem? (i := 185) (by decide +kernel))
  · exact ck_2 (List.mem_of_getElem? (i := 186) (by decide +kernel))
  · exact ck_2 (List.mem_of_getElem? (i := 187) (by decide +kernel))
  · exact ck_2 (List.mem_of_getElem? (i := 188) (by decide +kernel))
  · exact ck_2 (List.mem_of_getElem? (i := 189) (by decide +kernel))
  · exact ck_2 (List.mem_of_getElem? (i := 190) (by decide +kernel))
  · exact ck_2 (List.mem_of_getElem? (i := 191) (by decide +kernel))
  · exact ck_2 (List.mem_of_getElem? (i := 192) (by decide +kernel))
  · exact ck_2 (List.mem_of_getElem? (i := 193) (by decide +kernel))
  · exact ck_2 (List.mem_of_getElem? (i := 194) (by decide +kernel))
  · exact ck_2 (List.mem_of_getElem? (i := 195) (by decide +kernel))
  · exact ck_4 (List.mem_of_getElem? (i := 25) (by decide +kernel))
  · exact ck_4 (List.mem_of_getElem? (i := 30) (by decide +kernel))
  · exact ck_4 (List.mem_of_getElem? (i := 31) (by decide +kernel))
  · exact ck_4 (List.mem_of_getElem? (i := 33) (by decide +kernel))
  · exact ck_4 (List.mem_of_getElem? (i := 34) (by decide +kernel))
  · exact ck_4 (List.mem_of_getElem? (i := 35) (by decide +kernel))
  · exact ck_4 (List.mem_of_getElem? (i := 36) (by decide +kernel))
  · exact ck_4 (List.mem_of_getElem? (i := 37) (by decide +kernel))
  · exact ck_4 (List.mem_of_getElem? (i := 38) (by decide +kernel))
  · exact ck_4 (List.mem_of_getElem? (i := 39) (by decide +kernel))
  · exact ck_4 (List.mem_of_getElem? (i := 40) (by decide +kernel))
  · exact ck_4 (List.mem_of_getElem? (i := 41) rfl)
  · exact ck_4 (List.mem_of_getElem? (i := 42) (by decide +kernel))
  · exact ck_4 (List.mem_of_getElem? (i := 43) (by decide +kernel))
  · exact ck_4 (List.mem_of_getElem? (i := 44) (by decide +kernel))
  · exact ck_4 (List.mem_of_getElem? (i := 54) (by decide +kernel))
  · exact ck_4 (List.mem_of_getElem? (i := 202) (by decide +kernel))
  · exact ck_5 (List.mem_of_getElem? (i := 180) (by decide +kernel))
def cand : List Cond := cand0.filter goodWord
theorem cand_al {w : Cond} (h : w ∈ cand) : w ∈ al := al_in (cand_in w (List.mem_filter.mp h).1) (List.mem_filter.mp h).2
theorem key_of {own X : String} {ic : Nat} (h1 : Cond.instantiable X 6 ∈ cand) (h2 : ∀ a ∈ Bundle.ownAtoms0 own ic X upN, a ∈ cand ∨ a ∈ odd X) : Cond.instantiable X 6 ∈ al ∧ ∀ a ∈ Bundle.ownAtoms0 own ic X upN, a ∈ al ∨ a ∈ odd X := ⟨cand_al h1, fun a ha => (h2 a ha).imp cand_al id⟩
theorem key_IllegalArgumentException : Cond.instantiable "java/lang/IllegalArgumentException" 6 ∈ al ∧ ∀ a ∈ Bundle.ownAtoms0 "PictureMachine" 235 "java/lang/IllegalArgumentException" upN, a ∈ al ∨ a ∈ odd "java/lang/IllegalArgumentException" := key_of (by decide +kernel) (by decide +kernel)
theorem key_IndexOutOfBoundsException : Cond.instantiable "java/lang/IndexOutOfBoundsException" 6 ∈ al ∧ ∀ a ∈ Bundle.ownAtoms0 "PictureMachine" 84 "java/lang/IndexOutOfBoundsException" upN, a ∈ al ∨ a ∈ odd "java/lang/IndexOutOfBoundsException" := key_of (by decide +kernel) (by decide +kernel)
