/-! what a throw of NoSuchElementException needs -/
def xN : String := "java/util/NoSuchElementException"
def xns : List String := ["java/lang/RuntimeException", "java/lang/Exception"]
def xtb : List Cond := [(Jvm.Cond.initialized "java/lang/Throwable"), (Jvm.Cond.initialized "java/lang/Exception"), (Jvm.Cond.initialized "java/lang/RuntimeException"), (Jvm.Cond.initialized "java/util/NoSuchElementException"), (Jvm.Cond.methodLink "StationPiano" (3 : Nat) ({ cls := "java/lang/Object", name := "<init>", desc := "()V" } : Jvm.MethodName)), (Jvm.Cond.instanceMethod ({ cls := "java/lang/Object", name := "<init>", desc := "()V" } : Jvm.MethodName)), (Jvm.Cond.code ({ cls := "java/lang/Object", name := "<init>", desc := "()V" } : Jvm.MethodName) object_method_1_code (1 : Nat) (Option.none : Option Jvm.ClassFile.FieldType)), (Jvm.Cond.methodLink "StationPiano$Tape" (3 : Nat) ({ cls := "java/lang/Object", name := "<init>", desc := "()V" } : Jvm.MethodName)), (Jvm.Cond.methodLink "StationPiano$Reader" (3 : Nat) ({ cls := "java/lang/Object", name := "<init>", desc := "()V" } : Jvm.MethodName)), (Jvm.Cond.methodLink "StationPiano$Station" (3 : Nat) ({ cls := "java/lang/Object", name := "<init>", desc := "()V" } : Jvm.MethodName)), (Jvm.Cond.methodLink "StationPiano$Law" (3 : Nat) ({ cls := "java/lang/Object", name := "<init>", desc := "()V" } : Jvm.MethodName)), (Jvm.Cond.methodLink "StationPiano$Passer" (3 : Nat) ({ cls := "java/lang/Object", name := "<init>", desc := "()V" } : Jvm.MethodName)), (Jvm.Cond.methodLink "StationPiano$State" (3 : Nat) ({ cls := "java/lang/Object", name := "<init>", desc := "()V" } : Jvm.MethodName)), (Jvm.Cond.methodLink "StationPiano$Week" (3 : Nat) ({ cls := "java/lang/Object", name := "<init>", desc := "()V" } : Jvm.MethodName)), (Jvm.Cond.methodLink "StationPiano$Clues" (3 : Nat) ({ cls := "java/lang/Object", name := "<init>", desc := "()V" } : Jvm.MethodName)), (Jvm.Cond.methodLink "StationPiano$Suspects" (3 : Nat) ({ cls := "java/lang/Object", name := "<init>", desc := "()V" } : Jvm.MethodName)), (Jvm.Cond.methodLink "StationPiano$DayRun" (3 : Nat) ({ cls := "java/lang/Object", name := "<init>", desc := "()V" } : Jvm.MethodName)), (Jvm.Cond.methodLink "StationPiano$Mark" (1 : Nat) ({ cls := "java/lang/Object", name := "<init>", desc := "()V" } : Jvm.MethodName)), (Jvm.Cond.classLink "StationPianoLaw" (13 : Nat) "java/util/NoSuchElementException"), (Jvm.Cond.classLink "StationPiano" (217 : Nat) "java/util/NoSuchElementException"), (Jvm.Cond.instantiable "java/util/NoSuchElementException" (6 : Nat)), (Jvm.Cond.selects "java/util/NoSuchElementException" ({ cls := "java/lang/Throwable", name := "fillInStackTrace", desc := "(I)Ljava/lang/Throwable;" } : Jvm.MethodName) ({ cls := "java/lang/Throwable", name := "fillInStackTrace", desc := "(I)Ljava/lang/Throwable;" } : Jvm.MethodName)), (Jvm.Cond.selects "java/util/NoSuchElementException" ({ cls := "java/lang/Throwable", name := "fillInStackTrace", desc := "()Ljava/lang/Throwable;" } : Jvm.MethodName) ({ cls := "java/lang/Throwable", name := "fillInStackTrace", desc := "()Ljava/lang/Throwable;" } : Jvm.MethodName)), (Jvm.Cond.lays "java/util/NoSuchElementException" "java/lang/Throwable" "cause" "Ljava/lang/Throwable;"), (Jvm.Cond.lays "java/lang/Throwable" "java/lang/Throwable" "cause" "Ljava/lang/Throwable;"), (Jvm.Cond.lays "java/util/NoSuchElementException" "java/lang/Throwable" "stackTrace" "[Ljava/lang/StackTraceElement;"), (Jvm.Cond.lays "java/lang/Throwable" "java/lang/Throwable" "stackTrace" "[Ljava/lang/StackTraceElement;"), (Jvm.Cond.lays "java/util/NoSuchElementException" "java/lang/Throwable" "suppressedExceptions" "Ljava/util/List;"), (Jvm.Cond.lays "java/lang/Throwable" "java/lang/Throwable" "suppressedExceptions" "Ljava/util/List;"), (Jvm.Cond.lays "java/util/NoSuchElementException" "java/lang/Throwable" "detailMessage" "Ljava/lang/String;"), (Jvm.Cond.lays "java/lang/Throwable" "java/lang/Throwable" "detailMessage" "Ljava/lang/String;"), (Jvm.Cond.lays "java/util/NoSuchElementException" "java/lang/Throwable" "backtrace" "Ljava/lang/Object;"), (Jvm.Cond.lays "java/lang/Throwable" "java/lang/Throwable" "backtrace" "Ljava/lang/Object;"), (Jvm.Cond.fieldLink "java/lang/Throwable" (198 : Nat) "java/lang/Throwable" "backtrace" "Ljava/lang/Object;"), (Jvm.Cond.superclass "java/lang/Throwable" "java/lang/Object"), (Jvm.Cond.instanceMethod ({ cls := "java/lang/Throwable", name := "<init>", desc := "()V" } : Jvm.MethodName)), (Jvm.Cond.code ({ cls := "java/lang/Throwable", name := "<init>", desc := "()V" } : Jvm.MethodName) prog_26_method_1_code (1 : Nat) (Option.none : Option Jvm.ClassFile.FieldType)), (Jvm.Cond.methodLink "java/lang/Throwable" (1 : Nat) ({ cls := "java/lang/Object", name := "<init>", desc := "()V" } : Jvm.MethodName)), (Jvm.Cond.fieldLink "java/lang/Throwable" (13 : Nat) "java/lang/Throwable" "UNASSIGNED_STACK" "[Ljava/lang/StackTraceElement;"), (Jvm.Cond.laysStatic "java/lang/Throwable" "UNASSIGNED_STACK" "[Ljava/lang/StackTraceElement;"), (Jvm.Cond.fieldLink "java/lang/Throwable" (20 : Nat) "java/lang/Throwable" "SUPPRESSED_SENTINEL" "Ljava/util/List;"), (Jvm.Cond.laysStatic "java/lang/Throwable" "SUPPRESSED_SENTINEL" "Ljava/util/List;"), (Jvm.Cond.methodLink "java/lang/Throwable" (27 : Nat) ({ cls := "java/lang/Throwable", name := "fillInStackTrace", desc := "()Ljava/lang/Throwable;" } : Jvm.MethodName)), (Jvm.Cond.instanceMethod ({ cls := "java/lang/Throwable", name := "fillInStackTrace", desc := "()Ljava/lang/Throwable;" } : Jvm.MethodName)), (Jvm.Cond.sameMethod "java/lang/Throwable" "java/lang/Throwable" "fillInStackTrace" "()Ljava/lang/Throwable;"), (Jvm.Cond.codeSync ({ cls := "java/lang/Throwable", name := "fillInStackTrace", desc := "()Ljava/lang/Throwable;" } : Jvm.MethodName) prog_26_method_18_code (1 : Nat) (Option.some (Jvm.ClassFile.FieldType.object "java/lang/Throwable"))), (Jvm.Cond.methodLink "java/lang/Throwable" (202 : Nat) ({ cls := "java/lang/Throwable", name := "fillInStackTrace", desc := "(I)Ljava/lang/Throwable;" } : Jvm.MethodName)), (Jvm.Cond.instanceMethod ({ cls := "java/lang/Throwable", name := "fillInStackTrace", desc := "(I)Ljava/lang/Throwable;" } : Jvm.MethodName)), (Jvm.Cond.instantiable "java/lang/Throwable" (6 : Nat)), (Jvm.Cond.native ({ cls := "java/lang/Throwable", name := "fillInStackTrace", desc := "(I)Ljava/lang/Throwable;" } : Jvm.MethodName)), (Jvm.Cond.methodLink "StationPiano" (219 : Nat) ({ cls := "java/util/NoSuchElementException", name := "<init>", desc := "()V" } : Jvm.MethodName)), (Jvm.Cond.instanceMethod ({ cls := "java/util/NoSuchElementException", name := "<init>", desc := "()V" } : Jvm.MethodName)), (Jvm.Cond.code ({ cls := "java/util/NoSuchElementException", name := "<init>", desc := "()V" } : Jvm.MethodName) prog_29_method_1_code (1 : Nat) (Option.none : Option Jvm.ClassFile.FieldType)), (Jvm.Cond.methodLink "java/util/NoSuchElementException" (1 : Nat) ({ cls := "java/lang/RuntimeException", name := "<init>", desc := "()V" } : Jvm.MethodName)), (Jvm.Cond.instanceMethod ({ cls := "java/lang/RuntimeException", name := "<init>", desc := "()V" } : Jvm.MethodName)), (Jvm.Cond.code ({ cls := "java/lang/RuntimeException", name := "<init>", desc := "()V" } : Jvm.MethodName) prog_22_method_1_code (1 : Nat) (Option.none : Option Jvm.ClassFile.FieldType)), (Jvm.Cond.methodLink "java/lang/RuntimeException" (1 : Nat) ({ cls := "java/lang/Exception", name := "<init>", desc := "()V" } : Jvm.MethodName)), (Jvm.Cond.instanceMethod ({ cls := "java/lang/Exception", name := "<init>", desc := "()V" } : Jvm.MethodName)), (Jvm.Cond.code ({ cls := "java/lang/Exception", name := "<init>", desc := "()V" } : Jvm.MethodName) prog_19_method_1_code (1 : Nat) (Option.none : Option Jvm.ClassFile.FieldType)), (Jvm.Cond.methodLink "java/lang/Exception" (1 : Nat) ({ cls := "java/lang/Throwable", name := "<init>", desc := "()V" } : Jvm.MethodName)), (Jvm.Cond.fieldLink "java/lang/Throwable" (198 : Nat) "java/lang/Throwable" "backtrace" "Ljava/lang/Object;"), (Jvm.Cond.fieldLink "java/lang/Throwable" (7 : Nat) "java/lang/Throwable" "cause" "Ljava/lang/Throwable;"), (Jvm.Cond.fieldLink "java/lang/Throwable" (17 : Nat) "java/lang/Throwable" "stackTrace" "[Ljava/lang/StackTraceElement;"), (Jvm.Cond.fieldLink "java/lang/Throwable" (24 : Nat) "java/lang/Throwable" "suppressedExceptions" "Ljava/util/List;"), (Jvm.Cond.soleField "java/lang/Throwable" "backtrace"), (Jvm.Cond.soleField "java/lang/Throwable" "detailMessage"), (Jvm.Cond.soleField "java/lang/Throwable" "cause"), (Jvm.Cond.soleField "java/lang/Throwable" "stackTrace"), (Jvm.Cond.lays "java/util/NoSuchElementException" "java/lang/Throwable" "depth" "I"), (Jvm.Cond.soleField "java/lang/Throwable" "depth"), (Jvm.Cond.soleField "java/lang/Throwable" "suppressedExceptions"), (Jvm.Cond.superclass "java/util/NoSuchElementException" "java/lang/RuntimeException"), (Jvm.Cond.methodLink "StationPianoModel" (1 : Nat) ({ cls := "java/lang/Object", name := "<init>", desc := "()V" } : Jvm.MethodName)), (Jvm.Cond.sameMethod "java/lang/Throwable" "java/lang/Throwable" "fillInStackTrace" "(I)Ljava/lang/Throwable;")]
theorem xtb_uw : ∀ w ∈ xtb, goodWord w = true → w ∈ uw := by
  unfold xtb
  refine List.forall_mem_cons.mpr ⟨fun h => uw_in (tb_1 (List.mem_of_getElem? (i := 20) rfl)) h, ?_⟩
  refine List.forall_mem_cons.mpr ⟨fun h => uw_in (tb_1 (List.mem_of_getElem? (i := 21) rfl)) h, ?_⟩
  refine List.forall_mem_cons.mpr ⟨fun h => uw_in (tb_1 (List.mem_of_getElem? (i := 22) rfl)) h, ?_⟩
  refine List.forall_mem_cons.mpr ⟨fun h => uw_in (tb_1 (List.mem_of_getElem? (i := 23) rfl)) h, ?_⟩
  refine List.forall_mem_cons.mpr ⟨fun h => uw_in (tb_1 (List.mem_of_getElem? (i := 30) rfl)) h, ?_⟩
  refine List.forall_mem_cons.mpr ⟨fun h => uw_in (tb_1 (List.mem_of_getElem? (i := 31) rfl)) h, ?_⟩
  refine List.forall_mem_cons.mpr ⟨fun h => uw_in (tb_1 (List.mem_of_getElem? (i := 32) rfl)) h, ?_⟩
  refine List.forall_mem_cons.mpr ⟨fun h => uw_in (tb_1 (List.mem_of_getElem? (i := 38) rfl)) h, ?_⟩
  refine List.forall_mem_cons.mpr ⟨fun h => uw_in (tb_1 (List.mem_of_getElem? (i := 72) rfl)) h, ?_⟩
  refine List.forall_mem_cons.mpr ⟨fun h => uw_in (tb_1 (List.mem_of_getElem? (i := 88) rfl)) h, ?_⟩
  refine List.forall_mem_cons.mpr ⟨fun h => uw_in (tb_1 (List.mem_of_getElem? (i := 98) rfl)) h, ?_⟩
  refine List.forall_mem_cons.mpr ⟨fun h => uw_in (tb_1 (List.mem_of_getElem? (i := 122) rfl)) h, ?_⟩
  refine List.forall_mem_cons.mpr ⟨fun h => uw_in (tb_2 (List.mem_of_getElem? (i := 3) rfl)) h, ?_⟩
  refine List.forall_mem_cons.mpr ⟨fun h => uw_in (tb_2 (List.mem_of_getElem? (i := 37) rfl)) h, ?_⟩
  refine List.forall_mem_cons.mpr ⟨fun h => uw_in (tb_2 (List.mem_of_getElem? (i := 61) rfl)) h, ?_⟩
  refine List.forall_mem_cons.mpr ⟨fun h => uw_in (tb_2 (List.mem_of_getElem? (i := 78) rfl)) h, ?_⟩
  refine List.forall_mem_cons.mpr ⟨fun h => uw_in (tb_2 (List.mem_of_getElem? (i := 103) rfl)) h, ?_⟩
  refine List.forall_mem_cons.mpr ⟨fun h => uw_in (tb_2 (List.mem_of_getElem? (i := 161) rfl)) h, ?_⟩
  refine List.forall_mem_cons.mpr ⟨fun h => uw_in (tb_5 (List.mem_of_getElem? (i := 57) rfl)) h, ?_⟩
  refine List.forall_mem_cons.mpr ⟨fun h => uw_in (tb_5 (List.mem_of_getElem? (i := 62) rfl)) h, ?_⟩
  refine List.forall_mem_cons.mpr ⟨fun h => uw_in (tb_5 (List.mem_of_getElem? (i := 63) rfl)) h, ?_⟩
  refine List.forall_mem_cons.mpr ⟨fun h => uw_in (tb_5 (List.mem_of_getElem? (i := 71) rfl)) h, ?_⟩
  refine List.forall_mem_cons.mpr ⟨fun h => uw_in (tb_5 (List.mem_of_getElem? (i := 72) rfl)) h, ?_⟩
  refine List.forall_mem_cons.mpr ⟨fun h => uw_in (tb_5 (List.mem_of_getElem? (i := 73) rfl)) h, ?_⟩
  refine List.forall_mem_cons.mpr ⟨fun h => uw_in (tb_5 (List.mem_of_getElem? (i := 74) rfl)) h, ?_⟩
  refine List.forall_mem_cons.mpr ⟨fun h => uw_in (tb_5 (List.mem_of_getElem? (i := 75) rfl)) h, ?_⟩
  refine List.forall_mem_cons.mpr ⟨fun h => uw_in (tb_5 (List.mem_of_getElem? (i := 76) rfl)) h, ?_⟩
  refine List.forall_mem_cons.mpr ⟨fun h => uw_in (tb_5 (List.mem_of_getElem? (i := 77) rfl)) h, ?_⟩
  refine List.forall_mem_cons.mpr ⟨fun h => uw_in (tb_5 (List.mem_of_getElem? (i := 78) rfl)) h, ?_⟩
  refine List.forall_mem_cons.mpr ⟨fun h => uw_in (tb_5 (List.mem_of_getElem? (i := 79) rfl)) h, ?_⟩
  refine List.forall_mem_cons.mpr ⟨fun h => uw_in (tb_5 (List.mem_of_getElem? (i := 80) rfl)) h, ?_⟩
  refine List.forall_mem_cons.mpr ⟨fun h => uw_in (tb_5 (List.mem_of_getElem? (i := 81) rfl)) h, ?_⟩
  refine List.forall_mem_cons.mpr ⟨fun h => uw_in (tb_5 (List.mem_of_getElem? (i := 82) rfl)) h, ?_⟩
  refine List.forall_mem_cons.mpr ⟨fun h => uw_in (tb_5 (List.mem_of_getElem? (i := 83) rfl)) h, ?_⟩
  refine List.forall_mem_cons.mpr ⟨fun h => uw_in (tb_5 (List.mem_of_getElem? (i := 84) rfl)) h, ?_⟩
  refine List.forall_mem_cons.mpr ⟨fun h => uw_in (tb_5 (List.mem_of_getElem? (i := 85) rfl)) h, ?_⟩
  refine List.forall_mem_cons.mpr ⟨fun h => uw_in (tb_5 (List.mem_of_getElem? (i := 86) rfl)) h, ?_⟩
  refine List.forall_mem_cons.mpr ⟨fun h => uw_in (tb_5 (List.mem_of_getElem? (i := 87) rfl)) h, ?_⟩
  refine List.forall_mem_cons.mpr ⟨fun h => uw_in (tb_5 (List.mem_of_getElem? (i := 88) rfl)) h, ?_⟩
  refine List.forall_mem_cons.mpr ⟨fun h => uw_in (tb_5 (List.mem_of_getElem? (i := 89) rfl)) h, ?_⟩
  refine List.forall_mem_cons.mpr ⟨fun h => uw_in (tb_5 (List.mem_of_getElem? (i := 90) rfl)) h, ?_⟩
  refine List.forall_mem_cons.mpr ⟨fun h => uw_in (tb_5 (List.mem_of_getElem? (i := 91) rfl)) h, ?_⟩
  refine List.forall_mem_cons.mpr ⟨fun h => uw_in (tb_5 (List.mem_of_getElem? (i := 92) rfl)) h, ?_⟩
  refine List.forall_mem_cons.mpr ⟨fun h => uw_in (tb_5 (List.mem_of_getElem? (i := 93) rfl)) h, ?_⟩
  refine List.forall_mem_cons.mpr ⟨fun h => uw_in (tb_5 (List.mem_of_getElem? (i := 94) rfl)) h, ?_⟩
  refine List.forall_mem_cons.mpr ⟨fun h => uw_in (tb_5 (List.mem_of_getElem? (i := 95) rfl)) h, ?_⟩
  refine List.forall_mem_cons.mpr ⟨fun h => uw_in (tb_5 (List.mem_of_getElem? (i := 96) rfl)) h, ?_⟩
  refine List.forall_mem_cons.mpr ⟨fun h => uw_in (tb_5 (List.mem_of_getElem? (i := 98) rfl)) h, ?_⟩
  refine List.forall_mem_cons.mpr ⟨fun h => uw_in (tb_5 (List.mem_of_getElem? (i := 99) rfl)) h, ?_⟩
  refine List.forall_mem_cons.mpr ⟨fun h => uw_in (tb_5 (List.mem_of_getElem? (i := 100) rfl)) h, ?_⟩
  refine List.forall_mem_cons.mpr ⟨fun h => uw_in (tb_5 (List.mem_of_getElem? (i := 101) rfl)) h, ?_⟩
  refine List.forall_mem_cons.mpr ⟨fun h => uw_in (tb_5 (List.mem_of_getElem? (i := 102) rfl)) h, ?_⟩
  refine List.forall_mem_cons.mpr ⟨fun h => uw_in (tb_5 (List.mem_of_getElem? (i := 103) rfl)) h, ?_⟩
  refine List.forall_mem_cons.mpr ⟨fun h => uw_in (tb_5 (List.mem_of_getElem? (i := 104) rfl)) h, ?_⟩
  refine List.forall_mem_cons.mpr ⟨fun h => uw_in (tb_5 (List.mem_of_getElem? (i := 105) rfl)) h, ?_⟩
  refine List.forall_mem_cons.mpr ⟨fun h => uw_in (tb_5 (List.mem_of_getElem? (i := 106) rfl)) h, ?_⟩
  refine List.forall_mem_cons.mpr ⟨fun h => uw_in (tb_5 (List.mem_of_getElem? (i := 107) rfl)) h, ?_⟩
  refine List.forall_mem_cons.mpr ⟨fun h => uw_in (tb_5 (List.mem_of_getElem? (i := 108) rfl)) h, ?_⟩
  refine List.forall_mem_cons.mpr ⟨fun h => uw_in (tb_5 (List.mem_of_getElem? (i := 109) rfl)) h, ?_⟩
  refine List.forall_mem_cons.mpr ⟨fun h => uw_in (tb_5 (List.mem_of_getElem? (i := 110) rfl)) h, ?_⟩
  refine List.forall_mem_cons.mpr ⟨fun h => uw_in (tb_5 (List.mem_of_getElem? (i := 111) rfl)) h, ?_⟩
  refine List.forall_mem_cons.mpr ⟨fun h => uw_in (tb_5 (List.mem_of_getElem? (i := 112) rfl)) h, ?_⟩
  refine List.forall_mem_cons.mpr ⟨fun h => uw_in (tb_5 (List.mem_of_getElem? (i := 113) rfl)) h, ?_⟩
  refine List.forall_mem_cons.mpr ⟨fun h => uw_in (tb_5 (List.mem_of_getElem? (i := 114) rfl)) h, ?_⟩
  refine List.forall_mem_cons.mpr ⟨fun h => uw_in (tb_5 (List.mem_of_getElem? (i := 115) rfl)) h, ?_⟩
  refine List.forall_mem_cons.mpr ⟨fun h => uw_in (tb_5 (List.mem_of_getElem? (i := 116) rfl)) h, ?_⟩
  refine List.forall_mem_cons.mpr ⟨fun h => uw_in (tb_5 (List.mem_of_getElem? (i := 117) rfl)) h, ?_⟩
  refine List.forall_mem_cons.mpr ⟨fun h => uw_in (tb_5 (List.mem_of_getElem? (i := 118) rfl)) h, ?_⟩
  refine List.forall_mem_cons.mpr ⟨fun h => uw_in (tb_5 (List.mem_of_getElem? (i := 119) rfl)) h, ?_⟩
  refine List.forall_mem_cons.mpr ⟨fun h => uw_in (tb_5 (List.mem_of_getElem? (i := 120) rfl)) h, ?_⟩
  refine List.forall_mem_cons.mpr ⟨fun h => uw_in (tb_5 (List.mem_of_getElem? (i := 121) rfl)) h, ?_⟩
  refine List.forall_mem_cons.mpr ⟨fun h => uw_in (tb_5 (List.mem_of_getElem? (i := 122) rfl)) h, ?_⟩
  refine List.forall_mem_cons.mpr ⟨fun h => uw_in (tb_5 (List.mem_of_getElem? (i := 211) rfl)) h, ?_⟩
  refine List.forall_mem_cons.mpr ⟨fun h => uw_in (tb_8 (List.mem_of_getElem? (i := 157) rfl)) h, ?_⟩
  exact fun _ h => nomatch h
theorem xw_uw : ∀ w ∈ (vx_at0 RX11 219 xN xns).filter goodWord, w ∈ uw := fun w hw => xtb_uw w ((by decide +kernel : ∀ w ∈ (vx_at0 RX11 219 xN xns).filter goodWord, w ∈ xtb) w hw) (List.mem_filter.mp hw).2
def xb : List Cond := [.castable xN xN, .declares ⟨"java/lang/RuntimeException", "<init>", "()V"⟩, .declares ⟨"java/lang/Exception", "<init>", "()V"⟩, .declares ⟨"java/lang/Throwable", "<init>", "()V"⟩]
theorem xw_xb : ∀ w ∈ (vx_at0 RX11 219 xN xns).filter (fun w => !goodWord w), w ∈ xb := by decide +kernel
theorem xw_ot : ∀ w ∈ Cond.classLink RX11 217 xN :: Cond.initialized xN :: vx_at0 RX11 219 xN xns, vx_ot w = true := by decide +kernel
theorem xcl : Cond.classLink RX11 217 xN ∈ uw := uw_in (tb_5 (List.mem_of_getElem? (i := 62) rfl)) rfl
theorem xin : Cond.initialized xN ∈ uw := uw_in (tb_1 (List.mem_of_getElem? (i := 23) rfl)) rfl
def XT (A : Nat → Prop) (U : State) : Prop := (∀ w ∈ xb, va_Nw w U) ∧ vx_Zq Bundle.tN "UNASSIGNED_STACK" Bundle.steD A U U.heap ∧ vx_Zq Bundle.tN "SUPPRESSED_SENTINEL" Bundle.listD A U U.heap
theorem XT.step {A B : Nat → Prop} {s U : State} {H : Heap} {locs : List Loc} (h : XT A s) (hS : va_S A s.heap H locs) (hB : ∀ q, B q → A q) (hU : U.heap = H) (hW : s.WarmedH U.vm) : XT B U := by
  obtain ⟨h1, h2, h3⟩ := h
  subst hU
  refine ⟨?_, vx_Zq.moved hW.alike ((h2.kept hS.2.1).narrow hB), vx_Zq.moved hW.alike ((h3.kept hS.2.1).narrow hB)⟩
  refine List.forall_mem_cons.mpr ⟨va_Nw.warmC hW (h1 _ (List.mem_of_getElem? (i := 0) rfl)), ?_⟩
  refine List.forall_mem_cons.mpr ⟨va_Nw.warmD hW (h1 _ (List.mem_of_getElem? (i := 1) rfl)), ?_⟩
  refine List.forall_mem_cons.mpr ⟨va_Nw.warmD hW (h1 _ (List.mem_of_getElem? (i := 2) rfl)), ?_⟩
  refine List.forall_mem_cons.mpr ⟨va_Nw.warmD hW (h1 _ (List.mem_of_getElem? (i := 3) rfl)), ?_⟩
  exact fun _ h => nomatch h
theorem xb_t : xb.all (fun w => w.onTables) = true := by decide +kernel
theorem XT.same {A : Nat → Prop} {u U : State} (hv : u.vm = U.vm) (hh : u.heap = U.heap) (h : XT A u) : XT A U := by
  obtain ⟨h1, h2, h3⟩ := h
  have hal : u.vm.Alike U.vm := hv ▸ Vm.Alike.refl u.vm
  rw [hh] at h2 h3
  exact ⟨fun w hw => va_Nw.same (List.all_eq_true.mp xb_t w hw) hv (h1 w hw), vx_Zq.moved hal h2, vx_Zq.moved hal h3⟩
def QcX (Λ : Ly) (ad : Nat → Nat) (cy : Nat → ClassId) (dC : Nat → ClassId) (dI : Nat → Nat → Nat) (o : Option Int32) (mem : Mm) (A : Nat → Prop) : Array Value → State → Outcome → State → Prop := va_Qi (fun (r2 : Int32) (_ : Unit) => o = some r2) (fun _ t => va_P (dC, dI) vwCl (wld Λ ad cy mem) t.heap ∧ va_D A (wld Λ ad cy mem)) A
def XcX (Λ : Ly) (ad : Nat → Nat) (cy : Nat → ClassId) (dC : Nat → ClassId) (dI : Nat → Nat → Nat) (o : Option Int32) (mem : Mm) (A : Nat → Prop) : String → State → State → Prop := vx_X (fun (_ : Unit) => o = none) (fun E _ t => E = xN ∧ va_P (dC, dI) vwCl (wld Λ ad cy mem) t.heap ∧ va_D A (wld Λ ad cy mem)) A
def PrX (Λ : Ly) (ad : Nat → Nat) (cy : Nat → ClassId) (dC : Nat → ClassId) (dI : Nat → Nat → Nat) (ks : (Nat → Nat) × (Nat → Nat)) (av : List Value) (mem : Mm) (sz : Nat) : Array Value → State → Prop := fun a U => PrC Λ ad cy dC dI ks av mem sz a U ∧ XT (va_A (wld Λ ad cy mem) sz) U
theorem prx_blind {Λ : Ly} {ad : Nat → Nat} {cy : Nat → ClassId} {dC : Nat → ClassId} {dI : Nat → Nat → Nat} {ks : (Nat → Nat) × (Nat → Nat)} {av : List Value} {mem : Mm} {sz : Nat} : FrameBlind (PrX Λ ad cy dC dI ks av mem sz) := fun a U g mk q => ⟨pre_blind a U g mk q.1, XT.same (u := U) (U := U.calling g mk a) rfl rfl q.2⟩
/-- the contract of a method that answers o's int or throws -/
def CtX (l : Launch) (Λ : Ly) (ad : Nat → Nat) (cy : Nat → ClassId) (dC : Nat → ClassId) (dI : Nat → Nat → Nat) (ks : (Nat → Nat) × (Nat → Nat)) (y : MethodName) (cc : ByteArray) (maxL : Nat) (ret : Option FieldType) (rm : Room) (av : List Value) (mem : Mm) (o : Option Int32) (mem2 : Mm) : Prop := ∀ sz : Nat, vx_Met l y (Cond.code y cc maxL ret :: uw) rm (PrX Λ ad cy dC dI ks av mem sz) (QcX Λ ad cy dC dI o mem2 (va_A (wld Λ ad cy mem) sz)) (XcX Λ ad cy dC dI o mem2 (va_A (wld Λ ad cy mem) sz)) 1 6 (va_A (wld Λ ad cy mem) sz)
theorem CtX.of {l : Launch} {Λ : Ly} {ad : Nat → Nat} {cy : Nat → ClassId} {dC : Nat → ClassId} {dI : Nat → Nat → Nat} {ks : (Nat → Nat) × (Nat → Nat)} {y : MethodName} {rm : Room} {av : List Value} {mem : Mm} {o : Option Int32} {mem2 : Mm} {cc : ByteArray} {maxL : Nat} {ret : Option FieldType} {own : String} (ho : y.cls = own) (hy : plainName y.cls = true) (hlen : (lg_sl av).length ≤ maxL) (body : ∀ (p : Program) (e : Env) (s : State) (m : MethodId) (args : Array Value) (below : List Frame) (meth : Method) (c : Code) (A : Nat → Prop), Cx p l e rm s m args below meth c cc maxL own ret A dC dI cy ks → XT A s → (∀ x ∈ c.exceptionTable.toList, False) → Jd p l e rm s m args below meth c maxL (vx_MQ below (QcX Λ ad cy dC dI o mem2 A) (XcX Λ ad cy dC dI o mem2 A) args s 1 6 A) A dC dI cy Λ ad mem 0 (lv_args 0 av) []) : CtX l Λ ad cy dC dI ks y cc maxL ret rm av mem o mem2 := by
  intro sz
  refine vx_ofW (cc := cc) (maxL := maxL) (ret := ret) hy rfl ?_
  intro p e s m args below meth c s₁ B hml hex hv
  obtain ⟨⟨rfl, hsz, hP, hK, hD0, hN, hE⟩, hT⟩ := hv
  have hts : ∀ w ∈ uw, w.before av.toArray s = true := fun w hw => atoms_spec (ws := Cond.code y cc maxL ret :: uw) B.pre w (List.mem_cons_of_mem _ hw)
  have hown : s.vm.findClass own = some m.cls := ho ▸ findClass_of_methodNamed B.named
  subst hsz
  have hD := hD0.self (sz := s.heap.size)
  have hl := lv_entry av (n := maxL) hlen
  rw [lg_entry_eq]
  generalize (lg_sl av ++ List.replicate (maxL - (lg_sl av).length) Slot.unset).toArray = ls at hl ⊢
  exact body p e s m av.toArray below meth c _ ⟨B.exec, B.bytes, hml, hown, hts, hK, hN, fun q h => Or.inr h, B.returns, B.notSynchronized, hE⟩ hT hex s.heap [] ls hP hD va_S.rf hl
section ExcRows
variable {p : Program} {l : Launch} {e : Env} {R : Room} {s : State} {m : MethodId} {args : Array Value} {below : List Frame} {meth : Method} {c : Code} {cc : ByteArray} {nL : Nat} {own : String} {ret : Option FieldType} {A : Nat → Prop} {dC : Nat → ClassId} {dI : Nat → Nat → Nat} {cy : Nat → ClassId} {Λ : Ly} {ad : Nat → Nat} {ks : (Nat → Nat) × (Nat → Nat)} {mem : Mm} {pc : Nat} {lv : List (Nat × Value)} {st : List Value}
theorem r_iretX {r : Int32} {o2 : Option Int32} {mem2 : Mm} (X : Cx p l e R s m args below meth c cc nL own ret A dC dI cy ks) (hr : ret = some .int) (hd : decode cc pc = .ok (.ireturn, 1)) (hh : some (some r, mem) = some (o2, mem2)) : Jd p l e R s m args below meth c nL (vx_MQ below (QcX Λ ad cy dC dI o2 mem2 A) (XcX Λ ad cy dC dI o2 mem2 A) args s 1 6 A) A dC dI cy Λ ad mem pc lv [.int r] := by
  cases hh
  intro H locs ls hP hD hS hL
  refine W.widen (k := 1) (n := 6) (Nat.zero_le _) (Nat.zero_le _) ?_
  exact vx_ret (W.iret X.1 X.2.1 (X.2.2.2.2.2.2.2.2.1.trans hr) (fun t ht hW => ⟨⟨r, (), rfl, rfl, by rw [ht]; exact hP, hD⟩, hS.F ht⟩) hS.2.2 hd X.2.2.2.2.2.2.2.2.2.1)
theorem r_throw {o2 : Option Int32} {mem2 : Mm} (X : Cx p l e R s m args below meth c cc nL own ret A dC dI cy ks) (hT : XT A s) (hnt : l.stackTraces = false) (hex : ∀ x ∈ c.exceptionTable.toList, False) (ho : own = RX11) (d0 : decode cc pc = .ok (.new 217, 3)) (d3 : decode cc (pc + 3) = .ok (.dup, 1)) (d4 : decode cc (pc + 4) = .ok (.invokespecial 219, 3)) (d7 : decode cc (pc + 7) = .ok (.athrow, 1)) (hf : 5 < R.frames) (hlo : (st.map fun v => v.category).sum + 81 ≤ R.locals) (hc : 1 ≤ R.cells) (hs : 6 ≤ R.slots) (hh : some (none, mem) = some (o2, mem2)) : Jd p l e R s m args below meth c nL (vx_MQ below (QcX Λ ad cy dC dI o2 mem2 A) (XcX Λ ad cy dC dI o2 mem2 A) args s 1 6 A) A dC dI cy Λ ad mem pc lv st := by
  cases hh
  subst ho
  intro H locs ls hP hD hS hL
  have hts := X.2.2.2.2.1
  refine vx_throw0 (cls := xN) (names := xns) (A := A) X.1 X.2.1 hnt X.2.2.2.1 (by decide +kernel) (by decide +kernel) (hts _ xcl) (hts _ xin) (vx_hat (B := xb) (fun w hw => hts w (xw_uw w hw)) xw_xb (fun w hw => va_Nw.use (List.all_eq_true.mp xb_t w hw) (hT.1 w hw))) xw_ot hT.2.1 hT.2.2 hS (hL.1.trans X.2.2.1.symm) d0 d3 d4 d7 (fun x hx => (hex x hx).elim) hf hlo (by simpa using hc) (by simpa using hs) X.2.2.2.2.2.2.2.2.2.1 ?_ hS.2.2 (Nat.le_refl _) (Nat.le_refl _)
  intro t hal hz hk
  refine ⟨(), rfl, ⟨rfl, fun k q hq => (hP k q hq).kept (hk q.1 (hP k q hq).lt), hD⟩, Nat.le_trans hS.1 hz, fun q h1 h2 => ?_⟩
  rw [hk q (Nat.lt_of_lt_of_le h1 hS.1)]
  exact hS.2.1 q h1 h2
end ExcRows
