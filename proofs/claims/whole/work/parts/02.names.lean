/-! NAMES: by program (wip/whole/names.py) -/
def GG : List Cond := lw_tbl.filter goodWord
theorem gg_of {w : Cond} (h : w ∈ lw_tbl) (hg : goodWord w = true) : w ∈ GG := List.mem_filter.mpr ⟨h, hg⟩
theorem gg_in {w : Cond} (h : w ∈ GG) : w ∈ lw_tbl := (List.mem_filter.mp h).1
theorem gg_good {w : Cond} (h : w ∈ GG) : goodWord w = true := (List.mem_filter.mp h).2
def R_M : String := "PagedBytes$Memory"
def T_M : u_T := fun k => match k with
  | 0 => ("PagedBytes$Memory", "most", "I", true)
  | 1 => ("PagedBytes$Memory", "pageCount", "I", false)
  | _ => ("PagedBytes$Memory", "rows", "[LPagedBytes$Row;", true)
def t_M : Nat → FieldType := fun k => match k with
  | 0 => .int
  | 1 => .int
  | _ => .array (.object "PagedBytes$Row")
theorem n_M : ∀ a, a < 3 → ∀ b, b < 3 → a ≠ b → (T_M a).2.1 ≠ (T_M b).2.1 := by decide +kernel
theorem ty_M : ∀ k, k < 3 → parseFieldDescriptor (T_M k).2.2.1 = some (t_M k) := by decide +kernel
def R_W : String := "PagedBytes$Row"
def T_W : u_T := fun k => match k with
  | _ => ("PagedBytes$Row", "bytes", "[B", true)
def t_W : Nat → FieldType := fun k => match k with
  | _ => .array .byte
theorem n_W : ∀ a, a < 1 → ∀ b, b < 1 → a ≠ b → (T_W a).2.1 ≠ (T_W b).2.1 := by decide +kernel
theorem ty_W : ∀ k, k < 1 → parseFieldDescriptor (T_W k).2.2.1 = some (t_W k) := by decide +kernel
def R_P : String := "PagedBytes"
def T_P : u_T := fun k => match k with
  | 0 => ("PagedBytes", "memories", "[LPagedBytes$Memory;", true)
  | 1 => ("PagedBytes", "copied", "[B", true)
  | 2 => ("PagedBytes", "memoryCount", "I", false)
  | _ => ("PagedBytes", "pagesInAll", "I", false)
def t_P : Nat → FieldType := fun k => match k with
  | 0 => .array (.object "PagedBytes$Memory")
  | 1 => .array .byte
  | 2 => .int
  | _ => .int
theorem n_P : ∀ a, a < 4 → ∀ b, b < 4 → a ≠ b → (T_P a).2.1 ≠ (T_P b).2.1 := by decide +kernel
theorem ty_P : ∀ k, k < 4 → parseFieldDescriptor (T_P k).2.2.1 = some (t_P k) := by decide +kernel
def R_D : String := "PagedBytesModel"
def T_D : u_T := fun k => match k with
  | 0 => ("PagedBytesModel", "thrown", "I", false)
  | 1 => ("PagedBytesModel", "memories", "I", false)
  | 2 => ("PagedBytesModel", "most", "[I", true)
  | 3 => ("PagedBytesModel", "all", "I", false)
  | 4 => ("PagedBytesModel", "owner", "[I", true)
  | 5 => ("PagedBytesModel", "index", "[I", true)
  | 6 => ("PagedBytesModel", "bytes", "[[B", true)
  | _ => ("PagedBytesModel", "copied", "[I", true)
def t_D : Nat → FieldType := fun k => match k with
  | 0 => .int
  | 1 => .int
  | 2 => .array .int
  | 3 => .int
  | 4 => .array .int
  | 5 => .array .int
  | 6 => .array (.array .byte)
  | _ => .array .int
theorem n_D : ∀ a, a < 8 → ∀ b, b < 8 → a ≠ b → (T_D a).2.1 ≠ (T_D b).2.1 := by decide +kernel
theorem ty_D : ∀ k, k < 8 → parseFieldDescriptor (T_D k).2.2.1 = some (t_D k) := by decide +kernel
def R_L : String := "PagedBytesLaw"
abbrev Cls : List vw_C := [(R_M, T_M, 3), (R_W, T_W, 1), (R_P, T_P, 4), (R_D, T_D, 8)]
theorem k_in_L : (Cond.initialized "PagedBytesLaw") ∈ GG := gg_of (List.mem_of_getElem? (i := 13) (by decide +kernel)) (by decide +kernel)
theorem k_in_P : (Cond.initialized "PagedBytes") ∈ GG := gg_of (List.mem_of_getElem? (i := 14) (by decide +kernel)) (by decide +kernel)
theorem k_in_D : (Cond.initialized "PagedBytesModel") ∈ GG := gg_of (List.mem_of_getElem? (i := 15) (by decide +kernel)) (by decide +kernel)
theorem k_in_JThrowable : (Cond.initialized "java/lang/Throwable") ∈ GG := gg_of (List.mem_of_getElem? (i := 16) (by decide +kernel)) (by decide +kernel)
theorem k_in_JException : (Cond.initialized "java/lang/Exception") ∈ GG := gg_of (List.mem_of_getElem? (i := 17) (by decide +kernel)) (by decide +kernel)
theorem k_in_JRuntimeException : (Cond.initialized "java/lang/RuntimeException") ∈ GG := gg_of (List.mem_of_getElem? (i := 18) (by decide +kernel)) (by decide +kernel)
theorem k_in_JIllegalArgumentException : (Cond.initialized "java/lang/IllegalArgumentException") ∈ GG := gg_of (List.mem_of_getElem? (i := 19) (by decide +kernel)) (by decide +kernel)
theorem k_in_JIllegalStateException : (Cond.initialized "java/lang/IllegalStateException") ∈ GG := gg_of (List.mem_of_getElem? (i := 20) (by decide +kernel)) (by decide +kernel)
theorem k_in_JUnsupportedOperationException : (Cond.initialized "java/lang/UnsupportedOperationException") ∈ GG := gg_of (List.mem_of_getElem? (i := 21) (by decide +kernel)) (by decide +kernel)
theorem k_in_M : (Cond.initialized "PagedBytes$Memory") ∈ GG := gg_of (List.mem_of_getElem? (i := 22) (by decide +kernel)) (by decide +kernel)
theorem k_in_JMath : (Cond.initialized "java/lang/Math") ∈ GG := gg_of (List.mem_of_getElem? (i := 23) (by decide +kernel)) (by decide +kernel)
theorem k_in_JIndexOutOfBoundsException : (Cond.initialized "java/lang/IndexOutOfBoundsException") ∈ GG := gg_of (List.mem_of_getElem? (i := 24) (by decide +kernel)) (by decide +kernel)
theorem k_in_W : (Cond.initialized "PagedBytes$Row") ∈ GG := gg_of (List.mem_of_getElem? (i := 25) (by decide +kernel)) (by decide +kernel)
theorem k_in_JSystem : (Cond.initialized "java/lang/System") ∈ GG := gg_of (List.mem_of_getElem? (i := 26) (by decide +kernel)) (by decide +kernel)
theorem k_cl_L_8 : (Cond.classLink "PagedBytesLaw" (8 : Nat) "PagedBytes") ∈ GG := gg_of (List.mem_of_getElem? (i := 27) (by decide +kernel)) (by decide +kernel)
theorem k_it_P : (Cond.instantiable "PagedBytes" (4 : Nat)) ∈ GG := gg_of (List.mem_of_getElem? (i := 28) (by decide +kernel)) (by decide +kernel)
theorem k_ml_L_48 : (Cond.methodLink "PagedBytesLaw" (48 : Nat) ({ cls := "PagedBytes", name := "<init>", desc := "()V" } : Jvm.MethodName)) ∈ GG := gg_of (List.mem_of_getElem? (i := 29) (by decide +kernel)) (by decide +kernel)
theorem k_im_P_init : (Cond.instanceMethod ({ cls := "PagedBytes", name := "<init>", desc := "()V" } : Jvm.MethodName)) ∈ GG := gg_of (List.mem_of_getElem? (i := 30) (by decide +kernel)) (by decide +kernel)
theorem k_co_P_init : (Cond.code ({ cls := "PagedBytes", name := "<init>", desc := "()V" } : Jvm.MethodName) prog_1_method_1_code (1 : Nat) (Option.none : Option Jvm.ClassFile.FieldType)) ∈ GG := gg_of (List.mem_of_getElem? (i := 31) (by decide +kernel)) (by decide +kernel)
theorem k_ml_P_3 : (Cond.methodLink "PagedBytes" (3 : Nat) ({ cls := "java/lang/Object", name := "<init>", desc := "()V" } : Jvm.MethodName)) ∈ GG := gg_of (List.mem_of_getElem? (i := 32) (by decide +kernel)) (by decide +kernel)
theorem k_im_JObject_init : (Cond.instanceMethod ({ cls := "java/lang/Object", name := "<init>", desc := "()V" } : Jvm.MethodName)) ∈ GG := gg_of (List.mem_of_getElem? (i := 33) (by decide +kernel)) (by decide +kernel)
theorem k_co_JObject_init : (Cond.code ({ cls := "java/lang/Object", name := "<init>", desc := "()V" } : Jvm.MethodName) object_method_1_code (1 : Nat) (Option.none : Option Jvm.ClassFile.FieldType)) ∈ GG := gg_of (List.mem_of_getElem? (i := 34) (by decide +kernel)) (by decide +kernel)
theorem k_cl_P_9 : (Cond.classLink "PagedBytes" (9 : Nat) "PagedBytes$Memory") ∈ GG := gg_of (List.mem_of_getElem? (i := 35) (by decide +kernel)) (by decide +kernel)
theorem k_fl_P_11 : (Cond.fieldLink "PagedBytes" (11 : Nat) "PagedBytes" "memories" "[LPagedBytes$Memory;") ∈ GG := gg_of (List.mem_of_getElem? (i := 37) (by decide +kernel)) (by decide +kernel)
theorem k_fl_P_15 : (Cond.fieldLink "PagedBytes" (15 : Nat) "PagedBytes" "copied" "[B") ∈ GG := gg_of (List.mem_of_getElem? (i := 38) (by decide +kernel)) (by decide +kernel)
theorem k_fl_P_19 : (Cond.fieldLink "PagedBytes" (19 : Nat) "PagedBytes" "memoryCount" "I") ∈ GG := gg_of (List.mem_of_getElem? (i := 39) (by decide +kernel)) (by decide +kernel)
theorem k_fl_P_23 : (Cond.fieldLink "PagedBytes" (23 : Nat) "PagedBytes" "pagesInAll" "I") ∈ GG := gg_of (List.mem_of_getElem? (i := 40) (by decide +kernel)) (by decide +kernel)
theorem k_ml_L_52 : (Cond.methodLink "PagedBytesLaw" (52 : Nat) ({ cls := "PagedBytesLaw", name := "make", desc := "(LPagedBytes;II[J)I" } : Jvm.MethodName)) ∈ GG := gg_of (List.mem_of_getElem? (i := 51) (by decide +kernel)) (by decide +kernel)
theorem k_sm_L_make : (Cond.static ({ cls := "PagedBytesLaw", name := "make", desc := "(LPagedBytes;II[J)I" } : Jvm.MethodName)) ∈ GG := gg_of (List.mem_of_getElem? (i := 52) (by decide +kernel)) (by decide +kernel)
theorem k_co_L_make : (Cond.codeWith ({ cls := "PagedBytesLaw", name := "make", desc := "(LPagedBytes;II[J)I" } : Jvm.MethodName) method_3_code (5 : Nat) (Option.some Jvm.ClassFile.FieldType.int) [((0 : Nat), (10 : Nat), (13 : Nat), (13 : Nat)), ((0 : Nat), (10 : Nat), (17 : Nat), (15 : Nat)), ((0 : Nat), (10 : Nat), (21 : Nat), (17 : Nat))]) ∈ GG := gg_of (List.mem_of_getElem? (i := 53) (by decide +kernel)) (by decide +kernel)
theorem k_cl_L_13 : (Cond.classLink "PagedBytesLaw" (13 : Nat) "java/lang/IllegalArgumentException") ∈ GG := gg_of (List.mem_of_getElem? (i := 54) (by decide +kernel)) (by decide +kernel)
theorem k_cl_L_15 : (Cond.classLink "PagedBytesLaw" (15 : Nat) "java/lang/IllegalStateException") ∈ GG := gg_of (List.mem_of_getElem? (i := 55) (by decide +kernel)) (by decide +kernel)
theorem k_cl_L_17 : (Cond.classLink "PagedBytesLaw" (17 : Nat) "java/lang/UnsupportedOperationException") ∈ GG := gg_of (List.mem_of_getElem? (i := 56) (by decide +kernel)) (by decide +kernel)
theorem k_ml_L_7 : (Cond.methodLink "PagedBytesLaw" (7 : Nat) ({ cls := "PagedBytes", name := "make", desc := "(II)I" } : Jvm.MethodName)) ∈ GG := gg_of (List.mem_of_getElem? (i := 57) (by decide +kernel)) (by decide +kernel)
theorem k_im_P_make : (Cond.instanceMethod ({ cls := "PagedBytes", name := "make", desc := "(II)I" } : Jvm.MethodName)) ∈ GG := gg_of (List.mem_of_getElem? (i := 58) (by decide +kernel)) (by decide +kernel)
theorem k_se_P_make : (Cond.selects "PagedBytes" ({ cls := "PagedBytes", name := "make", desc := "(II)I" } : Jvm.MethodName) ({ cls := "PagedBytes", name := "make", desc := "(II)I" } : Jvm.MethodName)) ∈ GG := gg_of (List.mem_of_getElem? (i := 59) (by decide +kernel)) (by decide +kernel)
theorem k_co_P_make : (Cond.code ({ cls := "PagedBytes", name := "make", desc := "(II)I" } : Jvm.MethodName) prog_1_method_2_code (4 : Nat) (Option.some Jvm.ClassFile.FieldType.int)) ∈ GG := gg_of (List.mem_of_getElem? (i := 60) (by decide +kernel)) (by decide +kernel)
theorem k_cn_P_26 : (Cond.constant "PagedBytes" (26 : Nat) (65536 : Int32)) ∈ GG := gg_of (List.mem_of_getElem? (i := 61) (by decide +kernel)) (by decide +kernel)
theorem k_cl_P_27 : (Cond.classLink "PagedBytes" (27 : Nat) "java/lang/IllegalArgumentException") ∈ GG := gg_of (List.mem_of_getElem? (i := 62) (by decide +kernel)) (by decide +kernel)
theorem k_it_JIllegalArgumentException : (Cond.instantiable "java/lang/IllegalArgumentException" (6 : Nat)) ∈ GG := gg_of (List.mem_of_getElem? (i := 63) (by decide +kernel)) (by decide +kernel)
theorem k_se_JIllegalArgumentException_fillInStackTrace : (Cond.selects "java/lang/IllegalArgumentException" ({ cls := "java/lang/Throwable", name := "fillInStackTrace", desc := "(I)Ljava/lang/Throwable;" } : Jvm.MethodName) ({ cls := "java/lang/Throwable", name := "fillInStackTrace", desc := "(I)Ljava/lang/Throwable;" } : Jvm.MethodName)) ∈ GG := gg_of (List.mem_of_getElem? (i := 71) (by decide +kernel)) (by decide +kernel)
theorem k_fl_JThrowable_198 : (Cond.fieldLink "java/lang/Throwable" (198 : Nat) "java/lang/Throwable" "backtrace" "Ljava/lang/Object;") ∈ GG := gg_of (List.mem_of_getElem? (i := 83) (by decide +kernel)) (by decide +kernel)
theorem k_im_JThrowable_init : (Cond.instanceMethod ({ cls := "java/lang/Throwable", name := "<init>", desc := "()V" } : Jvm.MethodName)) ∈ GG := gg_of (List.mem_of_getElem? (i := 85) (by decide +kernel)) (by decide +kernel)
theorem k_co_JThrowable_init : (Cond.code ({ cls := "java/lang/Throwable", name := "<init>", desc := "()V" } : Jvm.MethodName) prog_14_method_1_code (1 : Nat) (Option.none : Option Jvm.ClassFile.FieldType)) ∈ GG := gg_of (List.mem_of_getElem? (i := 86) (by decide +kernel)) (by decide +kernel)
theorem k_ml_JThrowable_1 : (Cond.methodLink "java/lang/Throwable" (1 : Nat) ({ cls := "java/lang/Object", name := "<init>", desc := "()V" } : Jvm.MethodName)) ∈ GG := gg_of (List.mem_of_getElem? (i := 87) (by decide +kernel)) (by decide +kernel)
theorem k_fl_JThrowable_13 : (Cond.fieldLink "java/lang/Throwable" (13 : Nat) "java/lang/Throwable" "UNASSIGNED_STACK" "[Ljava/lang/StackTraceElement;") ∈ GG := gg_of (List.mem_of_getElem? (i := 88) (by decide +kernel)) (by decide +kernel)
theorem k_fl_JThrowable_20 : (Cond.fieldLink "java/lang/Throwable" (20 : Nat) "java/lang/Throwable" "SUPPRESSED_SENTINEL" "Ljava/util/List;") ∈ GG := gg_of (List.mem_of_getElem? (i := 90) (by decide +kernel)) (by decide +kernel)
theorem k_ml_JThrowable_27 : (Cond.methodLink "java/lang/Throwable" (27 : Nat) ({ cls := "java/lang/Throwable", name := "fillInStackTrace", desc := "()Ljava/lang/Throwable;" } : Jvm.MethodName)) ∈ GG := gg_of (List.mem_of_getElem? (i := 92) (by decide +kernel)) (by decide +kernel)
theorem k_im_JThrowable_fillInStackTrace : (Cond.instanceMethod ({ cls := "java/lang/Throwable", name := "fillInStackTrace", desc := "()Ljava/lang/Throwable;" } : Jvm.MethodName)) ∈ GG := gg_of (List.mem_of_getElem? (i := 93) (by decide +kernel)) (by decide +kernel)
theorem k_se_JIllegalStateException_fillInStackTrace : (Cond.selects "java/lang/IllegalStateException" ({ cls := "java/lang/Throwable", name := "fillInStackTrace", desc := "()Ljava/lang/Throwable;" } : Jvm.MethodName) ({ cls := "java/lang/Throwable", name := "fillInStackTrace", desc := "()Ljava/lang/Throwable;" } : Jvm.MethodName)) ∈ GG := gg_of (List.mem_of_getElem? (i := 95) (by decide +kernel)) (by decide +kernel)
theorem k_se_JIndexOutOfBoundsException_fillInStackTrace : (Cond.selects "java/lang/IndexOutOfBoundsException" ({ cls := "java/lang/Throwable", name := "fillInStackTrace", desc := "()Ljava/lang/Throwable;" } : Jvm.MethodName) ({ cls := "java/lang/Throwable", name := "fillInStackTrace", desc := "()Ljava/lang/Throwable;" } : Jvm.MethodName)) ∈ GG := gg_of (List.mem_of_getElem? (i := 96) (by decide +kernel)) (by decide +kernel)
theorem k_se_JUnsupportedOperationException_fillInStackTrace : (Cond.selects "java/lang/UnsupportedOperationException" ({ cls := "java/lang/Throwable", name := "fillInStackTrace", desc := "()Ljava/lang/Throwable;" } : Jvm.MethodName) ({ cls := "java/lang/Throwable", name := "fillInStackTrace", desc := "()Ljava/lang/Throwable;" } : Jvm.MethodName)) ∈ GG := gg_of (List.mem_of_getElem? (i := 97) (by decide +kernel)) (by decide +kernel)
theorem k_co_JThrowable_fillInStackTrace : (Cond.codeSync ({ cls := "java/lang/Throwable", name := "fillInStackTrace", desc := "()Ljava/lang/Throwable;" } : Jvm.MethodName) prog_14_method_18_code (1 : Nat) (Option.some (Jvm.ClassFile.FieldType.object "java/lang/Throwable"))) ∈ GG := gg_of (List.mem_of_getElem? (i := 98) (by decide +kernel)) (by decide +kernel)
theorem k_ml_JThrowable_202 : (Cond.methodLink "java/lang/Throwable" (202 : Nat) ({ cls := "java/lang/Throwable", name := "fillInStackTrace", desc := "(I)Ljava/lang/Throwable;" } : Jvm.MethodName)) ∈ GG := gg_of (List.mem_of_getElem? (i := 99) (by decide +kernel)) (by decide +kernel)
theorem k_it_JThrowable : (Cond.instantiable "java/lang/Throwable" (6 : Nat)) ∈ GG := gg_of (List.mem_of_getElem? (i := 102) (by decide +kernel)) (by decide +kernel)
theorem k_nm_JThrowable_fillInStackTrace : (Cond.native ({ cls := "java/lang/Throwable", name := "fillInStackTrace", desc := "(I)Ljava/lang/Throwable;" } : Jvm.MethodName)) ∈ GG := gg_of (List.mem_of_getElem? (i := 103) (by decide +kernel)) (by decide +kernel)
theorem k_ml_P_31 : (Cond.methodLink "PagedBytes" (31 : Nat) ({ cls := "java/lang/IllegalArgumentException", name := "<init>", desc := "(Ljava/lang/String;)V" } : Jvm.MethodName)) ∈ GG := gg_of (List.mem_of_getElem? (i := 105) (by decide +kernel)) (by decide +kernel)
theorem k_im_JIllegalArgumentException_init : (Cond.instanceMethod ({ cls := "java/lang/IllegalArgumentException", name := "<init>", desc := "(Ljava/lang/String;)V" } : Jvm.MethodName)) ∈ GG := gg_of (List.mem_of_getElem? (i := 106) (by decide +kernel)) (by decide +kernel)
theorem k_co_JIllegalArgumentException_init : (Cond.code ({ cls := "java/lang/IllegalArgumentException", name := "<init>", desc := "(Ljava/lang/String;)V" } : Jvm.MethodName) prog_7_method_2_code (2 : Nat) (Option.none : Option Jvm.ClassFile.FieldType)) ∈ GG := gg_of (List.mem_of_getElem? (i := 107) (by decide +kernel)) (by decide +kernel)
theorem k_ml_JIllegalArgumentException_7 : (Cond.methodLink "java/lang/IllegalArgumentException" (7 : Nat) ({ cls := "java/lang/RuntimeException", name := "<init>", desc := "(Ljava/lang/String;)V" } : Jvm.MethodName)) ∈ GG := gg_of (List.mem_of_getElem? (i := 108) (by decide +kernel)) (by decide +kernel)
theorem k_im_JRuntimeException_init : (Cond.instanceMethod ({ cls := "java/lang/RuntimeException", name := "<init>", desc := "(Ljava/lang/String;)V" } : Jvm.MethodName)) ∈ GG := gg_of (List.mem_of_getElem? (i := 109) (by decide +kernel)) (by decide +kernel)
theorem k_co_JRuntimeException_init : (Cond.code ({ cls := "java/lang/RuntimeException", name := "<init>", desc := "(Ljava/lang/String;)V" } : Jvm.MethodName) prog_11_method_2_code (2 : Nat) (Option.none : Option Jvm.ClassFile.FieldType)) ∈ GG := gg_of (List.mem_of_getElem? (i := 110) (by decide +kernel)) (by decide +kernel)
theorem k_ml_JRuntimeException_7 : (Cond.methodLink "java/lang/RuntimeException" (7 : Nat) ({ cls := "java/lang/Exception", name := "<init>", desc := "(Ljava/lang/String;)V" } : Jvm.MethodName)) ∈ GG := gg_of (List.mem_of_getElem? (i := 111) (by decide +kernel)) (by decide +kernel)
theorem k_im_JException_init : (Cond.instanceMethod ({ cls := "java/lang/Exception", name := "<init>", desc := "(Ljava/lang/String;)V" } : Jvm.MethodName)) ∈ GG := gg_of (List.mem_of_getElem? (i := 112) (by decide +kernel)) (by decide +kernel)
theorem k_co_JException_init : (Cond.code ({ cls := "java/lang/Exception", name := "<init>", desc := "(Ljava/lang/String;)V" } : Jvm.MethodName) prog_6_method_2_code (2 : Nat) (Option.none : Option Jvm.ClassFile.FieldType)) ∈ GG := gg_of (List.mem_of_getElem? (i := 113) (by decide +kernel)) (by decide +kernel)
theorem k_ml_JException_7 : (Cond.methodLink "java/lang/Exception" (7 : Nat) ({ cls := "java/lang/Throwable", name := "<init>", desc := "(Ljava/lang/String;)V" } : Jvm.MethodName)) ∈ GG := gg_of (List.mem_of_getElem? (i := 114) (by decide +kernel)) (by decide +kernel)
theorem k_fl_JThrowable_31 : (Cond.fieldLink "java/lang/Throwable" (31 : Nat) "java/lang/Throwable" "detailMessage" "Ljava/lang/String;") ∈ GG := gg_of (List.mem_of_getElem? (i := 118) (by decide +kernel)) (by decide +kernel)
theorem k_fl_JThrowable_7 : (Cond.fieldLink "java/lang/Throwable" (7 : Nat) "java/lang/Throwable" "cause" "Ljava/lang/Throwable;") ∈ GG := gg_of (List.mem_of_getElem? (i := 119) (by decide +kernel)) (by decide +kernel)
theorem k_fl_JThrowable_17 : (Cond.fieldLink "java/lang/Throwable" (17 : Nat) "java/lang/Throwable" "stackTrace" "[Ljava/lang/StackTraceElement;") ∈ GG := gg_of (List.mem_of_getElem? (i := 120) (by decide +kernel)) (by decide +kernel)
theorem k_fl_JThrowable_24 : (Cond.fieldLink "java/lang/Throwable" (24 : Nat) "java/lang/Throwable" "suppressedExceptions" "Ljava/util/List;") ∈ GG := gg_of (List.mem_of_getElem? (i := 121) (by decide +kernel)) (by decide +kernel)
theorem k_cl_P_36 : (Cond.classLink "PagedBytes" (36 : Nat) "java/lang/IllegalStateException") ∈ GG := gg_of (List.mem_of_getElem? (i := 131) (by decide +kernel)) (by decide +kernel)
theorem k_it_JIllegalStateException : (Cond.instantiable "java/lang/IllegalStateException" (6 : Nat)) ∈ GG := gg_of (List.mem_of_getElem? (i := 132) (by decide +kernel)) (by decide +kernel)
theorem k_ml_P_40 : (Cond.methodLink "PagedBytes" (40 : Nat) ({ cls := "java/lang/IllegalStateException", name := "<init>", desc := "(Ljava/lang/String;)V" } : Jvm.MethodName)) ∈ GG := gg_of (List.mem_of_getElem? (i := 141) (by decide +kernel)) (by decide +kernel)
theorem k_im_JIllegalStateException_init : (Cond.instanceMethod ({ cls := "java/lang/IllegalStateException", name := "<init>", desc := "(Ljava/lang/String;)V" } : Jvm.MethodName)) ∈ GG := gg_of (List.mem_of_getElem? (i := 142) (by decide +kernel)) (by decide +kernel)
theorem k_co_JIllegalStateException_init : (Cond.code ({ cls := "java/lang/IllegalStateException", name := "<init>", desc := "(Ljava/lang/String;)V" } : Jvm.MethodName) prog_8_method_2_code (2 : Nat) (Option.none : Option Jvm.ClassFile.FieldType)) ∈ GG := gg_of (List.mem_of_getElem? (i := 143) (by decide +kernel)) (by decide +kernel)
theorem k_ml_JIllegalStateException_7 : (Cond.methodLink "java/lang/IllegalStateException" (7 : Nat) ({ cls := "java/lang/RuntimeException", name := "<init>", desc := "(Ljava/lang/String;)V" } : Jvm.MethodName)) ∈ GG := gg_of (List.mem_of_getElem? (i := 144) (by decide +kernel)) (by decide +kernel)
theorem k_cl_P_41 : (Cond.classLink "PagedBytes" (41 : Nat) "java/lang/UnsupportedOperationException") ∈ GG := gg_of (List.mem_of_getElem? (i := 147) (by decide +kernel)) (by decide +kernel)
theorem k_it_JUnsupportedOperationException : (Cond.instantiable "java/lang/UnsupportedOperationException" (6 : Nat)) ∈ GG := gg_of (List.mem_of_getElem? (i := 148) (by decide +kernel)) (by decide +kernel)
theorem k_ml_P_45 : (Cond.methodLink "PagedBytes" (45 : Nat) ({ cls := "java/lang/UnsupportedOperationException", name := "<init>", desc := "(Ljava/lang/String;)V" } : Jvm.MethodName)) ∈ GG := gg_of (List.mem_of_getElem? (i := 157) (by decide +kernel)) (by decide +kernel)
theorem k_im_JUnsupportedOperationException_init : (Cond.instanceMethod ({ cls := "java/lang/UnsupportedOperationException", name := "<init>", desc := "(Ljava/lang/String;)V" } : Jvm.MethodName)) ∈ GG := gg_of (List.mem_of_getElem? (i := 158) (by decide +kernel)) (by decide +kernel)
theorem k_co_JUnsupportedOperationException_init : (Cond.code ({ cls := "java/lang/UnsupportedOperationException", name := "<init>", desc := "(Ljava/lang/String;)V" } : Jvm.MethodName) prog_15_method_2_code (2 : Nat) (Option.none : Option Jvm.ClassFile.FieldType)) ∈ GG := gg_of (List.mem_of_getElem? (i := 159) (by decide +kernel)) (by decide +kernel)
theorem k_ml_JUnsupportedOperationException_7 : (Cond.methodLink "java/lang/UnsupportedOperationException" (7 : Nat) ({ cls := "java/lang/RuntimeException", name := "<init>", desc := "(Ljava/lang/String;)V" } : Jvm.MethodName)) ∈ GG := gg_of (List.mem_of_getElem? (i := 160) (by decide +kernel)) (by decide +kernel)
theorem k_it_M : (Cond.instantiable "PagedBytes$Memory" (3 : Nat)) ∈ GG := gg_of (List.mem_of_getElem? (i := 163) (by decide +kernel)) (by decide +kernel)
theorem k_ml_P_46 : (Cond.methodLink "PagedBytes" (46 : Nat) ({ cls := "PagedBytes$Memory", name := "<init>", desc := "(II)V" } : Jvm.MethodName)) ∈ GG := gg_of (List.mem_of_getElem? (i := 164) (by decide +kernel)) (by decide +kernel)
theorem k_im_M_init : (Cond.instanceMethod ({ cls := "PagedBytes$Memory", name := "<init>", desc := "(II)V" } : Jvm.MethodName)) ∈ GG := gg_of (List.mem_of_getElem? (i := 165) (by decide +kernel)) (by decide +kernel)
theorem k_co_M_init : (Cond.code ({ cls := "PagedBytes$Memory", name := "<init>", desc := "(II)V" } : Jvm.MethodName) prog_2_method_1_code (4 : Nat) (Option.none : Option Jvm.ClassFile.FieldType)) ∈ GG := gg_of (List.mem_of_getElem? (i := 166) (by decide +kernel)) (by decide +kernel)
theorem k_ml_M_3 : (Cond.methodLink "PagedBytes$Memory" (3 : Nat) ({ cls := "java/lang/Object", name := "<init>", desc := "()V" } : Jvm.MethodName)) ∈ GG := gg_of (List.mem_of_getElem? (i := 167) (by decide +kernel)) (by decide +kernel)
theorem k_ml_M_18 : (Cond.methodLink "PagedBytes$Memory" (18 : Nat) ({ cls := "java/lang/Math", name := "min", desc := "(II)I" } : Jvm.MethodName)) ∈ GG := gg_of (List.mem_of_getElem? (i := 168) (by decide +kernel)) (by decide +kernel)
theorem k_sm_JMath_min : (Cond.static ({ cls := "java/lang/Math", name := "min", desc := "(II)I" } : Jvm.MethodName)) ∈ GG := gg_of (List.mem_of_getElem? (i := 169) (by decide +kernel)) (by decide +kernel)
theorem k_co_JMath_min : (Cond.code ({ cls := "java/lang/Math", name := "min", desc := "(II)I" } : Jvm.MethodName) prog_10_method_69_code (2 : Nat) (Option.some Jvm.ClassFile.FieldType.int)) ∈ GG := gg_of (List.mem_of_getElem? (i := 170) (by decide +kernel)) (by decide +kernel)
theorem k_ml_M_24 : (Cond.methodLink "PagedBytes$Memory" (24 : Nat) ({ cls := "java/lang/Math", name := "max", desc := "(II)I" } : Jvm.MethodName)) ∈ GG := gg_of (List.mem_of_getElem? (i := 171) (by decide +kernel)) (by decide +kernel)
theorem k_sm_JMath_max : (Cond.static ({ cls := "java/lang/Math", name := "max", desc := "(II)I" } : Jvm.MethodName)) ∈ GG := gg_of (List.mem_of_getElem? (i := 172) (by decide +kernel)) (by decide +kernel)
theorem k_co_JMath_max : (Cond.code ({ cls := "java/lang/Math", name := "max", desc := "(II)I" } : Jvm.MethodName) prog_10_method_65_code (2 : Nat) (Option.some Jvm.ClassFile.FieldType.int)) ∈ GG := gg_of (List.mem_of_getElem? (i := 173) (by decide +kernel)) (by decide +kernel)
theorem k_cl_M_27 : (Cond.classLink "PagedBytes$Memory" (27 : Nat) "PagedBytes$Row") ∈ GG := gg_of (List.mem_of_getElem? (i := 174) (by decide +kernel)) (by decide +kernel)
theorem k_fl_M_9 : (Cond.fieldLink "PagedBytes$Memory" (9 : Nat) "PagedBytes$Memory" "most" "I") ∈ GG := gg_of (List.mem_of_getElem? (i := 176) (by decide +kernel)) (by decide +kernel)
theorem k_fl_P_66 : (Cond.fieldLink "PagedBytes" (66 : Nat) "PagedBytes$Memory" "most" "I") ∈ GG := gg_of (List.mem_of_getElem? (i := 177) (by decide +kernel)) (by decide +kernel)
theorem k_fl_M_15 : (Cond.fieldLink "PagedBytes$Memory" (15 : Nat) "PagedBytes$Memory" "pageCount" "I") ∈ GG := gg_of (List.mem_of_getElem? (i := 178) (by decide +kernel)) (by decide +kernel)
theorem k_fl_P_53 : (Cond.fieldLink "PagedBytes" (53 : Nat) "PagedBytes$Memory" "pageCount" "I") ∈ GG := gg_of (List.mem_of_getElem? (i := 179) (by decide +kernel)) (by decide +kernel)
theorem k_fl_M_29 : (Cond.fieldLink "PagedBytes$Memory" (29 : Nat) "PagedBytes$Memory" "rows" "[LPagedBytes$Row;") ∈ GG := gg_of (List.mem_of_getElem? (i := 180) (by decide +kernel)) (by decide +kernel)
theorem k_ml_L_62 : (Cond.methodLink "PagedBytesLaw" (62 : Nat) ({ cls := "PagedBytesLaw", name := "pages", desc := "(LPagedBytes;I[J)I" } : Jvm.MethodName)) ∈ GG := gg_of (List.mem_of_getElem? (i := 188) (by decide +kernel)) (by decide +kernel)
theorem k_sm_L_pages : (Cond.static ({ cls := "PagedBytesLaw", name := "pages", desc := "(LPagedBytes;I[J)I" } : Jvm.MethodName)) ∈ GG := gg_of (List.mem_of_getElem? (i := 189) (by decide +kernel)) (by decide +kernel)
theorem k_co_L_pages : (Cond.codeWith ({ cls := "PagedBytesLaw", name := "pages", desc := "(LPagedBytes;I[J)I" } : Jvm.MethodName) method_4_code (4 : Nat) (Option.some Jvm.ClassFile.FieldType.int) [((0 : Nat), (9 : Nat), (12 : Nat), (13 : Nat))]) ∈ GG := gg_of (List.mem_of_getElem? (i := 190) (by decide +kernel)) (by decide +kernel)
theorem k_ml_L_19 : (Cond.methodLink "PagedBytesLaw" (19 : Nat) ({ cls := "PagedBytes", name := "pages", desc := "(I)I" } : Jvm.MethodName)) ∈ GG := gg_of (List.mem_of_getElem? (i := 191) (by decide +kernel)) (by decide +kernel)
theorem k_im_P_pages : (Cond.instanceMethod ({ cls := "PagedBytes", name := "pages", desc := "(I)I" } : Jvm.MethodName)) ∈ GG := gg_of (List.mem_of_getElem? (i := 192) (by decide +kernel)) (by decide +kernel)
theorem k_se_P_pages : (Cond.selects "PagedBytes" ({ cls := "PagedBytes", name := "pages", desc := "(I)I" } : Jvm.MethodName) ({ cls := "PagedBytes", name := "pages", desc := "(I)I" } : Jvm.MethodName)) ∈ GG := gg_of (List.mem_of_getElem? (i := 193) (by decide +kernel)) (by decide +kernel)
theorem k_co_P_pages : (Cond.code ({ cls := "PagedBytes", name := "pages", desc := "(I)I" } : Jvm.MethodName) prog_1_method_3_code (2 : Nat) (Option.some Jvm.ClassFile.FieldType.int)) ∈ GG := gg_of (List.mem_of_getElem? (i := 194) (by decide +kernel)) (by decide +kernel)
theorem k_ml_P_49 : (Cond.methodLink "PagedBytes" (49 : Nat) ({ cls := "PagedBytes", name := "memoryOf", desc := "(I)LPagedBytes$Memory;" } : Jvm.MethodName)) ∈ GG := gg_of (List.mem_of_getElem? (i := 195) (by decide +kernel)) (by decide +kernel)
theorem k_im_P_memoryOf : (Cond.instanceMethod ({ cls := "PagedBytes", name := "memoryOf", desc := "(I)LPagedBytes$Memory;" } : Jvm.MethodName)) ∈ GG := gg_of (List.mem_of_getElem? (i := 197) (by decide +kernel)) (by decide +kernel)
theorem k_co_P_memoryOf : (Cond.code ({ cls := "PagedBytes", name := "memoryOf", desc := "(I)LPagedBytes$Memory;" } : Jvm.MethodName) prog_1_method_10_code (2 : Nat) (Option.some (Jvm.ClassFile.FieldType.object "PagedBytes$Memory"))) ∈ GG := gg_of (List.mem_of_getElem? (i := 198) (by decide +kernel)) (by decide +kernel)
theorem k_ml_L_66 : (Cond.methodLink "PagedBytesLaw" (66 : Nat) ({ cls := "PagedBytesLaw", name := "grow", desc := "(LPagedBytes;II[J)I" } : Jvm.MethodName)) ∈ GG := gg_of (List.mem_of_getElem? (i := 200) (by decide +kernel)) (by decide +kernel)
theorem k_sm_L_grow : (Cond.static ({ cls := "PagedBytesLaw", name := "grow", desc := "(LPagedBytes;II[J)I" } : Jvm.MethodName)) ∈ GG := gg_of (List.mem_of_getElem? (i := 201) (by decide +kernel)) (by decide +kernel)
theorem k_co_L_grow : (Cond.codeWith ({ cls := "PagedBytesLaw", name := "grow", desc := "(LPagedBytes;II[J)I" } : Jvm.MethodName) method_5_code (5 : Nat) (Option.some Jvm.ClassFile.FieldType.int) [((0 : Nat), (10 : Nat), (13 : Nat), (13 : Nat))]) ∈ GG := gg_of (List.mem_of_getElem? (i := 202) (by decide +kernel)) (by decide +kernel)
theorem k_ml_L_23 : (Cond.methodLink "PagedBytesLaw" (23 : Nat) ({ cls := "PagedBytes", name := "grow", desc := "(II)I" } : Jvm.MethodName)) ∈ GG := gg_of (List.mem_of_getElem? (i := 203) (by decide +kernel)) (by decide +kernel)
theorem k_im_P_grow : (Cond.instanceMethod ({ cls := "PagedBytes", name := "grow", desc := "(II)I" } : Jvm.MethodName)) ∈ GG := gg_of (List.mem_of_getElem? (i := 204) (by decide +kernel)) (by decide +kernel)
theorem k_se_P_grow : (Cond.selects "PagedBytes" ({ cls := "PagedBytes", name := "grow", desc := "(II)I" } : Jvm.MethodName) ({ cls := "PagedBytes", name := "grow", desc := "(II)I" } : Jvm.MethodName)) ∈ GG := gg_of (List.mem_of_getElem? (i := 205) (by decide +kernel)) (by decide +kernel)
theorem k_co_P_grow : (Cond.code ({ cls := "PagedBytes", name := "grow", desc := "(II)I" } : Jvm.MethodName) prog_1_method_4_code (7 : Nat) (Option.some Jvm.ClassFile.FieldType.int)) ∈ GG := gg_of (List.mem_of_getElem? (i := 206) (by decide +kernel)) (by decide +kernel)
theorem k_ml_P_56 : (Cond.methodLink "PagedBytes" (56 : Nat) ({ cls := "PagedBytes", name := "withoutSign", desc := "(I)J" } : Jvm.MethodName)) ∈ GG := gg_of (List.mem_of_getElem? (i := 207) (by decide +kernel)) (by decide +kernel)
theorem k_sm_P_withoutSign : (Cond.static ({ cls := "PagedBytes", name := "withoutSign", desc := "(I)J" } : Jvm.MethodName)) ∈ GG := gg_of (List.mem_of_getElem? (i := 208) (by decide +kernel)) (by decide +kernel)
theorem k_co_P_withoutSign : (Cond.code ({ cls := "PagedBytes", name := "withoutSign", desc := "(I)J" } : Jvm.MethodName) prog_1_method_15_code (1 : Nat) (Option.some Jvm.ClassFile.FieldType.long)) ∈ GG := gg_of (List.mem_of_getElem? (i := 209) (by decide +kernel)) (by decide +kernel)
theorem k_cn_P_95 : (Cond.constantLong "PagedBytes" (95 : Nat) (4294967295 : Int64)) ∈ GG := gg_of (List.mem_of_getElem? (i := 210) (by decide +kernel)) (by decide +kernel)
theorem k_ml_P_60 : (Cond.methodLink "PagedBytes" (60 : Nat) ({ cls := "PagedBytes$Memory", name := "pageLimit", desc := "()I" } : Jvm.MethodName)) ∈ GG := gg_of (List.mem_of_getElem? (i := 211) (by decide +kernel)) (by decide +kernel)
theorem k_im_M_pageLimit : (Cond.instanceMethod ({ cls := "PagedBytes$Memory", name := "pageLimit", desc := "()I" } : Jvm.MethodName)) ∈ GG := gg_of (List.mem_of_getElem? (i := 212) (by decide +kernel)) (by decide +kernel)
theorem k_se_M_pageLimit : (Cond.selects "PagedBytes$Memory" ({ cls := "PagedBytes$Memory", name := "pageLimit", desc := "()I" } : Jvm.MethodName) ({ cls := "PagedBytes$Memory", name := "pageLimit", desc := "()I" } : Jvm.MethodName)) ∈ GG := gg_of (List.mem_of_getElem? (i := 213) (by decide +kernel)) (by decide +kernel)
theorem k_co_M_pageLimit : (Cond.code ({ cls := "PagedBytes$Memory", name := "pageLimit", desc := "()I" } : Jvm.MethodName) prog_2_method_2_code (1 : Nat) (Option.some Jvm.ClassFile.FieldType.int)) ∈ GG := gg_of (List.mem_of_getElem? (i := 214) (by decide +kernel)) (by decide +kernel)
theorem k_cn_M_33 : (Cond.constant "PagedBytes$Memory" (33 : Nat) (65536 : Int32)) ∈ GG := gg_of (List.mem_of_getElem? (i := 215) (by decide +kernel)) (by decide +kernel)
theorem k_cn_P_64 : (Cond.constantLong "PagedBytes" (64 : Nat) (16 : Int64)) ∈ GG := gg_of (List.mem_of_getElem? (i := 216) (by decide +kernel)) (by decide +kernel)
theorem k_ml_L_69 : (Cond.methodLink "PagedBytesLaw" (69 : Nat) ({ cls := "PagedBytesLaw", name := "fits", desc := "(LPagedBytes;III[J)I" } : Jvm.MethodName)) ∈ GG := gg_of (List.mem_of_getElem? (i := 217) (by decide +kernel)) (by decide +kernel)
theorem k_sm_L_fits : (Cond.static ({ cls := "PagedBytesLaw", name := "fits", desc := "(LPagedBytes;III[J)I" } : Jvm.MethodName)) ∈ GG := gg_of (List.mem_of_getElem? (i := 218) (by decide +kernel)) (by decide +kernel)
theorem k_co_L_fits : (Cond.codeWith ({ cls := "PagedBytesLaw", name := "fits", desc := "(LPagedBytes;III[J)I" } : Jvm.MethodName) method_6_code (6 : Nat) (Option.some Jvm.ClassFile.FieldType.int) [((0 : Nat), (19 : Nat), (22 : Nat), (13 : Nat))]) ∈ GG := gg_of (List.mem_of_getElem? (i := 219) (by decide +kernel)) (by decide +kernel)
theorem k_ml_L_26 : (Cond.methodLink "PagedBytesLaw" (26 : Nat) ({ cls := "PagedBytes", name := "fits", desc := "(III)Z" } : Jvm.MethodName)) ∈ GG := gg_of (List.mem_of_getElem? (i := 220) (by decide +kernel)) (by decide +kernel)
theorem k_im_P_fits : (Cond.instanceMethod ({ cls := "PagedBytes", name := "fits", desc := "(III)Z" } : Jvm.MethodName)) ∈ GG := gg_of (List.mem_of_getElem? (i := 221) (by decide +kernel)) (by decide +kernel)
theorem k_se_P_fits : (Cond.selects "PagedBytes" ({ cls := "PagedBytes", name := "fits", desc := "(III)Z" } : Jvm.MethodName) ({ cls := "PagedBytes", name := "fits", desc := "(III)Z" } : Jvm.MethodName)) ∈ GG := gg_of (List.mem_of_getElem? (i := 222) (by decide +kernel)) (by decide +kernel)
theorem k_co_P_fits : (Cond.code ({ cls := "PagedBytes", name := "fits", desc := "(III)Z" } : Jvm.MethodName) prog_1_method_5_code (5 : Nat) (Option.some Jvm.ClassFile.FieldType.boolean)) ∈ GG := gg_of (List.mem_of_getElem? (i := 223) (by decide +kernel)) (by decide +kernel)
theorem k_ml_L_73 : (Cond.methodLink "PagedBytesLaw" (73 : Nat) ({ cls := "PagedBytesLaw", name := "load", desc := "(LPagedBytes;IIII[J)I" } : Jvm.MethodName)) ∈ GG := gg_of (List.mem_of_getElem? (i := 224) (by decide +kernel)) (by decide +kernel)
theorem k_sm_L_load : (Cond.static ({ cls := "PagedBytesLaw", name := "load", desc := "(LPagedBytes;IIII[J)I" } : Jvm.MethodName)) ∈ GG := gg_of (List.mem_of_getElem? (i := 225) (by decide +kernel)) (by decide +kernel)
theorem k_co_L_load : (Cond.codeWith ({ cls := "PagedBytesLaw", name := "load", desc := "(LPagedBytes;IIII[J)I" } : Jvm.MethodName) method_7_code (7 : Nat) (Option.some Jvm.ClassFile.FieldType.int) [((0 : Nat), (13 : Nat), (16 : Nat), (13 : Nat)), ((0 : Nat), (13 : Nat), (20 : Nat), (34 : Nat))]) ∈ GG := gg_of (List.mem_of_getElem? (i := 226) (by decide +kernel)) (by decide +kernel)
theorem k_cl_L_34 : (Cond.classLink "PagedBytesLaw" (34 : Nat) "java/lang/IndexOutOfBoundsException") ∈ GG := gg_of (List.mem_of_getElem? (i := 227) (by decide +kernel)) (by decide +kernel)
theorem k_ml_L_30 : (Cond.methodLink "PagedBytesLaw" (30 : Nat) ({ cls := "PagedBytes", name := "load", desc := "(IIII)J" } : Jvm.MethodName)) ∈ GG := gg_of (List.mem_of_getElem? (i := 228) (by decide +kernel)) (by decide +kernel)
theorem k_im_P_load : (Cond.instanceMethod ({ cls := "PagedBytes", name := "load", desc := "(IIII)J" } : Jvm.MethodName)) ∈ GG := gg_of (List.mem_of_getElem? (i := 229) (by decide +kernel)) (by decide +kernel)
theorem k_se_P_load : (Cond.selects "PagedBytes" ({ cls := "PagedBytes", name := "load", desc := "(IIII)J" } : Jvm.MethodName) ({ cls := "PagedBytes", name := "load", desc := "(IIII)J" } : Jvm.MethodName)) ∈ GG := gg_of (List.mem_of_getElem? (i := 230) (by decide +kernel)) (by decide +kernel)
theorem k_co_P_load : (Cond.code ({ cls := "PagedBytes", name := "load", desc := "(IIII)J" } : Jvm.MethodName) prog_1_method_6_code (11 : Nat) (Option.some Jvm.ClassFile.FieldType.long)) ∈ GG := gg_of (List.mem_of_getElem? (i := 231) (by decide +kernel)) (by decide +kernel)
theorem k_fl_P_69 : (Cond.fieldLink "PagedBytes" (69 : Nat) "PagedBytes" "LOAD_BYTES" "[I") ∈ GG := gg_of (List.mem_of_getElem? (i := 232) (by decide +kernel)) (by decide +kernel)
theorem k_ml_P_73 : (Cond.methodLink "PagedBytes" (73 : Nat) ({ cls := "PagedBytes", name := "kindOf", desc := "(III)I" } : Jvm.MethodName)) ∈ GG := gg_of (List.mem_of_getElem? (i := 234) (by decide +kernel)) (by decide +kernel)
theorem k_sm_P_kindOf : (Cond.static ({ cls := "PagedBytes", name := "kindOf", desc := "(III)I" } : Jvm.MethodName)) ∈ GG := gg_of (List.mem_of_getElem? (i := 235) (by decide +kernel)) (by decide +kernel)
theorem k_co_P_kindOf : (Cond.code ({ cls := "PagedBytes", name := "kindOf", desc := "(III)I" } : Jvm.MethodName) prog_1_method_11_code (3 : Nat) (Option.some Jvm.ClassFile.FieldType.int)) ∈ GG := gg_of (List.mem_of_getElem? (i := 236) (by decide +kernel)) (by decide +kernel)
theorem k_ml_P_77 : (Cond.methodLink "PagedBytes" (77 : Nat) ({ cls := "PagedBytes", name := "placeOf", desc := "(LPagedBytes$Memory;III)I" } : Jvm.MethodName)) ∈ GG := gg_of (List.mem_of_getElem? (i := 238) (by decide +kernel)) (by decide +kernel)
theorem k_sm_P_placeOf : (Cond.static ({ cls := "PagedBytes", name := "placeOf", desc := "(LPagedBytes$Memory;III)I" } : Jvm.MethodName)) ∈ GG := gg_of (List.mem_of_getElem? (i := 239) (by decide +kernel)) (by decide +kernel)
theorem k_co_P_placeOf : (Cond.code ({ cls := "PagedBytes", name := "placeOf", desc := "(LPagedBytes$Memory;III)I" } : Jvm.MethodName) prog_1_method_12_code (6 : Nat) (Option.some Jvm.ClassFile.FieldType.int)) ∈ GG := gg_of (List.mem_of_getElem? (i := 240) (by decide +kernel)) (by decide +kernel)
theorem k_ml_P_107 : (Cond.methodLink "PagedBytes" (107 : Nat) ({ cls := "PagedBytes", name := "checkThere", desc := "(LPagedBytes$Memory;JI)V" } : Jvm.MethodName)) ∈ GG := gg_of (List.mem_of_getElem? (i := 241) (by decide +kernel)) (by decide +kernel)
theorem k_sm_P_checkThere : (Cond.static ({ cls := "PagedBytes", name := "checkThere", desc := "(LPagedBytes$Memory;JI)V" } : Jvm.MethodName)) ∈ GG := gg_of (List.mem_of_getElem? (i := 242) (by decide +kernel)) (by decide +kernel)
theorem k_co_P_checkThere : (Cond.code ({ cls := "PagedBytes", name := "checkThere", desc := "(LPagedBytes$Memory;JI)V" } : Jvm.MethodName) prog_1_method_14_code (4 : Nat) (Option.none : Option Jvm.ClassFile.FieldType)) ∈ GG := gg_of (List.mem_of_getElem? (i := 243) (by decide +kernel)) (by decide +kernel)
theorem k_ml_P_128 : (Cond.methodLink "PagedBytes" (128 : Nat) ({ cls := "PagedBytes$Memory", name := "size", desc := "()J" } : Jvm.MethodName)) ∈ GG := gg_of (List.mem_of_getElem? (i := 244) (by decide +kernel)) (by decide +kernel)
theorem k_im_M_size : (Cond.instanceMethod ({ cls := "PagedBytes$Memory", name := "size", desc := "()J" } : Jvm.MethodName)) ∈ GG := gg_of (List.mem_of_getElem? (i := 245) (by decide +kernel)) (by decide +kernel)
theorem k_se_M_size : (Cond.selects "PagedBytes$Memory" ({ cls := "PagedBytes$Memory", name := "size", desc := "()J" } : Jvm.MethodName) ({ cls := "PagedBytes$Memory", name := "size", desc := "()J" } : Jvm.MethodName)) ∈ GG := gg_of (List.mem_of_getElem? (i := 246) (by decide +kernel)) (by decide +kernel)
theorem k_co_M_size : (Cond.code ({ cls := "PagedBytes$Memory", name := "size", desc := "()J" } : Jvm.MethodName) prog_2_method_3_code (1 : Nat) (Option.some Jvm.ClassFile.FieldType.long)) ∈ GG := gg_of (List.mem_of_getElem? (i := 247) (by decide +kernel)) (by decide +kernel)
theorem k_cn_M_34 : (Cond.constantLong "PagedBytes$Memory" (34 : Nat) (65536 : Int64)) ∈ GG := gg_of (List.mem_of_getElem? (i := 248) (by decide +kernel)) (by decide +kernel)
theorem k_cl_P_132 : (Cond.classLink "PagedBytes" (132 : Nat) "java/lang/IndexOutOfBoundsException") ∈ GG := gg_of (List.mem_of_getElem? (i := 249) (by decide +kernel)) (by decide +kernel)
theorem k_it_JIndexOutOfBoundsException : (Cond.instantiable "java/lang/IndexOutOfBoundsException" (6 : Nat)) ∈ GG := gg_of (List.mem_of_getElem? (i := 250) (by decide +kernel)) (by decide +kernel)
theorem k_ml_P_136 : (Cond.methodLink "PagedBytes" (136 : Nat) ({ cls := "java/lang/IndexOutOfBoundsException", name := "<init>", desc := "(Ljava/lang/String;)V" } : Jvm.MethodName)) ∈ GG := gg_of (List.mem_of_getElem? (i := 259) (by decide +kernel)) (by decide +kernel)
theorem k_im_JIndexOutOfBoundsException_init : (Cond.instanceMethod ({ cls := "java/lang/IndexOutOfBoundsException", name := "<init>", desc := "(Ljava/lang/String;)V" } : Jvm.MethodName)) ∈ GG := gg_of (List.mem_of_getElem? (i := 260) (by decide +kernel)) (by decide +kernel)
theorem k_co_JIndexOutOfBoundsException_init : (Cond.code ({ cls := "java/lang/IndexOutOfBoundsException", name := "<init>", desc := "(Ljava/lang/String;)V" } : Jvm.MethodName) prog_9_method_2_code (2 : Nat) (Option.none : Option Jvm.ClassFile.FieldType)) ∈ GG := gg_of (List.mem_of_getElem? (i := 261) (by decide +kernel)) (by decide +kernel)
theorem k_ml_JIndexOutOfBoundsException_7 : (Cond.methodLink "java/lang/IndexOutOfBoundsException" (7 : Nat) ({ cls := "java/lang/RuntimeException", name := "<init>", desc := "(Ljava/lang/String;)V" } : Jvm.MethodName)) ∈ GG := gg_of (List.mem_of_getElem? (i := 262) (by decide +kernel)) (by decide +kernel)
theorem k_ml_P_81 : (Cond.methodLink "PagedBytes" (81 : Nat) ({ cls := "PagedBytes$Memory", name := "numberAt", desc := "(II)J" } : Jvm.MethodName)) ∈ GG := gg_of (List.mem_of_getElem? (i := 265) (by decide +kernel)) (by decide +kernel)
theorem k_im_M_numberAt : (Cond.instanceMethod ({ cls := "PagedBytes$Memory", name := "numberAt", desc := "(II)J" } : Jvm.MethodName)) ∈ GG := gg_of (List.mem_of_getElem? (i := 266) (by decide +kernel)) (by decide +kernel)
theorem k_se_M_numberAt : (Cond.selects "PagedBytes$Memory" ({ cls := "PagedBytes$Memory", name := "numberAt", desc := "(II)J" } : Jvm.MethodName) ({ cls := "PagedBytes$Memory", name := "numberAt", desc := "(II)J" } : Jvm.MethodName)) ∈ GG := gg_of (List.mem_of_getElem? (i := 267) (by decide +kernel)) (by decide +kernel)
theorem k_co_M_numberAt : (Cond.code ({ cls := "PagedBytes$Memory", name := "numberAt", desc := "(II)J" } : Jvm.MethodName) prog_2_method_4_code (6 : Nat) (Option.some Jvm.ClassFile.FieldType.long)) ∈ GG := gg_of (List.mem_of_getElem? (i := 268) (by decide +kernel)) (by decide +kernel)
theorem k_ml_M_36 : (Cond.methodLink "PagedBytes$Memory" (36 : Nat) ({ cls := "PagedBytes$Memory", name := "byteAt", desc := "(I)I" } : Jvm.MethodName)) ∈ GG := gg_of (List.mem_of_getElem? (i := 269) (by decide +kernel)) (by decide +kernel)
theorem k_im_M_byteAt : (Cond.instanceMethod ({ cls := "PagedBytes$Memory", name := "byteAt", desc := "(I)I" } : Jvm.MethodName)) ∈ GG := gg_of (List.mem_of_getElem? (i := 271) (by decide +kernel)) (by decide +kernel)
theorem k_co_M_byteAt : (Cond.code ({ cls := "PagedBytes$Memory", name := "byteAt", desc := "(I)I" } : Jvm.MethodName) prog_2_method_10_code (3 : Nat) (Option.some Jvm.ClassFile.FieldType.int)) ∈ GG := gg_of (List.mem_of_getElem? (i := 272) (by decide +kernel)) (by decide +kernel)
theorem k_ml_M_44 : (Cond.methodLink "PagedBytes$Memory" (44 : Nat) ({ cls := "PagedBytes$Memory", name := "rowOrNull", desc := "(I)LPagedBytes$Row;" } : Jvm.MethodName)) ∈ GG := gg_of (List.mem_of_getElem? (i := 273) (by decide +kernel)) (by decide +kernel)
theorem k_im_M_rowOrNull : (Cond.instanceMethod ({ cls := "PagedBytes$Memory", name := "rowOrNull", desc := "(I)LPagedBytes$Row;" } : Jvm.MethodName)) ∈ GG := gg_of (List.mem_of_getElem? (i := 275) (by decide +kernel)) (by decide +kernel)
theorem k_co_M_rowOrNull : (Cond.code ({ cls := "PagedBytes$Memory", name := "rowOrNull", desc := "(I)LPagedBytes$Row;" } : Jvm.MethodName) prog_2_method_12_code (2 : Nat) (Option.some (Jvm.ClassFile.FieldType.object "PagedBytes$Row"))) ∈ GG := gg_of (List.mem_of_getElem? (i := 276) (by decide +kernel)) (by decide +kernel)
theorem k_fl_P_85 : (Cond.fieldLink "PagedBytes" (85 : Nat) "PagedBytes" "LOAD_SIGNED" "[I") ∈ GG := gg_of (List.mem_of_getElem? (i := 277) (by decide +kernel)) (by decide +kernel)
theorem k_ml_P_88 : (Cond.methodLink "PagedBytes" (88 : Nat) ({ cls := "PagedBytes", name := "withSign", desc := "(JI)J" } : Jvm.MethodName)) ∈ GG := gg_of (List.mem_of_getElem? (i := 279) (by decide +kernel)) (by decide +kernel)
theorem k_sm_P_withSign : (Cond.static ({ cls := "PagedBytes", name := "withSign", desc := "(JI)J" } : Jvm.MethodName)) ∈ GG := gg_of (List.mem_of_getElem? (i := 280) (by decide +kernel)) (by decide +kernel)
theorem k_co_P_withSign : (Cond.code ({ cls := "PagedBytes", name := "withSign", desc := "(JI)J" } : Jvm.MethodName) prog_1_method_16_code (4 : Nat) (Option.some Jvm.ClassFile.FieldType.long)) ∈ GG := gg_of (List.mem_of_getElem? (i := 281) (by decide +kernel)) (by decide +kernel)
theorem k_fl_P_92 : (Cond.fieldLink "PagedBytes" (92 : Nat) "PagedBytes" "LOAD_TYPE_BYTES" "[I") ∈ GG := gg_of (List.mem_of_getElem? (i := 282) (by decide +kernel)) (by decide +kernel)
theorem k_ml_L_79 : (Cond.methodLink "PagedBytesLaw" (79 : Nat) ({ cls := "PagedBytesLaw", name := "store", desc := "(LPagedBytes;IIIIJ)I" } : Jvm.MethodName)) ∈ GG := gg_of (List.mem_of_getElem? (i := 284) (by decide +kernel)) (by decide +kernel)
theorem k_sm_L_store : (Cond.static ({ cls := "PagedBytesLaw", name := "store", desc := "(LPagedBytes;IIIIJ)I" } : Jvm.MethodName)) ∈ GG := gg_of (List.mem_of_getElem? (i := 285) (by decide +kernel)) (by decide +kernel)
theorem k_co_L_store : (Cond.codeWith ({ cls := "PagedBytesLaw", name := "store", desc := "(LPagedBytes;IIIIJ)I" } : Jvm.MethodName) method_8_code (8 : Nat) (Option.some Jvm.ClassFile.FieldType.int) [((0 : Nat), (11 : Nat), (14 : Nat), (13 : Nat)), ((0 : Nat), (11 : Nat), (18 : Nat), (34 : Nat))]) ∈ GG := gg_of (List.mem_of_getElem? (i := 286) (by decide +kernel)) (by decide +kernel)
theorem k_ml_L_36 : (Cond.methodLink "PagedBytesLaw" (36 : Nat) ({ cls := "PagedBytes", name := "store", desc := "(IIIIJ)V" } : Jvm.MethodName)) ∈ GG := gg_of (List.mem_of_getElem? (i := 287) (by decide +kernel)) (by decide +kernel)
theorem k_im_P_store : (Cond.instanceMethod ({ cls := "PagedBytes", name := "store", desc := "(IIIIJ)V" } : Jvm.MethodName)) ∈ GG := gg_of (List.mem_of_getElem? (i := 288) (by decide +kernel)) (by decide +kernel)
theorem k_se_P_store : (Cond.selects "PagedBytes" ({ cls := "PagedBytes", name := "store", desc := "(IIIIJ)V" } : Jvm.MethodName) ({ cls := "PagedBytes", name := "store", desc := "(IIIIJ)V" } : Jvm.MethodName)) ∈ GG := gg_of (List.mem_of_getElem? (i := 289) (by decide +kernel)) (by decide +kernel)
theorem k_co_P_store : (Cond.code ({ cls := "PagedBytes", name := "store", desc := "(IIIIJ)V" } : Jvm.MethodName) prog_1_method_7_code (10 : Nat) (Option.none : Option Jvm.ClassFile.FieldType)) ∈ GG := gg_of (List.mem_of_getElem? (i := 290) (by decide +kernel)) (by decide +kernel)
theorem k_fl_P_97 : (Cond.fieldLink "PagedBytes" (97 : Nat) "PagedBytes" "STORE_BYTES" "[I") ∈ GG := gg_of (List.mem_of_getElem? (i := 291) (by decide +kernel)) (by decide +kernel)
theorem k_ml_P_100 : (Cond.methodLink "PagedBytes" (100 : Nat) ({ cls := "PagedBytes$Memory", name := "putNumber", desc := "(IIJ)V" } : Jvm.MethodName)) ∈ GG := gg_of (List.mem_of_getElem? (i := 293) (by decide +kernel)) (by decide +kernel)
theorem k_im_M_putNumber : (Cond.instanceMethod ({ cls := "PagedBytes$Memory", name := "putNumber", desc := "(IIJ)V" } : Jvm.MethodName)) ∈ GG := gg_of (List.mem_of_getElem? (i := 294) (by decide +kernel)) (by decide +kernel)
theorem k_se_M_putNumber : (Cond.selects "PagedBytes$Memory" ({ cls := "PagedBytes$Memory", name := "putNumber", desc := "(IIJ)V" } : Jvm.MethodName) ({ cls := "PagedBytes$Memory", name := "putNumber", desc := "(IIJ)V" } : Jvm.MethodName)) ∈ GG := gg_of (List.mem_of_getElem? (i := 295) (by decide +kernel)) (by decide +kernel)
theorem k_co_M_putNumber : (Cond.code ({ cls := "PagedBytes$Memory", name := "putNumber", desc := "(IIJ)V" } : Jvm.MethodName) prog_2_method_5_code (6 : Nat) (Option.none : Option Jvm.ClassFile.FieldType)) ∈ GG := gg_of (List.mem_of_getElem? (i := 296) (by decide +kernel)) (by decide +kernel)
theorem k_ml_M_40 : (Cond.methodLink "PagedBytes$Memory" (40 : Nat) ({ cls := "PagedBytes$Memory", name := "putByte", desc := "(IB)V" } : Jvm.MethodName)) ∈ GG := gg_of (List.mem_of_getElem? (i := 297) (by decide +kernel)) (by decide +kernel)
theorem k_im_M_putByte : (Cond.instanceMethod ({ cls := "PagedBytes$Memory", name := "putByte", desc := "(IB)V" } : Jvm.MethodName)) ∈ GG := gg_of (List.mem_of_getElem? (i := 299) (by decide +kernel)) (by decide +kernel)
theorem k_co_M_putByte : (Cond.code ({ cls := "PagedBytes$Memory", name := "putByte", desc := "(IB)V" } : Jvm.MethodName) prog_2_method_11_code (4 : Nat) (Option.none : Option Jvm.ClassFile.FieldType)) ∈ GG := gg_of (List.mem_of_getElem? (i := 300) (by decide +kernel)) (by decide +kernel)
theorem k_ml_M_62 : (Cond.methodLink "PagedBytes$Memory" (62 : Nat) ({ cls := "PagedBytes$Memory", name := "rowToWrite", desc := "(I)LPagedBytes$Row;" } : Jvm.MethodName)) ∈ GG := gg_of (List.mem_of_getElem? (i := 301) (by decide +kernel)) (by decide +kernel)
theorem k_im_M_rowToWrite : (Cond.instanceMethod ({ cls := "PagedBytes$Memory", name := "rowToWrite", desc := "(I)LPagedBytes$Row;" } : Jvm.MethodName)) ∈ GG := gg_of (List.mem_of_getElem? (i := 303) (by decide +kernel)) (by decide +kernel)
theorem k_co_M_rowToWrite : (Cond.code ({ cls := "PagedBytes$Memory", name := "rowToWrite", desc := "(I)LPagedBytes$Row;" } : Jvm.MethodName) prog_2_method_13_code (2 : Nat) (Option.some (Jvm.ClassFile.FieldType.object "PagedBytes$Row"))) ∈ GG := gg_of (List.mem_of_getElem? (i := 304) (by decide +kernel)) (by decide +kernel)
theorem k_it_W : (Cond.instantiable "PagedBytes$Row" (1 : Nat)) ∈ GG := gg_of (List.mem_of_getElem? (i := 305) (by decide +kernel)) (by decide +kernel)
theorem k_ml_M_69 : (Cond.methodLink "PagedBytes$Memory" (69 : Nat) ({ cls := "PagedBytes$Row", name := "<init>", desc := "()V" } : Jvm.MethodName)) ∈ GG := gg_of (List.mem_of_getElem? (i := 306) (by decide +kernel)) (by decide +kernel)
theorem k_im_W_init : (Cond.instanceMethod ({ cls := "PagedBytes$Row", name := "<init>", desc := "()V" } : Jvm.MethodName)) ∈ GG := gg_of (List.mem_of_getElem? (i := 307) (by decide +kernel)) (by decide +kernel)
theorem k_co_W_init : (Cond.code ({ cls := "PagedBytes$Row", name := "<init>", desc := "()V" } : Jvm.MethodName) prog_3_method_1_code (1 : Nat) (Option.none : Option Jvm.ClassFile.FieldType)) ∈ GG := gg_of (List.mem_of_getElem? (i := 308) (by decide +kernel)) (by decide +kernel)
theorem k_ml_W_3 : (Cond.methodLink "PagedBytes$Row" (3 : Nat) ({ cls := "java/lang/Object", name := "<init>", desc := "()V" } : Jvm.MethodName)) ∈ GG := gg_of (List.mem_of_getElem? (i := 309) (by decide +kernel)) (by decide +kernel)
theorem k_fl_W_9 : (Cond.fieldLink "PagedBytes$Row" (9 : Nat) "PagedBytes$Row" "bytes" "[B") ∈ GG := gg_of (List.mem_of_getElem? (i := 310) (by decide +kernel)) (by decide +kernel)
theorem k_fl_M_52 : (Cond.fieldLink "PagedBytes$Memory" (52 : Nat) "PagedBytes$Row" "bytes" "[B") ∈ GG := gg_of (List.mem_of_getElem? (i := 311) (by decide +kernel)) (by decide +kernel)
theorem k_ml_L_83 : (Cond.methodLink "PagedBytesLaw" (83 : Nat) ({ cls := "PagedBytesLaw", name := "copy", desc := "(LPagedBytes;IIIII)I" } : Jvm.MethodName)) ∈ GG := gg_of (List.mem_of_getElem? (i := 315) (by decide +kernel)) (by decide +kernel)
theorem k_sm_L_copy : (Cond.static ({ cls := "PagedBytesLaw", name := "copy", desc := "(LPagedBytes;IIIII)I" } : Jvm.MethodName)) ∈ GG := gg_of (List.mem_of_getElem? (i := 316) (by decide +kernel)) (by decide +kernel)
theorem k_co_L_copy : (Cond.codeWith ({ cls := "PagedBytesLaw", name := "copy", desc := "(LPagedBytes;IIIII)I" } : Jvm.MethodName) method_9_code (7 : Nat) (Option.some Jvm.ClassFile.FieldType.int) [((0 : Nat), (11 : Nat), (14 : Nat), (13 : Nat)), ((0 : Nat), (11 : Nat), (18 : Nat), (34 : Nat))]) ∈ GG := gg_of (List.mem_of_getElem? (i := 317) (by decide +kernel)) (by decide +kernel)
theorem k_ml_L_40 : (Cond.methodLink "PagedBytesLaw" (40 : Nat) ({ cls := "PagedBytes", name := "copy", desc := "(IIIII)V" } : Jvm.MethodName)) ∈ GG := gg_of (List.mem_of_getElem? (i := 318) (by decide +kernel)) (by decide +kernel)
theorem k_im_P_copy : (Cond.instanceMethod ({ cls := "PagedBytes", name := "copy", desc := "(IIIII)V" } : Jvm.MethodName)) ∈ GG := gg_of (List.mem_of_getElem? (i := 319) (by decide +kernel)) (by decide +kernel)
theorem k_se_P_copy : (Cond.selects "PagedBytes" ({ cls := "PagedBytes", name := "copy", desc := "(IIIII)V" } : Jvm.MethodName) ({ cls := "PagedBytes", name := "copy", desc := "(IIIII)V" } : Jvm.MethodName)) ∈ GG := gg_of (List.mem_of_getElem? (i := 320) (by decide +kernel)) (by decide +kernel)
theorem k_co_P_copy : (Cond.code ({ cls := "PagedBytes", name := "copy", desc := "(IIIII)V" } : Jvm.MethodName) prog_1_method_8_code (8 : Nat) (Option.none : Option Jvm.ClassFile.FieldType)) ∈ GG := gg_of (List.mem_of_getElem? (i := 321) (by decide +kernel)) (by decide +kernel)
theorem k_ml_P_104 : (Cond.methodLink "PagedBytes" (104 : Nat) ({ cls := "PagedBytes", name := "checkCount", desc := "(II)V" } : Jvm.MethodName)) ∈ GG := gg_of (List.mem_of_getElem? (i := 322) (by decide +kernel)) (by decide +kernel)
theorem k_sm_P_checkCount : (Cond.static ({ cls := "PagedBytes", name := "checkCount", desc := "(II)V" } : Jvm.MethodName)) ∈ GG := gg_of (List.mem_of_getElem? (i := 323) (by decide +kernel)) (by decide +kernel)
theorem k_co_P_checkCount : (Cond.code ({ cls := "PagedBytes", name := "checkCount", desc := "(II)V" } : Jvm.MethodName) prog_1_method_13_code (2 : Nat) (Option.none : Option Jvm.ClassFile.FieldType)) ∈ GG := gg_of (List.mem_of_getElem? (i := 324) (by decide +kernel)) (by decide +kernel)
theorem k_ml_P_111 : (Cond.methodLink "PagedBytes" (111 : Nat) ({ cls := "PagedBytes$Memory", name := "readInto", desc := "([BII)V" } : Jvm.MethodName)) ∈ GG := gg_of (List.mem_of_getElem? (i := 326) (by decide +kernel)) (by decide +kernel)
theorem k_im_M_readInto : (Cond.instanceMethod ({ cls := "PagedBytes$Memory", name := "readInto", desc := "([BII)V" } : Jvm.MethodName)) ∈ GG := gg_of (List.mem_of_getElem? (i := 327) (by decide +kernel)) (by decide +kernel)
theorem k_se_M_readInto : (Cond.selects "PagedBytes$Memory" ({ cls := "PagedBytes$Memory", name := "readInto", desc := "([BII)V" } : Jvm.MethodName) ({ cls := "PagedBytes$Memory", name := "readInto", desc := "([BII)V" } : Jvm.MethodName)) ∈ GG := gg_of (List.mem_of_getElem? (i := 328) (by decide +kernel)) (by decide +kernel)
theorem k_co_M_readInto : (Cond.code ({ cls := "PagedBytes$Memory", name := "readInto", desc := "([BII)V" } : Jvm.MethodName) prog_2_method_6_code (8 : Nat) (Option.none : Option Jvm.ClassFile.FieldType)) ∈ GG := gg_of (List.mem_of_getElem? (i := 329) (by decide +kernel)) (by decide +kernel)
theorem k_ml_M_48 : (Cond.methodLink "PagedBytes$Memory" (48 : Nat) ({ cls := "PagedBytes$Memory", name := "clear", desc := "([BII)V" } : Jvm.MethodName)) ∈ GG := gg_of (List.mem_of_getElem? (i := 330) (by decide +kernel)) (by decide +kernel)
theorem k_sm_M_clear : (Cond.static ({ cls := "PagedBytes$Memory", name := "clear", desc := "([BII)V" } : Jvm.MethodName)) ∈ GG := gg_of (List.mem_of_getElem? (i := 331) (by decide +kernel)) (by decide +kernel)
theorem k_co_M_clear : (Cond.code ({ cls := "PagedBytes$Memory", name := "clear", desc := "([BII)V" } : Jvm.MethodName) prog_2_method_7_code (4 : Nat) (Option.none : Option Jvm.ClassFile.FieldType)) ∈ GG := gg_of (List.mem_of_getElem? (i := 332) (by decide +kernel)) (by decide +kernel)
theorem k_ml_M_56 : (Cond.methodLink "PagedBytes$Memory" (56 : Nat) ({ cls := "java/lang/System", name := "arraycopy", desc := "(Ljava/lang/Object;ILjava/lang/Object;II)V" } : Jvm.MethodName)) ∈ GG := gg_of (List.mem_of_getElem? (i := 333) (by decide +kernel)) (by decide +kernel)
theorem k_sm_JSystem_arraycopy : (Cond.static ({ cls := "java/lang/System", name := "arraycopy", desc := "(Ljava/lang/Object;ILjava/lang/Object;II)V" } : Jvm.MethodName)) ∈ GG := gg_of (List.mem_of_getElem? (i := 334) (by decide +kernel)) (by decide +kernel)
theorem k_nm_JSystem_arraycopy : (Cond.native ({ cls := "java/lang/System", name := "arraycopy", desc := "(Ljava/lang/Object;ILjava/lang/Object;II)V" } : Jvm.MethodName)) ∈ GG := gg_of (List.mem_of_getElem? (i := 335) (by decide +kernel)) (by decide +kernel)
theorem k_ml_P_115 : (Cond.methodLink "PagedBytes" (115 : Nat) ({ cls := "PagedBytes$Memory", name := "writeFrom", desc := "([BII)V" } : Jvm.MethodName)) ∈ GG := gg_of (List.mem_of_getElem? (i := 336) (by decide +kernel)) (by decide +kernel)
theorem k_im_M_writeFrom : (Cond.instanceMethod ({ cls := "PagedBytes$Memory", name := "writeFrom", desc := "([BII)V" } : Jvm.MethodName)) ∈ GG := gg_of (List.mem_of_getElem? (i := 337) (by decide +kernel)) (by decide +kernel)
theorem k_se_M_writeFrom : (Cond.selects "PagedBytes$Memory" ({ cls := "PagedBytes$Memory", name := "writeFrom", desc := "([BII)V" } : Jvm.MethodName) ({ cls := "PagedBytes$Memory", name := "writeFrom", desc := "([BII)V" } : Jvm.MethodName)) ∈ GG := gg_of (List.mem_of_getElem? (i := 338) (by decide +kernel)) (by decide +kernel)
theorem k_co_M_writeFrom : (Cond.code ({ cls := "PagedBytes$Memory", name := "writeFrom", desc := "([BII)V" } : Jvm.MethodName) prog_2_method_8_code (8 : Nat) (Option.none : Option Jvm.ClassFile.FieldType)) ∈ GG := gg_of (List.mem_of_getElem? (i := 339) (by decide +kernel)) (by decide +kernel)
theorem k_ml_L_87 : (Cond.methodLink "PagedBytesLaw" (87 : Nat) ({ cls := "PagedBytesLaw", name := "sum", desc := "(LPagedBytes;III[J)I" } : Jvm.MethodName)) ∈ GG := gg_of (List.mem_of_getElem? (i := 340) (by decide +kernel)) (by decide +kernel)
theorem k_sm_L_sum : (Cond.static ({ cls := "PagedBytesLaw", name := "sum", desc := "(LPagedBytes;III[J)I" } : Jvm.MethodName)) ∈ GG := gg_of (List.mem_of_getElem? (i := 341) (by decide +kernel)) (by decide +kernel)
theorem k_co_L_sum : (Cond.codeWith ({ cls := "PagedBytesLaw", name := "sum", desc := "(LPagedBytes;III[J)I" } : Jvm.MethodName) method_10_code (6 : Nat) (Option.some Jvm.ClassFile.FieldType.int) [((0 : Nat), (12 : Nat), (15 : Nat), (13 : Nat)), ((0 : Nat), (12 : Nat), (19 : Nat), (34 : Nat))]) ∈ GG := gg_of (List.mem_of_getElem? (i := 342) (by decide +kernel)) (by decide +kernel)
theorem k_ml_L_44 : (Cond.methodLink "PagedBytesLaw" (44 : Nat) ({ cls := "PagedBytes", name := "sum", desc := "(III)I" } : Jvm.MethodName)) ∈ GG := gg_of (List.mem_of_getElem? (i := 343) (by decide +kernel)) (by decide +kernel)
theorem k_im_P_sum : (Cond.instanceMethod ({ cls := "PagedBytes", name := "sum", desc := "(III)I" } : Jvm.MethodName)) ∈ GG := gg_of (List.mem_of_getElem? (i := 344) (by decide +kernel)) (by decide +kernel)
theorem k_se_P_sum : (Cond.selects "PagedBytes" ({ cls := "PagedBytes", name := "sum", desc := "(III)I" } : Jvm.MethodName) ({ cls := "PagedBytes", name := "sum", desc := "(III)I" } : Jvm.MethodName)) ∈ GG := gg_of (List.mem_of_getElem? (i := 345) (by decide +kernel)) (by decide +kernel)
theorem k_co_P_sum : (Cond.code ({ cls := "PagedBytes", name := "sum", desc := "(III)I" } : Jvm.MethodName) prog_1_method_9_code (5 : Nat) (Option.some Jvm.ClassFile.FieldType.int)) ∈ GG := gg_of (List.mem_of_getElem? (i := 346) (by decide +kernel)) (by decide +kernel)
theorem k_ml_P_118 : (Cond.methodLink "PagedBytes" (118 : Nat) ({ cls := "PagedBytes$Memory", name := "weighedSum", desc := "(II)I" } : Jvm.MethodName)) ∈ GG := gg_of (List.mem_of_getElem? (i := 347) (by decide +kernel)) (by decide +kernel)
theorem k_im_M_weighedSum : (Cond.instanceMethod ({ cls := "PagedBytes$Memory", name := "weighedSum", desc := "(II)I" } : Jvm.MethodName)) ∈ GG := gg_of (List.mem_of_getElem? (i := 348) (by decide +kernel)) (by decide +kernel)
theorem k_se_M_weighedSum : (Cond.selects "PagedBytes$Memory" ({ cls := "PagedBytes$Memory", name := "weighedSum", desc := "(II)I" } : Jvm.MethodName) ({ cls := "PagedBytes$Memory", name := "weighedSum", desc := "(II)I" } : Jvm.MethodName)) ∈ GG := gg_of (List.mem_of_getElem? (i := 349) (by decide +kernel)) (by decide +kernel)
theorem k_co_M_weighedSum : (Cond.code ({ cls := "PagedBytes$Memory", name := "weighedSum", desc := "(II)I" } : Jvm.MethodName) prog_2_method_9_code (8 : Nat) (Option.some Jvm.ClassFile.FieldType.int)) ∈ GG := gg_of (List.mem_of_getElem? (i := 350) (by decide +kernel)) (by decide +kernel)
theorem k_ml_M_65 : (Cond.methodLink "PagedBytes$Memory" (65 : Nat) ({ cls := "PagedBytes$Row", name := "weighedPart", desc := "(III)I" } : Jvm.MethodName)) ∈ GG := gg_of (List.mem_of_getElem? (i := 351) (by decide +kernel)) (by decide +kernel)
theorem k_im_W_weighedPart : (Cond.instanceMethod ({ cls := "PagedBytes$Row", name := "weighedPart", desc := "(III)I" } : Jvm.MethodName)) ∈ GG := gg_of (List.mem_of_getElem? (i := 352) (by decide +kernel)) (by decide +kernel)
theorem k_se_W_weighedPart : (Cond.selects "PagedBytes$Row" ({ cls := "PagedBytes$Row", name := "weighedPart", desc := "(III)I" } : Jvm.MethodName) ({ cls := "PagedBytes$Row", name := "weighedPart", desc := "(III)I" } : Jvm.MethodName)) ∈ GG := gg_of (List.mem_of_getElem? (i := 353) (by decide +kernel)) (by decide +kernel)
theorem k_co_W_weighedPart : (Cond.code ({ cls := "PagedBytes$Row", name := "weighedPart", desc := "(III)I" } : Jvm.MethodName) prog_3_method_2_code (7 : Nat) (Option.some Jvm.ClassFile.FieldType.int)) ∈ GG := gg_of (List.mem_of_getElem? (i := 354) (by decide +kernel)) (by decide +kernel)
theorem k_ml_W_15 : (Cond.methodLink "PagedBytes$Row" (15 : Nat) ({ cls := "java/lang/Math", name := "max", desc := "(II)I" } : Jvm.MethodName)) ∈ GG := gg_of (List.mem_of_getElem? (i := 355) (by decide +kernel)) (by decide +kernel)
theorem k_ml_W_21 : (Cond.methodLink "PagedBytes$Row" (21 : Nat) ({ cls := "java/lang/Math", name := "min", desc := "(II)I" } : Jvm.MethodName)) ∈ GG := gg_of (List.mem_of_getElem? (i := 356) (by decide +kernel)) (by decide +kernel)
theorem k_cl_L_49 : (Cond.classLink "PagedBytesLaw" (49 : Nat) "PagedBytesModel") ∈ GG := gg_of (List.mem_of_getElem? (i := 357) (by decide +kernel)) (by decide +kernel)
theorem k_it_D : (Cond.instantiable "PagedBytesModel" (8 : Nat)) ∈ GG := gg_of (List.mem_of_getElem? (i := 358) (by decide +kernel)) (by decide +kernel)
theorem k_ml_L_51 : (Cond.methodLink "PagedBytesLaw" (51 : Nat) ({ cls := "PagedBytesModel", name := "<init>", desc := "()V" } : Jvm.MethodName)) ∈ GG := gg_of (List.mem_of_getElem? (i := 359) (by decide +kernel)) (by decide +kernel)
theorem k_im_D_init : (Cond.instanceMethod ({ cls := "PagedBytesModel", name := "<init>", desc := "()V" } : Jvm.MethodName)) ∈ GG := gg_of (List.mem_of_getElem? (i := 360) (by decide +kernel)) (by decide +kernel)
theorem k_co_D_init : (Cond.code ({ cls := "PagedBytesModel", name := "<init>", desc := "()V" } : Jvm.MethodName) prog_5_method_1_code (1 : Nat) (Option.none : Option Jvm.ClassFile.FieldType)) ∈ GG := gg_of (List.mem_of_getElem? (i := 361) (by decide +kernel)) (by decide +kernel)
theorem k_ml_D_1 : (Cond.methodLink "PagedBytesModel" (1 : Nat) ({ cls := "java/lang/Object", name := "<init>", desc := "()V" } : Jvm.MethodName)) ∈ GG := gg_of (List.mem_of_getElem? (i := 362) (by decide +kernel)) (by decide +kernel)
theorem k_cl_D_19 : (Cond.classLink "PagedBytesModel" (19 : Nat) "[B") ∈ GG := gg_of (List.mem_of_getElem? (i := 363) (by decide +kernel)) (by decide +kernel)
theorem k_fl_D_28 : (Cond.fieldLink "PagedBytesModel" (28 : Nat) "PagedBytesModel" "thrown" "I") ∈ GG := gg_of (List.mem_of_getElem? (i := 365) (by decide +kernel)) (by decide +kernel)
theorem k_fl_D_32 : (Cond.fieldLink "PagedBytesModel" (32 : Nat) "PagedBytesModel" "memories" "I") ∈ GG := gg_of (List.mem_of_getElem? (i := 366) (by decide +kernel)) (by decide +kernel)
theorem k_fl_D_9 : (Cond.fieldLink "PagedBytesModel" (9 : Nat) "PagedBytesModel" "most" "[I") ∈ GG := gg_of (List.mem_of_getElem? (i := 367) (by decide +kernel)) (by decide +kernel)
theorem k_fl_D_35 : (Cond.fieldLink "PagedBytesModel" (35 : Nat) "PagedBytesModel" "all" "I") ∈ GG := gg_of (List.mem_of_getElem? (i := 368) (by decide +kernel)) (by decide +kernel)
theorem k_fl_D_13 : (Cond.fieldLink "PagedBytesModel" (13 : Nat) "PagedBytesModel" "owner" "[I") ∈ GG := gg_of (List.mem_of_getElem? (i := 369) (by decide +kernel)) (by decide +kernel)
theorem k_fl_D_16 : (Cond.fieldLink "PagedBytesModel" (16 : Nat) "PagedBytesModel" "index" "[I") ∈ GG := gg_of (List.mem_of_getElem? (i := 370) (by decide +kernel)) (by decide +kernel)
theorem k_fl_D_21 : (Cond.fieldLink "PagedBytesModel" (21 : Nat) "PagedBytesModel" "bytes" "[[B") ∈ GG := gg_of (List.mem_of_getElem? (i := 371) (by decide +kernel)) (by decide +kernel)
theorem k_fl_D_25 : (Cond.fieldLink "PagedBytesModel" (25 : Nat) "PagedBytesModel" "copied" "[I") ∈ GG := gg_of (List.mem_of_getElem? (i := 372) (by decide +kernel)) (by decide +kernel)
theorem k_ml_L_58 : (Cond.methodLink "PagedBytesLaw" (58 : Nat) ({ cls := "PagedBytesModel", name := "thrown", desc := "()I" } : Jvm.MethodName)) ∈ GG := gg_of (List.mem_of_getElem? (i := 391) (by decide +kernel)) (by decide +kernel)
theorem k_im_D_thrown : (Cond.instanceMethod ({ cls := "PagedBytesModel", name := "thrown", desc := "()I" } : Jvm.MethodName)) ∈ GG := gg_of (List.mem_of_getElem? (i := 392) (by decide +kernel)) (by decide +kernel)
theorem k_se_D_thrown : (Cond.selects "PagedBytesModel" ({ cls := "PagedBytesModel", name := "thrown", desc := "()I" } : Jvm.MethodName) ({ cls := "PagedBytesModel", name := "thrown", desc := "()I" } : Jvm.MethodName)) ∈ GG := gg_of (List.mem_of_getElem? (i := 393) (by decide +kernel)) (by decide +kernel)
theorem k_co_D_thrown : (Cond.code ({ cls := "PagedBytesModel", name := "thrown", desc := "()I" } : Jvm.MethodName) prog_5_method_2_code (1 : Nat) (Option.some Jvm.ClassFile.FieldType.int)) ∈ GG := gg_of (List.mem_of_getElem? (i := 394) (by decide +kernel)) (by decide +kernel)
theorem k_ml_L_57 : (Cond.methodLink "PagedBytesLaw" (57 : Nat) ({ cls := "PagedBytesModel", name := "make", desc := "(II)I" } : Jvm.MethodName)) ∈ GG := gg_of (List.mem_of_getElem? (i := 395) (by decide +kernel)) (by decide +kernel)
theorem k_im_D_make : (Cond.instanceMethod ({ cls := "PagedBytesModel", name := "make", desc := "(II)I" } : Jvm.MethodName)) ∈ GG := gg_of (List.mem_of_getElem? (i := 396) (by decide +kernel)) (by decide +kernel)
theorem k_se_D_make : (Cond.selects "PagedBytesModel" ({ cls := "PagedBytesModel", name := "make", desc := "(II)I" } : Jvm.MethodName) ({ cls := "PagedBytesModel", name := "make", desc := "(II)I" } : Jvm.MethodName)) ∈ GG := gg_of (List.mem_of_getElem? (i := 397) (by decide +kernel)) (by decide +kernel)
theorem k_co_D_make : (Cond.code ({ cls := "PagedBytesModel", name := "make", desc := "(II)I" } : Jvm.MethodName) prog_5_method_9_code (5 : Nat) (Option.some Jvm.ClassFile.FieldType.int)) ∈ GG := gg_of (List.mem_of_getElem? (i := 398) (by decide +kernel)) (by decide +kernel)
theorem k_cn_D_46 : (Cond.constant "PagedBytesModel" (46 : Nat) (65536 : Int32)) ∈ GG := gg_of (List.mem_of_getElem? (i := 399) (by decide +kernel)) (by decide +kernel)
theorem k_ml_D_47 : (Cond.methodLink "PagedBytesModel" (47 : Nat) ({ cls := "PagedBytesModel", name := "add", desc := "(II)V" } : Jvm.MethodName)) ∈ GG := gg_of (List.mem_of_getElem? (i := 400) (by decide +kernel)) (by decide +kernel)
theorem k_im_D_add : (Cond.instanceMethod ({ cls := "PagedBytesModel", name := "add", desc := "(II)V" } : Jvm.MethodName)) ∈ GG := gg_of (List.mem_of_getElem? (i := 402) (by decide +kernel)) (by decide +kernel)
theorem k_co_D_add : (Cond.code ({ cls := "PagedBytesModel", name := "add", desc := "(II)V" } : Jvm.MethodName) prog_5_method_5_code (3 : Nat) (Option.none : Option Jvm.ClassFile.FieldType)) ∈ GG := gg_of (List.mem_of_getElem? (i := 403) (by decide +kernel)) (by decide +kernel)
theorem k_ml_L_65 : (Cond.methodLink "PagedBytesLaw" (65 : Nat) ({ cls := "PagedBytesModel", name := "pages", desc := "(I)I" } : Jvm.MethodName)) ∈ GG := gg_of (List.mem_of_getElem? (i := 404) (by decide +kernel)) (by decide +kernel)
theorem k_im_D_pages : (Cond.instanceMethod ({ cls := "PagedBytesModel", name := "pages", desc := "(I)I" } : Jvm.MethodName)) ∈ GG := gg_of (List.mem_of_getElem? (i := 405) (by decide +kernel)) (by decide +kernel)
theorem k_se_D_pages : (Cond.selects "PagedBytesModel" ({ cls := "PagedBytesModel", name := "pages", desc := "(I)I" } : Jvm.MethodName) ({ cls := "PagedBytesModel", name := "pages", desc := "(I)I" } : Jvm.MethodName)) ∈ GG := gg_of (List.mem_of_getElem? (i := 406) (by decide +kernel)) (by decide +kernel)
theorem k_co_D_pages : (Cond.code ({ cls := "PagedBytesModel", name := "pages", desc := "(I)I" } : Jvm.MethodName) prog_5_method_10_code (2 : Nat) (Option.some Jvm.ClassFile.FieldType.int)) ∈ GG := gg_of (List.mem_of_getElem? (i := 407) (by decide +kernel)) (by decide +kernel)
theorem k_ml_D_51 : (Cond.methodLink "PagedBytesModel" (51 : Nat) ({ cls := "PagedBytesModel", name := "isMemory", desc := "(I)Z" } : Jvm.MethodName)) ∈ GG := gg_of (List.mem_of_getElem? (i := 408) (by decide +kernel)) (by decide +kernel)
theorem k_im_D_isMemory : (Cond.instanceMethod ({ cls := "PagedBytesModel", name := "isMemory", desc := "(I)Z" } : Jvm.MethodName)) ∈ GG := gg_of (List.mem_of_getElem? (i := 410) (by decide +kernel)) (by decide +kernel)
theorem k_co_D_isMemory : (Cond.code ({ cls := "PagedBytesModel", name := "isMemory", desc := "(I)Z" } : Jvm.MethodName) prog_5_method_3_code (2 : Nat) (Option.some Jvm.ClassFile.FieldType.boolean)) ∈ GG := gg_of (List.mem_of_getElem? (i := 411) (by decide +kernel)) (by decide +kernel)
theorem k_ml_D_55 : (Cond.methodLink "PagedBytesModel" (55 : Nat) ({ cls := "PagedBytesModel", name := "count", desc := "(I)I" } : Jvm.MethodName)) ∈ GG := gg_of (List.mem_of_getElem? (i := 412) (by decide +kernel)) (by decide +kernel)
theorem k_im_D_count : (Cond.instanceMethod ({ cls := "PagedBytesModel", name := "count", desc := "(I)I" } : Jvm.MethodName)) ∈ GG := gg_of (List.mem_of_getElem? (i := 414) (by decide +kernel)) (by decide +kernel)
theorem k_co_D_count : (Cond.code ({ cls := "PagedBytesModel", name := "count", desc := "(I)I" } : Jvm.MethodName) prog_5_method_4_code (4 : Nat) (Option.some Jvm.ClassFile.FieldType.int)) ∈ GG := gg_of (List.mem_of_getElem? (i := 415) (by decide +kernel)) (by decide +kernel)
theorem k_ml_L_68 : (Cond.methodLink "PagedBytesLaw" (68 : Nat) ({ cls := "PagedBytesModel", name := "grow", desc := "(II)I" } : Jvm.MethodName)) ∈ GG := gg_of (List.mem_of_getElem? (i := 416) (by decide +kernel)) (by decide +kernel)
theorem k_im_D_grow : (Cond.instanceMethod ({ cls := "PagedBytesModel", name := "grow", desc := "(II)I" } : Jvm.MethodName)) ∈ GG := gg_of (List.mem_of_getElem? (i := 417) (by decide +kernel)) (by decide +kernel)
theorem k_se_D_grow : (Cond.selects "PagedBytesModel" ({ cls := "PagedBytesModel", name := "grow", desc := "(II)I" } : Jvm.MethodName) ({ cls := "PagedBytesModel", name := "grow", desc := "(II)I" } : Jvm.MethodName)) ∈ GG := gg_of (List.mem_of_getElem? (i := 418) (by decide +kernel)) (by decide +kernel)
theorem k_co_D_grow : (Cond.code ({ cls := "PagedBytesModel", name := "grow", desc := "(II)I" } : Jvm.MethodName) prog_5_method_11_code (7 : Nat) (Option.some Jvm.ClassFile.FieldType.int)) ∈ GG := gg_of (List.mem_of_getElem? (i := 419) (by decide +kernel)) (by decide +kernel)
theorem k_cn_D_59 : (Cond.constantLong "PagedBytesModel" (59 : Nat) (4294967296 : Int64)) ∈ GG := gg_of (List.mem_of_getElem? (i := 420) (by decide +kernel)) (by decide +kernel)
theorem k_cn_D_61 : (Cond.constantLong "PagedBytesModel" (61 : Nat) (16 : Int64)) ∈ GG := gg_of (List.mem_of_getElem? (i := 421) (by decide +kernel)) (by decide +kernel)
theorem k_ml_L_72 : (Cond.methodLink "PagedBytesLaw" (72 : Nat) ({ cls := "PagedBytesModel", name := "fits", desc := "(III)Z" } : Jvm.MethodName)) ∈ GG := gg_of (List.mem_of_getElem? (i := 422) (by decide +kernel)) (by decide +kernel)
theorem k_im_D_fits : (Cond.instanceMethod ({ cls := "PagedBytesModel", name := "fits", desc := "(III)Z" } : Jvm.MethodName)) ∈ GG := gg_of (List.mem_of_getElem? (i := 423) (by decide +kernel)) (by decide +kernel)
theorem k_se_D_fits : (Cond.selects "PagedBytesModel" ({ cls := "PagedBytesModel", name := "fits", desc := "(III)Z" } : Jvm.MethodName) ({ cls := "PagedBytesModel", name := "fits", desc := "(III)Z" } : Jvm.MethodName)) ∈ GG := gg_of (List.mem_of_getElem? (i := 424) (by decide +kernel)) (by decide +kernel)
theorem k_co_D_fits : (Cond.code ({ cls := "PagedBytesModel", name := "fits", desc := "(III)Z" } : Jvm.MethodName) prog_5_method_12_code (4 : Nat) (Option.some Jvm.ClassFile.FieldType.boolean)) ∈ GG := gg_of (List.mem_of_getElem? (i := 425) (by decide +kernel)) (by decide +kernel)
theorem k_ml_L_76 : (Cond.methodLink "PagedBytesLaw" (76 : Nat) ({ cls := "PagedBytesModel", name := "load", desc := "(IIII)J" } : Jvm.MethodName)) ∈ GG := gg_of (List.mem_of_getElem? (i := 426) (by decide +kernel)) (by decide +kernel)
theorem k_im_D_load : (Cond.instanceMethod ({ cls := "PagedBytesModel", name := "load", desc := "(IIII)J" } : Jvm.MethodName)) ∈ GG := gg_of (List.mem_of_getElem? (i := 427) (by decide +kernel)) (by decide +kernel)
theorem k_se_D_load : (Cond.selects "PagedBytesModel" ({ cls := "PagedBytesModel", name := "load", desc := "(IIII)J" } : Jvm.MethodName) ({ cls := "PagedBytesModel", name := "load", desc := "(IIII)J" } : Jvm.MethodName)) ∈ GG := gg_of (List.mem_of_getElem? (i := 428) (by decide +kernel)) (by decide +kernel)
theorem k_co_D_load : (Cond.code ({ cls := "PagedBytesModel", name := "load", desc := "(IIII)J" } : Jvm.MethodName) prog_5_method_17_code (13 : Nat) (Option.some Jvm.ClassFile.FieldType.long)) ∈ GG := gg_of (List.mem_of_getElem? (i := 429) (by decide +kernel)) (by decide +kernel)
theorem k_ml_D_65 : (Cond.methodLink "PagedBytesModel" (65 : Nat) ({ cls := "PagedBytesModel", name := "place", desc := "(II)J" } : Jvm.MethodName)) ∈ GG := gg_of (List.mem_of_getElem? (i := 430) (by decide +kernel)) (by decide +kernel)
theorem k_sm_D_place : (Cond.static ({ cls := "PagedBytesModel", name := "place", desc := "(II)J" } : Jvm.MethodName)) ∈ GG := gg_of (List.mem_of_getElem? (i := 431) (by decide +kernel)) (by decide +kernel)
theorem k_co_D_place : (Cond.code ({ cls := "PagedBytesModel", name := "place", desc := "(II)J" } : Jvm.MethodName) prog_5_method_15_code (2 : Nat) (Option.some Jvm.ClassFile.FieldType.long)) ∈ GG := gg_of (List.mem_of_getElem? (i := 432) (by decide +kernel)) (by decide +kernel)
theorem k_cn_D_63 : (Cond.constantLong "PagedBytesModel" (63 : Nat) (4294967295 : Int64)) ∈ GG := gg_of (List.mem_of_getElem? (i := 433) (by decide +kernel)) (by decide +kernel)
theorem k_ml_D_69 : (Cond.methodLink "PagedBytesModel" (69 : Nat) ({ cls := "PagedBytesModel", name := "size", desc := "(I)I" } : Jvm.MethodName)) ∈ GG := gg_of (List.mem_of_getElem? (i := 434) (by decide +kernel)) (by decide +kernel)
theorem k_sm_D_size : (Cond.static ({ cls := "PagedBytesModel", name := "size", desc := "(I)I" } : Jvm.MethodName)) ∈ GG := gg_of (List.mem_of_getElem? (i := 435) (by decide +kernel)) (by decide +kernel)
theorem k_co_D_size : (Cond.code ({ cls := "PagedBytesModel", name := "size", desc := "(I)I" } : Jvm.MethodName) prog_5_method_13_code (1 : Nat) (Option.some Jvm.ClassFile.FieldType.int)) ∈ GG := gg_of (List.mem_of_getElem? (i := 436) (by decide +kernel)) (by decide +kernel)
theorem k_ml_D_72 : (Cond.methodLink "PagedBytesModel" (72 : Nat) ({ cls := "PagedBytesModel", name := "isWhole", desc := "(IZ)Z" } : Jvm.MethodName)) ∈ GG := gg_of (List.mem_of_getElem? (i := 437) (by decide +kernel)) (by decide +kernel)
theorem k_sm_D_isWhole : (Cond.static ({ cls := "PagedBytesModel", name := "isWhole", desc := "(IZ)Z" } : Jvm.MethodName)) ∈ GG := gg_of (List.mem_of_getElem? (i := 438) (by decide +kernel)) (by decide +kernel)
theorem k_co_D_isWhole : (Cond.code ({ cls := "PagedBytesModel", name := "isWhole", desc := "(IZ)Z" } : Jvm.MethodName) prog_5_method_14_code (2 : Nat) (Option.some Jvm.ClassFile.FieldType.boolean)) ∈ GG := gg_of (List.mem_of_getElem? (i := 439) (by decide +kernel)) (by decide +kernel)
theorem k_ml_D_76 : (Cond.methodLink "PagedBytesModel" (76 : Nat) ({ cls := "PagedBytesModel", name := "isThere", desc := "(IJI)Z" } : Jvm.MethodName)) ∈ GG := gg_of (List.mem_of_getElem? (i := 440) (by decide +kernel)) (by decide +kernel)
theorem k_im_D_isThere : (Cond.instanceMethod ({ cls := "PagedBytesModel", name := "isThere", desc := "(IJI)Z" } : Jvm.MethodName)) ∈ GG := gg_of (List.mem_of_getElem? (i := 442) (by decide +kernel)) (by decide +kernel)
theorem k_co_D_isThere : (Cond.code ({ cls := "PagedBytesModel", name := "isThere", desc := "(IJI)Z" } : Jvm.MethodName) prog_5_method_16_code (5 : Nat) (Option.some Jvm.ClassFile.FieldType.boolean)) ∈ GG := gg_of (List.mem_of_getElem? (i := 443) (by decide +kernel)) (by decide +kernel)
theorem k_cn_D_38 : (Cond.constantLong "PagedBytesModel" (38 : Nat) (65536 : Int64)) ∈ GG := gg_of (List.mem_of_getElem? (i := 444) (by decide +kernel)) (by decide +kernel)
theorem k_ml_D_80 : (Cond.methodLink "PagedBytesModel" (80 : Nat) ({ cls := "PagedBytesModel", name := "get", desc := "(IJ)I" } : Jvm.MethodName)) ∈ GG := gg_of (List.mem_of_getElem? (i := 445) (by decide +kernel)) (by decide +kernel)
theorem k_im_D_get : (Cond.instanceMethod ({ cls := "PagedBytesModel", name := "get", desc := "(IJ)I" } : Jvm.MethodName)) ∈ GG := gg_of (List.mem_of_getElem? (i := 447) (by decide +kernel)) (by decide +kernel)
theorem k_co_D_get : (Cond.code ({ cls := "PagedBytesModel", name := "get", desc := "(IJ)I" } : Jvm.MethodName) prog_5_method_7_code (5 : Nat) (Option.some Jvm.ClassFile.FieldType.int)) ∈ GG := gg_of (List.mem_of_getElem? (i := 448) (by decide +kernel)) (by decide +kernel)
theorem k_ml_D_40 : (Cond.methodLink "PagedBytesModel" (40 : Nat) ({ cls := "PagedBytesModel", name := "rowOf", desc := "(IJ)I" } : Jvm.MethodName)) ∈ GG := gg_of (List.mem_of_getElem? (i := 449) (by decide +kernel)) (by decide +kernel)
theorem k_im_D_rowOf : (Cond.instanceMethod ({ cls := "PagedBytesModel", name := "rowOf", desc := "(IJ)I" } : Jvm.MethodName)) ∈ GG := gg_of (List.mem_of_getElem? (i := 451) (by decide +kernel)) (by decide +kernel)
theorem k_co_D_rowOf : (Cond.code ({ cls := "PagedBytesModel", name := "rowOf", desc := "(IJ)I" } : Jvm.MethodName) prog_5_method_6_code (7 : Nat) (Option.some Jvm.ClassFile.FieldType.int)) ∈ GG := gg_of (List.mem_of_getElem? (i := 452) (by decide +kernel)) (by decide +kernel)
theorem k_cn_D_44 : (Cond.constantLong "PagedBytesModel" (44 : Nat) (1024 : Int64)) ∈ GG := gg_of (List.mem_of_getElem? (i := 453) (by decide +kernel)) (by decide +kernel)
theorem k_ml_L_82 : (Cond.methodLink "PagedBytesLaw" (82 : Nat) ({ cls := "PagedBytesModel", name := "store", desc := "(IIIIJ)V" } : Jvm.MethodName)) ∈ GG := gg_of (List.mem_of_getElem? (i := 454) (by decide +kernel)) (by decide +kernel)
theorem k_im_D_store : (Cond.instanceMethod ({ cls := "PagedBytesModel", name := "store", desc := "(IIIIJ)V" } : Jvm.MethodName)) ∈ GG := gg_of (List.mem_of_getElem? (i := 455) (by decide +kernel)) (by decide +kernel)
theorem k_se_D_store : (Cond.selects "PagedBytesModel" ({ cls := "PagedBytesModel", name := "store", desc := "(IIIIJ)V" } : Jvm.MethodName) ({ cls := "PagedBytesModel", name := "store", desc := "(IIIIJ)V" } : Jvm.MethodName)) ∈ GG := gg_of (List.mem_of_getElem? (i := 456) (by decide +kernel)) (by decide +kernel)
theorem k_co_D_store : (Cond.code ({ cls := "PagedBytesModel", name := "store", desc := "(IIIIJ)V" } : Jvm.MethodName) prog_5_method_18_code (11 : Nat) (Option.none : Option Jvm.ClassFile.FieldType)) ∈ GG := gg_of (List.mem_of_getElem? (i := 457) (by decide +kernel)) (by decide +kernel)
theorem k_cn_D_83 : (Cond.constantLong "PagedBytesModel" (83 : Nat) (255 : Int64)) ∈ GG := gg_of (List.mem_of_getElem? (i := 458) (by decide +kernel)) (by decide +kernel)
theorem k_ml_D_85 : (Cond.methodLink "PagedBytesModel" (85 : Nat) ({ cls := "PagedBytesModel", name := "put", desc := "(IJI)V" } : Jvm.MethodName)) ∈ GG := gg_of (List.mem_of_getElem? (i := 459) (by decide +kernel)) (by decide +kernel)
theorem k_im_D_put : (Cond.instanceMethod ({ cls := "PagedBytesModel", name := "put", desc := "(IJI)V" } : Jvm.MethodName)) ∈ GG := gg_of (List.mem_of_getElem? (i := 461) (by decide +kernel)) (by decide +kernel)
theorem k_co_D_put : (Cond.code ({ cls := "PagedBytesModel", name := "put", desc := "(IJI)V" } : Jvm.MethodName) prog_5_method_8_code (6 : Nat) (Option.none : Option Jvm.ClassFile.FieldType)) ∈ GG := gg_of (List.mem_of_getElem? (i := 462) (by decide +kernel)) (by decide +kernel)
theorem k_ml_L_86 : (Cond.methodLink "PagedBytesLaw" (86 : Nat) ({ cls := "PagedBytesModel", name := "copy", desc := "(IIIII)V" } : Jvm.MethodName)) ∈ GG := gg_of (List.mem_of_getElem? (i := 463) (by decide +kernel)) (by decide +kernel)
theorem k_im_D_copy : (Cond.instanceMethod ({ cls := "PagedBytesModel", name := "copy", desc := "(IIIII)V" } : Jvm.MethodName)) ∈ GG := gg_of (List.mem_of_getElem? (i := 464) (by decide +kernel)) (by decide +kernel)
theorem k_se_D_copy : (Cond.selects "PagedBytesModel" ({ cls := "PagedBytesModel", name := "copy", desc := "(IIIII)V" } : Jvm.MethodName) ({ cls := "PagedBytesModel", name := "copy", desc := "(IIIII)V" } : Jvm.MethodName)) ∈ GG := gg_of (List.mem_of_getElem? (i := 465) (by decide +kernel)) (by decide +kernel)
theorem k_co_D_copy : (Cond.code ({ cls := "PagedBytesModel", name := "copy", desc := "(IIIII)V" } : Jvm.MethodName) prog_5_method_19_code (8 : Nat) (Option.none : Option Jvm.ClassFile.FieldType)) ∈ GG := gg_of (List.mem_of_getElem? (i := 466) (by decide +kernel)) (by decide +kernel)
theorem k_ml_L_89 : (Cond.methodLink "PagedBytesLaw" (89 : Nat) ({ cls := "PagedBytesModel", name := "sum", desc := "(III)I" } : Jvm.MethodName)) ∈ GG := gg_of (List.mem_of_getElem? (i := 467) (by decide +kernel)) (by decide +kernel)
theorem k_im_D_sum : (Cond.instanceMethod ({ cls := "PagedBytesModel", name := "sum", desc := "(III)I" } : Jvm.MethodName)) ∈ GG := gg_of (List.mem_of_getElem? (i := 468) (by decide +kernel)) (by decide +kernel)
theorem k_se_D_sum : (Cond.selects "PagedBytesModel" ({ cls := "PagedBytesModel", name := "sum", desc := "(III)I" } : Jvm.MethodName) ({ cls := "PagedBytesModel", name := "sum", desc := "(III)I" } : Jvm.MethodName)) ∈ GG := gg_of (List.mem_of_getElem? (i := 469) (by decide +kernel)) (by decide +kernel)
theorem k_co_D_sum : (Cond.code ({ cls := "PagedBytesModel", name := "sum", desc := "(III)I" } : Jvm.MethodName) prog_5_method_20_code (6 : Nat) (Option.some Jvm.ClassFile.FieldType.int)) ∈ GG := gg_of (List.mem_of_getElem? (i := 470) (by decide +kernel)) (by decide +kernel)
theorem k_cn_L_77 : (Cond.constantLong "PagedBytesLaw" (77 : Nat) (4294967295 : Int64)) ∈ GG := gg_of (List.mem_of_getElem? (i := 471) (by decide +kernel)) (by decide +kernel)
theorem k_se_P_memoryOf : Cond.selects "PagedBytes" ⟨"PagedBytes", "memoryOf", "(I)LPagedBytes$Memory;"⟩ ⟨"PagedBytes", "memoryOf", "(I)LPagedBytes$Memory;"⟩ ∈ GG := gg_of (List.mem_of_getElem? (i := 1) (by decide +kernel)) (by decide +kernel)
theorem k_se_M_byteAt : Cond.selects "PagedBytes$Memory" ⟨"PagedBytes$Memory", "byteAt", "(I)I"⟩ ⟨"PagedBytes$Memory", "byteAt", "(I)I"⟩ ∈ GG := gg_of (List.mem_of_getElem? (i := 2) (by decide +kernel)) (by decide +kernel)
theorem k_se_M_rowOrNull : Cond.selects "PagedBytes$Memory" ⟨"PagedBytes$Memory", "rowOrNull", "(I)LPagedBytes$Row;"⟩ ⟨"PagedBytes$Memory", "rowOrNull", "(I)LPagedBytes$Row;"⟩ ∈ GG := gg_of (List.mem_of_getElem? (i := 3) (by decide +kernel)) (by decide +kernel)
theorem k_se_M_putByte : Cond.selects "PagedBytes$Memory" ⟨"PagedBytes$Memory", "putByte", "(IB)V"⟩ ⟨"PagedBytes$Memory", "putByte", "(IB)V"⟩ ∈ GG := gg_of (List.mem_of_getElem? (i := 4) (by decide +kernel)) (by decide +kernel)
theorem k_se_M_rowToWrite : Cond.selects "PagedBytes$Memory" ⟨"PagedBytes$Memory", "rowToWrite", "(I)LPagedBytes$Row;"⟩ ⟨"PagedBytes$Memory", "rowToWrite", "(I)LPagedBytes$Row;"⟩ ∈ GG := gg_of (List.mem_of_getElem? (i := 5) (by decide +kernel)) (by decide +kernel)
theorem k_se_D_add : Cond.selects "PagedBytesModel" ⟨"PagedBytesModel", "add", "(II)V"⟩ ⟨"PagedBytesModel", "add", "(II)V"⟩ ∈ GG := gg_of (List.mem_of_getElem? (i := 6) (by decide +kernel)) (by decide +kernel)
theorem k_se_D_isMemory : Cond.selects "PagedBytesModel" ⟨"PagedBytesModel", "isMemory", "(I)Z"⟩ ⟨"PagedBytesModel", "isMemory", "(I)Z"⟩ ∈ GG := gg_of (List.mem_of_getElem? (i := 7) (by decide +kernel)) (by decide +kernel)
theorem k_se_D_count : Cond.selects "PagedBytesModel" ⟨"PagedBytesModel", "count", "(I)I"⟩ ⟨"PagedBytesModel", "count", "(I)I"⟩ ∈ GG := gg_of (List.mem_of_getElem? (i := 8) (by decide +kernel)) (by decide +kernel)
theorem k_se_D_isThere : Cond.selects "PagedBytesModel" ⟨"PagedBytesModel", "isThere", "(IJI)Z"⟩ ⟨"PagedBytesModel", "isThere", "(IJI)Z"⟩ ∈ GG := gg_of (List.mem_of_getElem? (i := 9) (by decide +kernel)) (by decide +kernel)
theorem k_se_D_get : Cond.selects "PagedBytesModel" ⟨"PagedBytesModel", "get", "(IJ)I"⟩ ⟨"PagedBytesModel", "get", "(IJ)I"⟩ ∈ GG := gg_of (List.mem_of_getElem? (i := 10) (by decide +kernel)) (by decide +kernel)
theorem k_se_D_rowOf : Cond.selects "PagedBytesModel" ⟨"PagedBytesModel", "rowOf", "(IJ)I"⟩ ⟨"PagedBytesModel", "rowOf", "(IJ)I"⟩ ∈ GG := gg_of (List.mem_of_getElem? (i := 11) (by decide +kernel)) (by decide +kernel)
theorem k_se_D_put : Cond.selects "PagedBytesModel" ⟨"PagedBytesModel", "put", "(IJI)V"⟩ ⟨"PagedBytesModel", "put", "(IJI)V"⟩ ∈ GG := gg_of (List.mem_of_getElem? (i := 12) (by decide +kernel)) (by decide +kernel)
theorem in_M : ∀ w ∈ u_ws R_M T_M 3, w ∈ GG := by decide +kernel
theorem in_W : ∀ w ∈ u_ws R_W T_W 1, w ∈ GG := by decide +kernel
theorem in_P : ∀ w ∈ u_ws R_P T_P 4, w ∈ GG := by decide +kernel
theorem in_D : ∀ w ∈ u_ws R_D T_D 8, w ∈ GG := by decide +kernel
abbrev b_P_init : ByteArray := prog_1_method_1_code
abbrev y_P_init : MethodName := ⟨R_P, "<init>", "()V"⟩
abbrev w_P_init : List Cond := Cond.code y_P_init b_P_init 1 (Option.none : Option Jvm.ClassFile.FieldType) :: GG
abbrev b_L_make : ByteArray := method_3_code
abbrev y_L_make : MethodName := ⟨R_L, "make", "(LPagedBytes;II[J)I"⟩
abbrev w_L_make : List Cond := Cond.codeWith y_L_make b_L_make 5 (Option.some Jvm.ClassFile.FieldType.int) [((0 : Nat), (10 : Nat), (13 : Nat), (13 : Nat)), ((0 : Nat), (10 : Nat), (17 : Nat), (15 : Nat)), ((0 : Nat), (10 : Nat), (21 : Nat), (17 : Nat))] :: GG
abbrev b_P_make : ByteArray := prog_1_method_2_code
abbrev y_P_make : MethodName := ⟨R_P, "make", "(II)I"⟩
abbrev w_P_make : List Cond := Cond.code y_P_make b_P_make 4 (Option.some Jvm.ClassFile.FieldType.int) :: GG
abbrev b_M_init : ByteArray := prog_2_method_1_code
abbrev y_M_init : MethodName := ⟨R_M, "<init>", "(II)V"⟩
abbrev w_M_init : List Cond := Cond.code y_M_init b_M_init 4 (Option.none : Option Jvm.ClassFile.FieldType) :: GG
abbrev b_L_pages : ByteArray := method_4_code
abbrev y_L_pages : MethodName := ⟨R_L, "pages", "(LPagedBytes;I[J)I"⟩
abbrev w_L_pages : List Cond := Cond.codeWith y_L_pages b_L_pages 4 (Option.some Jvm.ClassFile.FieldType.int) [((0 : Nat), (9 : Nat), (12 : Nat), (13 : Nat))] :: GG
abbrev b_P_pages : ByteArray := prog_1_method_3_code
abbrev y_P_pages : MethodName := ⟨R_P, "pages", "(I)I"⟩
abbrev w_P_pages : List Cond := Cond.code y_P_pages b_P_pages 2 (Option.some Jvm.ClassFile.FieldType.int) :: GG
abbrev b_P_memoryOf : ByteArray := prog_1_method_10_code
abbrev y_P_memoryOf : MethodName := ⟨R_P, "memoryOf", "(I)LPagedBytes$Memory;"⟩
abbrev w_P_memoryOf : List Cond := Cond.code y_P_memoryOf b_P_memoryOf 2 (Option.some (Jvm.ClassFile.FieldType.object "PagedBytes$Memory")) :: GG
abbrev b_L_grow : ByteArray := method_5_code
abbrev y_L_grow : MethodName := ⟨R_L, "grow", "(LPagedBytes;II[J)I"⟩
abbrev w_L_grow : List Cond := Cond.codeWith y_L_grow b_L_grow 5 (Option.some Jvm.ClassFile.FieldType.int) [((0 : Nat), (10 : Nat), (13 : Nat), (13 : Nat))] :: GG
abbrev b_P_grow : ByteArray := prog_1_method_4_code
abbrev y_P_grow : MethodName := ⟨R_P, "grow", "(II)I"⟩
abbrev w_P_grow : List Cond := Cond.code y_P_grow b_P_grow 7 (Option.some Jvm.ClassFile.FieldType.int) :: GG
abbrev b_P_withoutSign : ByteArray := prog_1_method_15_code
abbrev y_P_withoutSign : MethodName := ⟨R_P, "withoutSign", "(I)J"⟩
abbrev w_P_withoutSign : List Cond := Cond.code y_P_withoutSign b_P_withoutSign 1 (Option.some Jvm.ClassFile.FieldType.long) :: GG
abbrev b_M_pageLimit : ByteArray := prog_2_method_2_code
abbrev y_M_pageLimit : MethodName := ⟨R_M, "pageLimit", "()I"⟩
abbrev w_M_pageLimit : List Cond := Cond.code y_M_pageLimit b_M_pageLimit 1 (Option.some Jvm.ClassFile.FieldType.int) :: GG
abbrev b_L_fits : ByteArray := method_6_code
abbrev y_L_fits : MethodName := ⟨R_L, "fits", "(LPagedBytes;III[J)I"⟩
abbrev w_L_fits : List Cond := Cond.codeWith y_L_fits b_L_fits 6 (Option.some Jvm.ClassFile.FieldType.int) [((0 : Nat), (19 : Nat), (22 : Nat), (13 : Nat))] :: GG
abbrev b_P_fits : ByteArray := prog_1_method_5_code
abbrev y_P_fits : MethodName := ⟨R_P, "fits", "(III)Z"⟩
abbrev w_P_fits : List Cond := Cond.code y_P_fits b_P_fits 5 (Option.some Jvm.ClassFile.FieldType.boolean) :: GG
abbrev b_L_load : ByteArray := method_7_code
abbrev y_L_load : MethodName := ⟨R_L, "load", "(LPagedBytes;IIII[J)I"⟩
abbrev w_L_load : List Cond := Cond.codeWith y_L_load b_L_load 7 (Option.some Jvm.ClassFile.FieldType.int) [((0 : Nat), (13 : Nat), (16 : Nat), (13 : Nat)), ((0 : Nat), (13 : Nat), (20 : Nat), (34 : Nat))] :: GG
abbrev b_P_load : ByteArray := prog_1_method_6_code
abbrev y_P_load : MethodName := ⟨R_P, "load", "(IIII)J"⟩
abbrev w_P_load : List Cond := Cond.code y_P_load b_P_load 11 (Option.some Jvm.ClassFile.FieldType.long) :: GG
abbrev b_P_kindOf : ByteArray := prog_1_method_11_code
abbrev y_P_kindOf : MethodName := ⟨R_P, "kindOf", "(III)I"⟩
abbrev w_P_kindOf : List Cond := Cond.code y_P_kindOf b_P_kindOf 3 (Option.some Jvm.ClassFile.FieldType.int) :: GG
abbrev b_P_placeOf : ByteArray := prog_1_method_12_code
abbrev y_P_placeOf : MethodName := ⟨R_P, "placeOf", "(LPagedBytes$Memory;III)I"⟩
abbrev w_P_placeOf : List Cond := Cond.code y_P_placeOf b_P_placeOf 6 (Option.some Jvm.ClassFile.FieldType.int) :: GG
abbrev b_P_checkThere : ByteArray := prog_1_method_14_code
abbrev y_P_checkThere : MethodName := ⟨R_P, "checkThere", "(LPagedBytes$Memory;JI)V"⟩
abbrev w_P_checkThere : List Cond := Cond.code y_P_checkThere b_P_checkThere 4 (Option.none : Option Jvm.ClassFile.FieldType) :: GG
abbrev b_M_size : ByteArray := prog_2_method_3_code
abbrev y_M_size : MethodName := ⟨R_M, "size", "()J"⟩
abbrev w_M_size : List Cond := Cond.code y_M_size b_M_size 1 (Option.some Jvm.ClassFile.FieldType.long) :: GG
abbrev b_M_numberAt : ByteArray := prog_2_method_4_code
abbrev y_M_numberAt : MethodName := ⟨R_M, "numberAt", "(II)J"⟩
abbrev w_M_numberAt : List Cond := Cond.code y_M_numberAt b_M_numberAt 6 (Option.some Jvm.ClassFile.FieldType.long) :: GG
abbrev b_M_byteAt : ByteArray := prog_2_method_10_code
abbrev y_M_byteAt : MethodName := ⟨R_M, "byteAt", "(I)I"⟩
abbrev w_M_byteAt : List Cond := Cond.code y_M_byteAt b_M_byteAt 3 (Option.some Jvm.ClassFile.FieldType.int) :: GG
abbrev b_M_rowOrNull : ByteArray := prog_2_method_12_code
abbrev y_M_rowOrNull : MethodName := ⟨R_M, "rowOrNull", "(I)LPagedBytes$Row;"⟩
abbrev w_M_rowOrNull : List Cond := Cond.code y_M_rowOrNull b_M_rowOrNull 2 (Option.some (Jvm.ClassFile.FieldType.object "PagedBytes$Row")) :: GG
abbrev b_P_withSign : ByteArray := prog_1_method_16_code
abbrev y_P_withSign : MethodName := ⟨R_P, "withSign", "(JI)J"⟩
abbrev w_P_withSign : List Cond := Cond.code y_P_withSign b_P_withSign 4 (Option.some Jvm.ClassFile.FieldType.long) :: GG
abbrev b_L_store : ByteArray := method_8_code
abbrev y_L_store : MethodName := ⟨R_L, "store", "(LPagedBytes;IIIIJ)I"⟩
abbrev w_L_store : List Cond := Cond.codeWith y_L_store b_L_store 8 (Option.some Jvm.ClassFile.FieldType.int) [((0 : Nat), (11 : Nat), (14 : Nat), (13 : Nat)), ((0 : Nat), (11 : Nat), (18 : Nat), (34 : Nat))] :: GG
abbrev b_P_store : ByteArray := prog_1_method_7_code
abbrev y_P_store : MethodName := ⟨R_P, "store", "(IIIIJ)V"⟩
abbrev w_P_store : List Cond := Cond.code y_P_store b_P_store 10 (Option.none : Option Jvm.ClassFile.FieldType) :: GG
abbrev b_M_putNumber : ByteArray := prog_2_method_5_code
abbrev y_M_putNumber : MethodName := ⟨R_M, "putNumber", "(IIJ)V"⟩
abbrev w_M_putNumber : List Cond := Cond.code y_M_putNumber b_M_putNumber 6 (Option.none : Option Jvm.ClassFile.FieldType) :: GG
abbrev b_M_putByte : ByteArray := prog_2_method_11_code
abbrev y_M_putByte : MethodName := ⟨R_M, "putByte", "(IB)V"⟩
abbrev w_M_putByte : List Cond := Cond.code y_M_putByte b_M_putByte 4 (Option.none : Option Jvm.ClassFile.FieldType) :: GG
abbrev b_M_rowToWrite : ByteArray := prog_2_method_13_code
abbrev y_M_rowToWrite : MethodName := ⟨R_M, "rowToWrite", "(I)LPagedBytes$Row;"⟩
abbrev w_M_rowToWrite : List Cond := Cond.code y_M_rowToWrite b_M_rowToWrite 2 (Option.some (Jvm.ClassFile.FieldType.object "PagedBytes$Row")) :: GG
abbrev b_W_init : ByteArray := prog_3_method_1_code
abbrev y_W_init : MethodName := ⟨R_W, "<init>", "()V"⟩
abbrev w_W_init : List Cond := Cond.code y_W_init b_W_init 1 (Option.none : Option Jvm.ClassFile.FieldType) :: GG
abbrev b_L_copy : ByteArray := method_9_code
abbrev y_L_copy : MethodName := ⟨R_L, "copy", "(LPagedBytes;IIIII)I"⟩
abbrev w_L_copy : List Cond := Cond.codeWith y_L_copy b_L_copy 7 (Option.some Jvm.ClassFile.FieldType.int) [((0 : Nat), (11 : Nat), (14 : Nat), (13 : Nat)), ((0 : Nat), (11 : Nat), (18 : Nat), (34 : Nat))] :: GG
abbrev b_P_copy : ByteArray := prog_1_method_8_code
abbrev y_P_copy : MethodName := ⟨R_P, "copy", "(IIIII)V"⟩
abbrev w_P_copy : List Cond := Cond.code y_P_copy b_P_copy 8 (Option.none : Option Jvm.ClassFile.FieldType) :: GG
abbrev b_P_checkCount : ByteArray := prog_1_method_13_code
abbrev y_P_checkCount : MethodName := ⟨R_P, "checkCount", "(II)V"⟩
abbrev w_P_checkCount : List Cond := Cond.code y_P_checkCount b_P_checkCount 2 (Option.none : Option Jvm.ClassFile.FieldType) :: GG
abbrev b_M_readInto : ByteArray := prog_2_method_6_code
abbrev y_M_readInto : MethodName := ⟨R_M, "readInto", "([BII)V"⟩
abbrev w_M_readInto : List Cond := Cond.code y_M_readInto b_M_readInto 8 (Option.none : Option Jvm.ClassFile.FieldType) :: GG
abbrev b_M_clear : ByteArray := prog_2_method_7_code
abbrev y_M_clear : MethodName := ⟨R_M, "clear", "([BII)V"⟩
abbrev w_M_clear : List Cond := Cond.code y_M_clear b_M_clear 4 (Option.none : Option Jvm.ClassFile.FieldType) :: GG
abbrev b_M_writeFrom : ByteArray := prog_2_method_8_code
abbrev y_M_writeFrom : MethodName := ⟨R_M, "writeFrom", "([BII)V"⟩
abbrev w_M_writeFrom : List Cond := Cond.code y_M_writeFrom b_M_writeFrom 8 (Option.none : Option Jvm.ClassFile.FieldType) :: GG
abbrev b_L_sum : ByteArray := method_10_code
abbrev y_L_sum : MethodName := ⟨R_L, "sum", "(LPagedBytes;III[J)I"⟩
abbrev w_L_sum : List Cond := Cond.codeWith y_L_sum b_L_sum 6 (Option.some Jvm.ClassFile.FieldType.int) [((0 : Nat), (12 : Nat), (15 : Nat), (13 : Nat)), ((0 : Nat), (12 : Nat), (19 : Nat), (34 : Nat))] :: GG
abbrev b_P_sum : ByteArray := prog_1_method_9_code
abbrev y_P_sum : MethodName := ⟨R_P, "sum", "(III)I"⟩
abbrev w_P_sum : List Cond := Cond.code y_P_sum b_P_sum 5 (Option.some Jvm.ClassFile.FieldType.int) :: GG
abbrev b_M_weighedSum : ByteArray := prog_2_method_9_code
abbrev y_M_weighedSum : MethodName := ⟨R_M, "weighedSum", "(II)I"⟩
abbrev w_M_weighedSum : List Cond := Cond.code y_M_weighedSum b_M_weighedSum 8 (Option.some Jvm.ClassFile.FieldType.int) :: GG
abbrev b_W_weighedPart : ByteArray := prog_3_method_2_code
abbrev y_W_weighedPart : MethodName := ⟨R_W, "weighedPart", "(III)I"⟩
abbrev w_W_weighedPart : List Cond := Cond.code y_W_weighedPart b_W_weighedPart 7 (Option.some Jvm.ClassFile.FieldType.int) :: GG
abbrev b_D_init : ByteArray := prog_5_method_1_code
abbrev y_D_init : MethodName := ⟨R_D, "<init>", "()V"⟩
abbrev w_D_init : List Cond := Cond.code y_D_init b_D_init 1 (Option.none : Option Jvm.ClassFile.FieldType) :: GG
abbrev b_D_thrown : ByteArray := prog_5_method_2_code
abbrev y_D_thrown : MethodName := ⟨R_D, "thrown", "()I"⟩
abbrev w_D_thrown : List Cond := Cond.code y_D_thrown b_D_thrown 1 (Option.some Jvm.ClassFile.FieldType.int) :: GG
abbrev b_D_make : ByteArray := prog_5_method_9_code
abbrev y_D_make : MethodName := ⟨R_D, "make", "(II)I"⟩
abbrev w_D_make : List Cond := Cond.code y_D_make b_D_make 5 (Option.some Jvm.ClassFile.FieldType.int) :: GG
abbrev b_D_add : ByteArray := prog_5_method_5_code
abbrev y_D_add : MethodName := ⟨R_D, "add", "(II)V"⟩
abbrev w_D_add : List Cond := Cond.code y_D_add b_D_add 3 (Option.none : Option Jvm.ClassFile.FieldType) :: GG
abbrev b_D_pages : ByteArray := prog_5_method_10_code
abbrev y_D_pages : MethodName := ⟨R_D, "pages", "(I)I"⟩
abbrev w_D_pages : List Cond := Cond.code y_D_pages b_D_pages 2 (Option.some Jvm.ClassFile.FieldType.int) :: GG
abbrev b_D_isMemory : ByteArray := prog_5_method_3_code
abbrev y_D_isMemory : MethodName := ⟨R_D, "isMemory", "(I)Z"⟩
abbrev w_D_isMemory : List Cond := Cond.code y_D_isMemory b_D_isMemory 2 (Option.some Jvm.ClassFile.FieldType.boolean) :: GG
abbrev b_D_count : ByteArray := prog_5_method_4_code
abbrev y_D_count : MethodName := ⟨R_D, "count", "(I)I"⟩
abbrev w_D_count : List Cond := Cond.code y_D_count b_D_count 4 (Option.some Jvm.ClassFile.FieldType.int) :: GG
abbrev b_D_grow : ByteArray := prog_5_method_11_code
abbrev y_D_grow : MethodName := ⟨R_D, "grow", "(II)I"⟩
abbrev w_D_grow : List Cond := Cond.code y_D_grow b_D_grow 7 (Option.some Jvm.ClassFile.FieldType.int) :: GG
abbrev b_D_fits : ByteArray := prog_5_method_12_code
abbrev y_D_fits : MethodName := ⟨R_D, "fits", "(III)Z"⟩
abbrev w_D_fits : List Cond := Cond.code y_D_fits b_D_fits 4 (Option.some Jvm.ClassFile.FieldType.boolean) :: GG
abbrev b_D_load : ByteArray := prog_5_method_17_code
abbrev y_D_load : MethodName := ⟨R_D, "load", "(IIII)J"⟩
abbrev w_D_load : List Cond := Cond.code y_D_load b_D_load 13 (Option.some Jvm.ClassFile.FieldType.long) :: GG
abbrev b_D_place : ByteArray := prog_5_method_15_code
abbrev y_D_place : MethodName := ⟨R_D, "place", "(II)J"⟩
abbrev w_D_place : List Cond := Cond.code y_D_place b_D_place 2 (Option.some Jvm.ClassFile.FieldType.long) :: GG
abbrev b_D_size : ByteArray := prog_5_method_13_code
abbrev y_D_size : MethodName := ⟨R_D, "size", "(I)I"⟩
abbrev w_D_size : List Cond := Cond.code y_D_size b_D_size 1 (Option.some Jvm.ClassFile.FieldType.int) :: GG
abbrev b_D_isWhole : ByteArray := prog_5_method_14_code
abbrev y_D_isWhole : MethodName := ⟨R_D, "isWhole", "(IZ)Z"⟩
abbrev w_D_isWhole : List Cond := Cond.code y_D_isWhole b_D_isWhole 2 (Option.some Jvm.ClassFile.FieldType.boolean) :: GG
abbrev b_D_isThere : ByteArray := prog_5_method_16_code
abbrev y_D_isThere : MethodName := ⟨R_D, "isThere", "(IJI)Z"⟩
abbrev w_D_isThere : List Cond := Cond.code y_D_isThere b_D_isThere 5 (Option.some Jvm.ClassFile.FieldType.boolean) :: GG
abbrev b_D_get : ByteArray := prog_5_method_7_code
abbrev y_D_get : MethodName := ⟨R_D, "get", "(IJ)I"⟩
abbrev w_D_get : List Cond := Cond.code y_D_get b_D_get 5 (Option.some Jvm.ClassFile.FieldType.int) :: GG
abbrev b_D_rowOf : ByteArray := prog_5_method_6_code
abbrev y_D_rowOf : MethodName := ⟨R_D, "rowOf", "(IJ)I"⟩
abbrev w_D_rowOf : List Cond := Cond.code y_D_rowOf b_D_rowOf 7 (Option.some Jvm.ClassFile.FieldType.int) :: GG
abbrev b_D_store : ByteArray := prog_5_method_18_code
abbrev y_D_store : MethodName := ⟨R_D, "store", "(IIIIJ)V"⟩
abbrev w_D_store : List Cond := Cond.code y_D_store b_D_store 11 (Option.none : Option Jvm.ClassFile.FieldType) :: GG
abbrev b_D_put : ByteArray := prog_5_method_8_code
abbrev y_D_put : MethodName := ⟨R_D, "put", "(IJI)V"⟩
abbrev w_D_put : List Cond := Cond.code y_D_put b_D_put 6 (Option.none : Option Jvm.ClassFile.FieldType) :: GG
abbrev b_D_copy : ByteArray := prog_5_method_19_code
abbrev y_D_copy : MethodName := ⟨R_D, "copy", "(IIIII)V"⟩
abbrev w_D_copy : List Cond := Cond.code y_D_copy b_D_copy 8 (Option.none : Option Jvm.ClassFile.FieldType) :: GG
abbrev b_D_sum : ByteArray := prog_5_method_20_code
abbrev y_D_sum : MethodName := ⟨R_D, "sum", "(III)I"⟩
abbrev w_D_sum : List Cond := Cond.code y_D_sum b_D_sum 6 (Option.some Jvm.ClassFile.FieldType.int) :: GG
