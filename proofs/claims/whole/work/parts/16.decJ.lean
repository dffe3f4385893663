/-! methods of the JDK that lists need -/
def y_AL_init : MethodName := ⟨"java/util/ArrayList", "<init>", "()V"⟩
def w_AL_init : List Cond := .code y_AL_init prog_27_method_2_code 1 none :: TB
theorem d_AL_init_0 : decode prog_27_method_2_code 0 = .ok (.aload_n 0, 1) := by decide +kernel
theorem d_AL_init_1 : decode prog_27_method_2_code 1 = .ok (.invokespecial 1, 3) := by decide +kernel
theorem d_AL_init_4 : decode prog_27_method_2_code 4 = .ok (.aload_n 0, 1) := by decide +kernel
theorem d_AL_init_5 : decode prog_27_method_2_code 5 = .ok (.getstatic 39, 3) := by decide +kernel
theorem d_AL_init_8 : decode prog_27_method_2_code 8 = .ok (.putfield 9, 3) := by decide +kernel
theorem d_AL_init_11 : decode prog_27_method_2_code 11 = .ok (.return_, 1) := by decide +kernel
def y_AL_add0 : MethodName := ⟨"java/util/ArrayList", "add", "(Ljava/lang/Object;)Z"⟩
def w_AL_add0 : List Cond := .code y_AL_add0 prog_27_method_25_code 2 (some .boolean) :: TB
theorem d_AL_add0_0 : decode prog_27_method_25_code 0 = .ok (.aload_n 0, 1) := by decide +kernel
theorem d_AL_add0_1 : decode prog_27_method_25_code 1 = .ok (.dup, 1) := by decide +kernel
theorem d_AL_add0_2 : decode prog_27_method_25_code 2 = .ok (.getfield 63, 3) := by decide +kernel
theorem d_AL_add0_5 : decode prog_27_method_25_code 5 = .ok (.iconst 1, 1) := by decide +kernel
theorem d_AL_add0_6 : decode prog_27_method_25_code 6 = .ok (.iadd, 1) := by decide +kernel
theorem d_AL_add0_7 : decode prog_27_method_25_code 7 = .ok (.putfield 63, 3) := by decide +kernel
theorem d_AL_add0_10 : decode prog_27_method_25_code 10 = .ok (.aload_n 0, 1) := by decide +kernel
theorem d_AL_add0_11 : decode prog_27_method_25_code 11 = .ok (.aload_n 1, 1) := by decide +kernel
theorem d_AL_add0_12 : decode prog_27_method_25_code 12 = .ok (.aload_n 0, 1) := by decide +kernel
theorem d_AL_add0_13 : decode prog_27_method_25_code 13 = .ok (.getfield 9, 3) := by decide +kernel
theorem d_AL_add0_16 : decode prog_27_method_25_code 16 = .ok (.aload_n 0, 1) := by decide +kernel
theorem d_AL_add0_17 : decode prog_27_method_25_code 17 = .ok (.getfield 48, 3) := by decide +kernel
theorem d_AL_add0_20 : decode prog_27_method_25_code 20 = .ok (.invokevirtual 131, 3) := by decide +kernel
theorem d_AL_add0_23 : decode prog_27_method_25_code 23 = .ok (.iconst 1, 1) := by decide +kernel
theorem d_AL_add0_24 : decode prog_27_method_25_code 24 = .ok (.ireturn, 1) := by decide +kernel
def y_AL_add1 : MethodName := ⟨"java/util/ArrayList", "add", "(Ljava/lang/Object;[Ljava/lang/Object;I)V"⟩
def w_AL_add1 : List Cond := .code y_AL_add1 prog_27_method_24_code 4 none :: TB
theorem d_AL_add1_0 : decode prog_27_method_24_code 0 = .ok (.iload_n 3, 1) := by decide +kernel
theorem d_AL_add1_1 : decode prog_27_method_24_code 1 = .ok (.aload_n 2, 1) := by decide +kernel
theorem d_AL_add1_2 : decode prog_27_method_24_code 2 = .ok (.arraylength, 1) := by decide +kernel
theorem d_AL_add1_3 : decode prog_27_method_24_code 3 = .ok (.if_icmp .ne 8, 3) := by decide +kernel
theorem d_AL_add1_6 : decode prog_27_method_24_code 6 = .ok (.aload_n 0, 1) := by decide +kernel
theorem d_AL_add1_7 : decode prog_27_method_24_code 7 = .ok (.invokevirtual 129, 3) := by decide +kernel
theorem d_AL_add1_10 : decode prog_27_method_24_code 10 = .ok (.astore_n 2, 1) := by decide +kernel
theorem d_AL_add1_11 : decode prog_27_method_24_code 11 = .ok (.aload_n 2, 1) := by decide +kernel
theorem d_AL_add1_12 : decode prog_27_method_24_code 12 = .ok (.iload_n 3, 1) := by decide +kernel
theorem d_AL_add1_13 : decode prog_27_method_24_code 13 = .ok (.aload_n 1, 1) := by decide +kernel
theorem d_AL_add1_14 : decode prog_27_method_24_code 14 = .ok (.aastore, 1) := by decide +kernel
theorem d_AL_add1_15 : decode prog_27_method_24_code 15 = .ok (.aload_n 0, 1) := by decide +kernel
theorem d_AL_add1_16 : decode prog_27_method_24_code 16 = .ok (.iload_n 3, 1) := by decide +kernel
theorem d_AL_add1_17 : decode prog_27_method_24_code 17 = .ok (.iconst 1, 1) := by decide +kernel
theorem d_AL_add1_18 : decode prog_27_method_24_code 18 = .ok (.iadd, 1) := by decide +kernel
theorem d_AL_add1_19 : decode prog_27_method_24_code 19 = .ok (.putfield 48, 3) := by decide +kernel
theorem d_AL_add1_22 : decode prog_27_method_24_code 22 = .ok (.return_, 1) := by decide +kernel
def y_AL_elementData : MethodName := ⟨"java/util/ArrayList", "elementData", "(I)Ljava/lang/Object;"⟩
def w_AL_elementData : List Cond := .code y_AL_elementData prog_27_method_18_code 2 (some (.object "java/lang/Object")) :: TB
theorem d_AL_elementData_0 : decode prog_27_method_18_code 0 = .ok (.aload_n 0, 1) := by decide +kernel
theorem d_AL_elementData_1 : decode prog_27_method_18_code 1 = .ok (.getfield 9, 3) := by decide +kernel
theorem d_AL_elementData_4 : decode prog_27_method_18_code 4 = .ok (.iload_n 1, 1) := by decide +kernel
theorem d_AL_elementData_5 : decode prog_27_method_18_code 5 = .ok (.aaload, 1) := by decide +kernel
theorem d_AL_elementData_6 : decode prog_27_method_18_code 6 = .ok (.areturn, 1) := by decide +kernel
def y_AL_get : MethodName := ⟨"java/util/ArrayList", "get", "(I)Ljava/lang/Object;"⟩
def w_AL_get : List Cond := .code y_AL_get prog_27_method_20_code 2 (some (.object "java/lang/Object")) :: TB
theorem d_AL_get_0 : decode prog_27_method_20_code 0 = .ok (.iload_n 1, 1) := by decide +kernel
theorem d_AL_get_1 : decode prog_27_method_20_code 1 = .ok (.aload_n 0, 1) := by decide +kernel
theorem d_AL_get_2 : decode prog_27_method_20_code 2 = .ok (.getfield 48, 3) := by decide +kernel
theorem d_AL_get_5 : decode prog_27_method_20_code 5 = .ok (.invokestatic 118, 3) := by decide +kernel
theorem d_AL_get_8 : decode prog_27_method_20_code 8 = .ok (.pop, 1) := by decide +kernel
theorem d_AL_get_9 : decode prog_27_method_20_code 9 = .ok (.aload_n 0, 1) := by decide +kernel
theorem d_AL_get_10 : decode prog_27_method_20_code 10 = .ok (.iload_n 1, 1) := by decide +kernel
theorem d_AL_get_11 : decode prog_27_method_20_code 11 = .ok (.invokevirtual 123, 3) := by decide +kernel
theorem d_AL_get_14 : decode prog_27_method_20_code 14 = .ok (.areturn, 1) := by decide +kernel
def y_AL_grow0 : MethodName := ⟨"java/util/ArrayList", "grow", "()[Ljava/lang/Object;"⟩
def w_AL_grow0 : List Cond := .code y_AL_grow0 prog_27_method_7_code 1 (some (.array (.object "java/lang/Object"))) :: TB
theorem d_AL_grow0_0 : decode prog_27_method_7_code 0 = .ok (.aload_n 0, 1) := by decide +kernel
theorem d_AL_grow0_1 : decode prog_27_method_7_code 1 = .ok (.aload_n 0, 1) := by decide +kernel
theorem d_AL_grow0_2 : decode prog_27_method_7_code 2 = .ok (.getfield 48, 3) := by decide +kernel
theorem d_AL_grow0_5 : decode prog_27_method_7_code 5 = .ok (.iconst 1, 1) := by decide +kernel
theorem d_AL_grow0_6 : decode prog_27_method_7_code 6 = .ok (.iadd, 1) := by decide +kernel
theorem d_AL_grow0_7 : decode prog_27_method_7_code 7 = .ok (.invokevirtual 69, 3) := by decide +kernel
theorem d_AL_grow0_10 : decode prog_27_method_7_code 10 = .ok (.areturn, 1) := by decide +kernel
def y_AL_grow1 : MethodName := ⟨"java/util/ArrayList", "grow", "(I)[Ljava/lang/Object;"⟩
def w_AL_grow1 : List Cond := .code y_AL_grow1 prog_27_method_6_code 4 (some (.array (.object "java/lang/Object"))) :: TB
theorem d_AL_grow1_0 : decode prog_27_method_6_code 0 = .ok (.aload_n 0, 1) := by decide +kernel
theorem d_AL_grow1_1 : decode prog_27_method_6_code 1 = .ok (.getfield 9, 3) := by decide +kernel
theorem d_AL_grow1_4 : decode prog_27_method_6_code 4 = .ok (.arraylength, 1) := by decide +kernel
theorem d_AL_grow1_5 : decode prog_27_method_6_code 5 = .ok (.istore_n 2, 1) := by decide +kernel
theorem d_AL_grow1_6 : decode prog_27_method_6_code 6 = .ok (.iload_n 2, 1) := by decide +kernel
theorem d_AL_grow1_7 : decode prog_27_method_6_code 7 = .ok (.ifCond .gt 13, 3) := by decide +kernel
theorem d_AL_grow1_10 : decode prog_27_method_6_code 10 = .ok (.aload_n 0, 1) := by decide +kernel
theorem d_AL_grow1_11 : decode prog_27_method_6_code 11 = .ok (.getfield 9, 3) := by decide +kernel
theorem d_AL_grow1_14 : decode prog_27_method_6_code 14 = .ok (.getstatic 39, 3) := by decide +kernel
theorem d_AL_grow1_17 : decode prog_27_method_6_code 17 = .ok (.if_acmp .eq 28, 3) := by decide +kernel
theorem d_AL_grow1_20 : decode prog_27_method_6_code 20 = .ok (.iload_n 2, 1) := by decide +kernel
theorem d_AL_grow1_21 : decode prog_27_method_6_code 21 = .ok (.iload_n 1, 1) := by decide +kernel
theorem d_AL_grow1_22 : decode prog_27_method_6_code 22 = .ok (.iload_n 2, 1) := by decide +kernel
theorem d_AL_grow1_23 : decode prog_27_method_6_code 23 = .ok (.isub, 1) := by decide +kernel
theorem d_AL_grow1_24 : decode prog_27_method_6_code 24 = .ok (.iload_n 2, 1) := by decide +kernel
theorem d_AL_grow1_25 : decode prog_27_method_6_code 25 = .ok (.iconst 1, 1) := by decide +kernel
theorem d_AL_grow1_26 : decode prog_27_method_6_code 26 = .ok (.ishr, 1) := by decide +kernel
theorem d_AL_grow1_27 : decode prog_27_method_6_code 27 = .ok (.invokestatic 73, 3) := by decide +kernel
theorem d_AL_grow1_30 : decode prog_27_method_6_code 30 = .ok (.istore_n 3, 1) := by decide +kernel
theorem d_AL_grow1_31 : decode prog_27_method_6_code 31 = .ok (.aload_n 0, 1) := by decide +kernel
theorem d_AL_grow1_32 : decode prog_27_method_6_code 32 = .ok (.aload_n 0, 1) := by decide +kernel
theorem d_AL_grow1_33 : decode prog_27_method_6_code 33 = .ok (.getfield 9, 3) := by decide +kernel
theorem d_AL_grow1_36 : decode prog_27_method_6_code 36 = .ok (.iload_n 3, 1) := by decide +kernel
theorem d_AL_grow1_37 : decode prog_27_method_6_code 37 = .ok (.invokestatic 66, 3) := by decide +kernel
theorem d_AL_grow1_40 : decode prog_27_method_6_code 40 = .ok (.dup_x1, 1) := by decide +kernel
theorem d_AL_grow1_41 : decode prog_27_method_6_code 41 = .ok (.putfield 9, 3) := by decide +kernel
theorem d_AL_grow1_44 : decode prog_27_method_6_code 44 = .ok (.areturn, 1) := by decide +kernel
theorem d_AL_grow1_45 : decode prog_27_method_6_code 45 = .ok (.aload_n 0, 1) := by decide +kernel
theorem d_AL_grow1_46 : decode prog_27_method_6_code 46 = .ok (.bipush 10, 2) := by decide +kernel
theorem d_AL_grow1_48 : decode prog_27_method_6_code 48 = .ok (.iload_n 1, 1) := by decide +kernel
theorem d_AL_grow1_49 : decode prog_27_method_6_code 49 = .ok (.invokestatic 79, 3) := by decide +kernel
theorem d_AL_grow1_52 : decode prog_27_method_6_code 52 = .ok (.anewarray 7, 3) := by decide +kernel
theorem d_AL_grow1_55 : decode prog_27_method_6_code 55 = .ok (.dup_x1, 1) := by decide +kernel
theorem d_AL_grow1_56 : decode prog_27_method_6_code 56 = .ok (.putfield 9, 3) := by decide +kernel
theorem d_AL_grow1_59 : decode prog_27_method_6_code 59 = .ok (.areturn, 1) := by decide +kernel
def y_AL_size : MethodName := ⟨"java/util/ArrayList", "size", "()I"⟩
def w_AL_size : List Cond := .code y_AL_size prog_27_method_8_code 1 (some .int) :: TB
theorem d_AL_size_0 : decode prog_27_method_8_code 0 = .ok (.aload_n 0, 1) := by decide +kernel
theorem d_AL_size_1 : decode prog_27_method_8_code 1 = .ok (.getfield 48, 3) := by decide +kernel
theorem d_AL_size_4 : decode prog_27_method_8_code 4 = .ok (.ireturn, 1) := by decide +kernel
def y_AB_init : MethodName := ⟨"java/util/AbstractList", "<init>", "()V"⟩
def w_AB_init : List Cond := .code y_AB_init prog_26_method_1_code 1 none :: TB
theorem d_AB_init_0 : decode prog_26_method_1_code 0 = .ok (.aload_n 0, 1) := by decide +kernel
theorem d_AB_init_1 : decode prog_26_method_1_code 1 = .ok (.invokespecial 1, 3) := by decide +kernel
theorem d_AB_init_4 : decode prog_26_method_1_code 4 = .ok (.aload_n 0, 1) := by decide +kernel
theorem d_AB_init_5 : decode prog_26_method_1_code 5 = .ok (.iconst 0, 1) := by decide +kernel
theorem d_AB_init_6 : decode prog_26_method_1_code 6 = .ok (.putfield 7, 3) := by decide +kernel
theorem d_AB_init_9 : decode prog_26_method_1_code 9 = .ok (.return_, 1) := by decide +kernel
def y_AC_init : MethodName := ⟨"java/util/AbstractCollection", "<init>", "()V"⟩
def w_AC_init : List Cond := .code y_AC_init prog_25_method_1_code 1 none :: TB
theorem d_AC_init_0 : decode prog_25_method_1_code 0 = .ok (.aload_n 0, 1) := by decide +kernel
theorem d_AC_init_1 : decode prog_25_method_1_code 1 = .ok (.invokespecial 1, 3) := by decide +kernel
theorem d_AC_init_4 : decode prog_25_method_1_code 4 = .ok (.return_, 1) := by decide +kernel
def y_AR_copyOf0 : MethodName := ⟨"java/util/Arrays", "copyOf", "([Ljava/lang/Object;I)[Ljava/lang/Object;"⟩
def w_AR_copyOf0 : List Cond := .code y_AR_copyOf0 prog_28_method_119_code 2 (some (.array (.object "java/lang/Object"))) :: TB
theorem d_AR_copyOf0_0 : decode prog_28_method_119_code 0 = .ok (.aload_n 0, 1) := by decide +kernel
theorem d_AR_copyOf0_1 : decode prog_28_method_119_code 1 = .ok (.iload_n 1, 1) := by decide +kernel
theorem d_AR_copyOf0_2 : decode prog_28_method_119_code 2 = .ok (.aload_n 0, 1) := by decide +kernel
theorem d_AR_copyOf0_3 : decode prog_28_method_119_code 3 = .ok (.invokevirtual 86, 3) := by decide +kernel
theorem d_AR_copyOf0_6 : decode prog_28_method_119_code 6 = .ok (.invokestatic 300, 3) := by decide +kernel
theorem d_AR_copyOf0_9 : decode prog_28_method_119_code 9 = .ok (.areturn, 1) := by decide +kernel
def y_AR_copyOf1 : MethodName := ⟨"java/util/Arrays", "copyOf", "([Ljava/lang/Object;ILjava/lang/Class;)[Ljava/lang/Object;"⟩
def w_AR_copyOf1 : List Cond := .code y_AR_copyOf1 prog_28_method_120_code 4 (some (.array (.object "java/lang/Object"))) :: TB
theorem d_AR_copyOf1_0 : decode prog_28_method_120_code 0 = .ok (.aload_n 2, 1) := by decide +kernel
theorem d_AR_copyOf1_1 : decode prog_28_method_120_code 1 = .ok (.ldc 110, 2) := by decide +kernel
theorem d_AR_copyOf1_3 : decode prog_28_method_120_code 3 = .ok (.if_acmp .ne 10, 3) := by decide +kernel
theorem d_AR_copyOf1_6 : decode prog_28_method_120_code 6 = .ok (.iload_n 1, 1) := by decide +kernel
theorem d_AR_copyOf1_7 : decode prog_28_method_120_code 7 = .ok (.anewarray 2, 3) := by decide +kernel
theorem d_AR_copyOf1_10 : decode prog_28_method_120_code 10 = .ok (.goto 14, 3) := by decide +kernel
theorem d_AR_copyOf1_13 : decode prog_28_method_120_code 13 = .ok (.aload_n 2, 1) := by decide +kernel
theorem d_AR_copyOf1_14 : decode prog_28_method_120_code 14 = .ok (.invokevirtual 90, 3) := by decide +kernel
theorem d_AR_copyOf1_17 : decode prog_28_method_120_code 17 = .ok (.iload_n 1, 1) := by decide +kernel
theorem d_AR_copyOf1_18 : decode prog_28_method_120_code 18 = .ok (.invokestatic 95, 3) := by decide +kernel
theorem d_AR_copyOf1_21 : decode prog_28_method_120_code 21 = .ok (.checkcast 110, 3) := by decide +kernel
theorem d_AR_copyOf1_24 : decode prog_28_method_120_code 24 = .ok (.astore_n 3, 1) := by decide +kernel
theorem d_AR_copyOf1_25 : decode prog_28_method_120_code 25 = .ok (.aload_n 0, 1) := by decide +kernel
theorem d_AR_copyOf1_26 : decode prog_28_method_120_code 26 = .ok (.iconst 0, 1) := by decide +kernel
theorem d_AR_copyOf1_27 : decode prog_28_method_120_code 27 = .ok (.aload_n 3, 1) := by decide +kernel
theorem d_AR_copyOf1_28 : decode prog_28_method_120_code 28 = .ok (.iconst 0, 1) := by decide +kernel
theorem d_AR_copyOf1_29 : decode prog_28_method_120_code 29 = .ok (.aload_n 0, 1) := by decide +kernel
theorem d_AR_copyOf1_30 : decode prog_28_method_120_code 30 = .ok (.arraylength, 1) := by decide +kernel
theorem d_AR_copyOf1_31 : decode prog_28_method_120_code 31 = .ok (.iload_n 1, 1) := by decide +kernel
theorem d_AR_copyOf1_32 : decode prog_28_method_120_code 32 = .ok (.invokestatic 304, 3) := by decide +kernel
theorem d_AR_copyOf1_35 : decode prog_28_method_120_code 35 = .ok (.invokestatic 150, 3) := by decide +kernel
theorem d_AR_copyOf1_38 : decode prog_28_method_120_code 38 = .ok (.aload_n 3, 1) := by decide +kernel
theorem d_AR_copyOf1_39 : decode prog_28_method_120_code 39 = .ok (.areturn, 1) := by decide +kernel
def y_OB_checkIndex : MethodName := ⟨"java/util/Objects", "checkIndex", "(II)I"⟩
def w_OB_checkIndex : List Cond := .code y_OB_checkIndex prog_31_method_17_code 2 (some .int) :: TB
theorem d_OB_checkIndex_0 : decode prog_31_method_17_code 0 = .ok (.iload_n 0, 1) := by decide +kernel
theorem d_OB_checkIndex_1 : decode prog_31_method_17_code 1 = .ok (.iload_n 1, 1) := by decide +kernel
theorem d_OB_checkIndex_2 : decode prog_31_method_17_code 2 = .ok (.aconst_null, 1) := by decide +kernel
theorem d_OB_checkIndex_3 : decode prog_31_method_17_code 3 = .ok (.invokestatic 105, 3) := by decide +kernel
theorem d_OB_checkIndex_6 : decode prog_31_method_17_code 6 = .ok (.ireturn, 1) := by decide +kernel
def y_PR_checkIndex : MethodName := ⟨"jdk/internal/util/Preconditions", "checkIndex", "(IILjava/util/function/BiFunction;)I"⟩
def w_PR_checkIndex : List Cond := .code y_PR_checkIndex prog_35_method_11_code 3 (some .int) :: TB
theorem d_PR_checkIndex_0 : decode prog_35_method_11_code 0 = .ok (.iload_n 0, 1) := by decide +kernel
theorem d_PR_checkIndex_1 : decode prog_35_method_11_code 1 = .ok (.ifCond .lt 8, 3) := by decide +kernel
theorem d_PR_checkIndex_4 : decode prog_35_method_11_code 4 = .ok (.iload_n 0, 1) := by decide +kernel
theorem d_PR_checkIndex_5 : decode prog_35_method_11_code 5 = .ok (.iload_n 1, 1) := by decide +kernel
theorem d_PR_checkIndex_6 : decode prog_35_method_11_code 6 = .ok (.if_icmp .lt 10, 3) := by decide +kernel
theorem d_PR_checkIndex_9 : decode prog_35_method_11_code 9 = .ok (.aload_n 2, 1) := by decide +kernel
theorem d_PR_checkIndex_10 : decode prog_35_method_11_code 10 = .ok (.iload_n 0, 1) := by decide +kernel
theorem d_PR_checkIndex_11 : decode prog_35_method_11_code 11 = .ok (.iload_n 1, 1) := by decide +kernel
theorem d_PR_checkIndex_12 : decode prog_35_method_11_code 12 = .ok (.invokestatic 95, 3) := by decide +kernel
theorem d_PR_checkIndex_15 : decode prog_35_method_11_code 15 = .ok (.athrow, 1) := by decide +kernel
theorem d_PR_checkIndex_16 : decode prog_35_method_11_code 16 = .ok (.iload_n 0, 1) := by decide +kernel
theorem d_PR_checkIndex_17 : decode prog_35_method_11_code 17 = .ok (.ireturn, 1) := by decide +kernel
def y_AS_hugeLength : MethodName := ⟨"jdk/internal/util/ArraysSupport", "hugeLength", "(II)I"⟩
def w_AS_hugeLength : List Cond := .code y_AS_hugeLength prog_34_method_28_code 3 (some .int) :: TB
theorem d_AS_hugeLength_0 : decode prog_34_method_28_code 0 = .ok (.iload_n 0, 1) := by decide +kernel
theorem d_AS_hugeLength_1 : decode prog_34_method_28_code 1 = .ok (.iload_n 1, 1) := by decide +kernel
theorem d_AS_hugeLength_2 : decode prog_34_method_28_code 2 = .ok (.iadd, 1) := by decide +kernel
theorem d_AS_hugeLength_3 : decode prog_34_method_28_code 3 = .ok (.istore_n 2, 1) := by decide +kernel
theorem d_AS_hugeLength_4 : decode prog_34_method_28_code 4 = .ok (.iload_n 2, 1) := by decide +kernel
theorem d_AS_hugeLength_5 : decode prog_34_method_28_code 5 = .ok (.ifCond .ge 44, 3) := by decide +kernel
theorem d_AS_hugeLength_8 : decode prog_34_method_28_code 8 = .ok (.new 204, 3) := by decide +kernel
theorem d_AS_hugeLength_11 : decode prog_34_method_28_code 11 = .ok (.dup, 1) := by decide +kernel
theorem d_AS_hugeLength_12 : decode prog_34_method_28_code 12 = .ok (.new 89, 3) := by decide +kernel
theorem d_AS_hugeLength_15 : decode prog_34_method_28_code 15 = .ok (.dup, 1) := by decide +kernel
theorem d_AS_hugeLength_16 : decode prog_34_method_28_code 16 = .ok (.invokespecial 91, 3) := by decide +kernel
theorem d_AS_hugeLength_19 : decode prog_34_method_28_code 19 = .ok (.ldc 206, 2) := by decide +kernel
theorem d_AS_hugeLength_21 : decode prog_34_method_28_code 21 = .ok (.invokevirtual 94, 3) := by decide +kernel
theorem d_AS_hugeLength_24 : decode prog_34_method_28_code 24 = .ok (.iload_n 0, 1) := by decide +kernel
theorem d_AS_hugeLength_25 : decode prog_34_method_28_code 25 = .ok (.invokevirtual 98, 3) := by decide +kernel
theorem d_AS_hugeLength_28 : decode prog_34_method_28_code 28 = .ok (.ldc 208, 2) := by decide +kernel
theorem d_AS_hugeLength_30 : decode prog_34_method_28_code 30 = .ok (.invokevirtual 94, 3) := by decide +kernel
theorem d_AS_hugeLength_33 : decode prog_34_method_28_code 33 = .ok (.iload_n 1, 1) := by decide +kernel
theorem d_AS_hugeLength_34 : decode prog_34_method_28_code 34 = .ok (.invokevirtual 98, 3) := by decide +kernel
theorem d_AS_hugeLength_37 : decode prog_34_method_28_code 37 = .ok (.ldc 210, 2) := by decide +kernel
theorem d_AS_hugeLength_39 : decode prog_34_method_28_code 39 = .ok (.invokevirtual 94, 3) := by decide +kernel
theorem d_AS_hugeLength_42 : decode prog_34_method_28_code 42 = .ok (.invokevirtual 101, 3) := by decide +kernel
theorem d_AS_hugeLength_45 : decode prog_34_method_28_code 45 = .ok (.invokespecial 212, 3) := by decide +kernel
theorem d_AS_hugeLength_48 : decode prog_34_method_28_code 48 = .ok (.athrow, 1) := by decide +kernel
theorem d_AS_hugeLength_49 : decode prog_34_method_28_code 49 = .ok (.iload_n 2, 1) := by decide +kernel
theorem d_AS_hugeLength_50 : decode prog_34_method_28_code 50 = .ok (.ldc 200, 2) := by decide +kernel
theorem d_AS_hugeLength_52 : decode prog_34_method_28_code 52 = .ok (.if_icmp .gt 6, 3) := by decide +kernel
theorem d_AS_hugeLength_55 : decode prog_34_method_28_code 55 = .ok (.ldc 200, 2) := by decide +kernel
theorem d_AS_hugeLength_57 : decode prog_34_method_28_code 57 = .ok (.ireturn, 1) := by decide +kernel
theorem d_AS_hugeLength_58 : decode prog_34_method_28_code 58 = .ok (.iload_n 2, 1) := by decide +kernel
theorem d_AS_hugeLength_59 : decode prog_34_method_28_code 59 = .ok (.ireturn, 1) := by decide +kernel
def y_AS_newLength : MethodName := ⟨"jdk/internal/util/ArraysSupport", "newLength", "(III)I"⟩
def w_AS_newLength : List Cond := .code y_AS_newLength prog_34_method_27_code 4 (some .int) :: TB
theorem d_AS_newLength_0 : decode prog_34_method_27_code 0 = .ok (.iload_n 0, 1) := by decide +kernel
theorem d_AS_newLength_1 : decode prog_34_method_27_code 1 = .ok (.iload_n 1, 1) := by decide +kernel
theorem d_AS_newLength_2 : decode prog_34_method_27_code 2 = .ok (.iload_n 2, 1) := by decide +kernel
theorem d_AS_newLength_3 : decode prog_34_method_27_code 3 = .ok (.invokestatic 194, 3) := by decide +kernel
theorem d_AS_newLength_6 : decode prog_34_method_27_code 6 = .ok (.iadd, 1) := by decide +kernel
theorem d_AS_newLength_7 : decode prog_34_method_27_code 7 = .ok (.istore_n 3, 1) := by decide +kernel
theorem d_AS_newLength_8 : decode prog_34_method_27_code 8 = .ok (.iconst 0, 1) := by decide +kernel
theorem d_AS_newLength_9 : decode prog_34_method_27_code 9 = .ok (.iload_n 3, 1) := by decide +kernel
theorem d_AS_newLength_10 : decode prog_34_method_27_code 10 = .ok (.if_icmp .ge 11, 3) := by decide +kernel
theorem d_AS_newLength_13 : decode prog_34_method_27_code 13 = .ok (.iload_n 3, 1) := by decide +kernel
theorem d_AS_newLength_14 : decode prog_34_method_27_code 14 = .ok (.ldc 200, 2) := by decide +kernel
theorem d_AS_newLength_16 : decode prog_34_method_27_code 16 = .ok (.if_icmp .gt 5, 3) := by decide +kernel
theorem d_AS_newLength_19 : decode prog_34_method_27_code 19 = .ok (.iload_n 3, 1) := by decide +kernel
theorem d_AS_newLength_20 : decode prog_34_method_27_code 20 = .ok (.ireturn, 1) := by decide +kernel
theorem d_AS_newLength_21 : decode prog_34_method_27_code 21 = .ok (.iload_n 0, 1) := by decide +kernel
theorem d_AS_newLength_22 : decode prog_34_method_27_code 22 = .ok (.iload_n 1, 1) := by decide +kernel
theorem d_AS_newLength_23 : decode prog_34_method_27_code 23 = .ok (.invokestatic 201, 3) := by decide +kernel
theorem d_AS_newLength_26 : decode prog_34_method_27_code 26 = .ok (.ireturn, 1) := by decide +kernel
