/-! methods of the model -/
def y_MD_init : MethodName := ⟨"PageMakerModel", "<init>", "()V"⟩
def w_MD_init : List Cond := .code y_MD_init prog_12_method_1_code 1 none :: TB
theorem d_MD_init_0 : decode prog_12_method_1_code 0 = .ok (.aload_n 0, 1) := by decide +kernel
theorem d_MD_init_1 : decode prog_12_method_1_code 1 = .ok (.invokespecial 1, 3) := by decide +kernel
theorem d_MD_init_4 : decode prog_12_method_1_code 4 = .ok (.aload_n 0, 1) := by decide +kernel
theorem d_MD_init_5 : decode prog_12_method_1_code 5 = .ok (.sipush 2000, 3) := by decide +kernel
theorem d_MD_init_8 : decode prog_12_method_1_code 8 = .ok (.newarray .int, 2) := by decide +kernel
theorem d_MD_init_10 : decode prog_12_method_1_code 10 = .ok (.putfield 7, 3) := by decide +kernel
theorem d_MD_init_13 : decode prog_12_method_1_code 13 = .ok (.aload_n 0, 1) := by decide +kernel
theorem d_MD_init_14 : decode prog_12_method_1_code 14 = .ok (.sipush 2000, 3) := by decide +kernel
theorem d_MD_init_17 : decode prog_12_method_1_code 17 = .ok (.newarray .int, 2) := by decide +kernel
theorem d_MD_init_19 : decode prog_12_method_1_code 19 = .ok (.putfield 13, 3) := by decide +kernel
theorem d_MD_init_22 : decode prog_12_method_1_code 22 = .ok (.aload_n 0, 1) := by decide +kernel
theorem d_MD_init_23 : decode prog_12_method_1_code 23 = .ok (.sipush 2000, 3) := by decide +kernel
theorem d_MD_init_26 : decode prog_12_method_1_code 26 = .ok (.newarray .int, 2) := by decide +kernel
theorem d_MD_init_28 : decode prog_12_method_1_code 28 = .ok (.putfield 16, 3) := by decide +kernel
theorem d_MD_init_31 : decode prog_12_method_1_code 31 = .ok (.aload_n 0, 1) := by decide +kernel
theorem d_MD_init_32 : decode prog_12_method_1_code 32 = .ok (.sipush 2000, 3) := by decide +kernel
theorem d_MD_init_35 : decode prog_12_method_1_code 35 = .ok (.newarray .int, 2) := by decide +kernel
theorem d_MD_init_37 : decode prog_12_method_1_code 37 = .ok (.putfield 19, 3) := by decide +kernel
theorem d_MD_init_40 : decode prog_12_method_1_code 40 = .ok (.aload_n 0, 1) := by decide +kernel
theorem d_MD_init_41 : decode prog_12_method_1_code 41 = .ok (.sipush 2000, 3) := by decide +kernel
theorem d_MD_init_44 : decode prog_12_method_1_code 44 = .ok (.newarray .int, 2) := by decide +kernel
theorem d_MD_init_46 : decode prog_12_method_1_code 46 = .ok (.putfield 22, 3) := by decide +kernel
theorem d_MD_init_49 : decode prog_12_method_1_code 49 = .ok (.aload_n 0, 1) := by decide +kernel
theorem d_MD_init_50 : decode prog_12_method_1_code 50 = .ok (.ldc 25, 2) := by decide +kernel
theorem d_MD_init_52 : decode prog_12_method_1_code 52 = .ok (.putfield 26, 3) := by decide +kernel
theorem d_MD_init_55 : decode prog_12_method_1_code 55 = .ok (.aload_n 0, 1) := by decide +kernel
theorem d_MD_init_56 : decode prog_12_method_1_code 56 = .ok (.ldc 30, 2) := by decide +kernel
theorem d_MD_init_58 : decode prog_12_method_1_code 58 = .ok (.putfield 31, 3) := by decide +kernel
theorem d_MD_init_61 : decode prog_12_method_1_code 61 = .ok (.aload_n 0, 1) := by decide +kernel
theorem d_MD_init_62 : decode prog_12_method_1_code 62 = .ok (.ldc 34, 2) := by decide +kernel
theorem d_MD_init_64 : decode prog_12_method_1_code 64 = .ok (.putfield 35, 3) := by decide +kernel
theorem d_MD_init_67 : decode prog_12_method_1_code 67 = .ok (.aload_n 0, 1) := by decide +kernel
theorem d_MD_init_68 : decode prog_12_method_1_code 68 = .ok (.sipush 2001, 3) := by decide +kernel
theorem d_MD_init_71 : decode prog_12_method_1_code 71 = .ok (.newarray .int, 2) := by decide +kernel
theorem d_MD_init_73 : decode prog_12_method_1_code 73 = .ok (.putfield 38, 3) := by decide +kernel
theorem d_MD_init_76 : decode prog_12_method_1_code 76 = .ok (.aload_n 0, 1) := by decide +kernel
theorem d_MD_init_77 : decode prog_12_method_1_code 77 = .ok (.sipush 2001, 3) := by decide +kernel
theorem d_MD_init_80 : decode prog_12_method_1_code 80 = .ok (.newarray .int, 2) := by decide +kernel
theorem d_MD_init_82 : decode prog_12_method_1_code 82 = .ok (.putfield 41, 3) := by decide +kernel
theorem d_MD_init_85 : decode prog_12_method_1_code 85 = .ok (.aload_n 0, 1) := by decide +kernel
theorem d_MD_init_86 : decode prog_12_method_1_code 86 = .ok (.sipush 2001, 3) := by decide +kernel
theorem d_MD_init_89 : decode prog_12_method_1_code 89 = .ok (.newarray .int, 2) := by decide +kernel
theorem d_MD_init_91 : decode prog_12_method_1_code 91 = .ok (.putfield 44, 3) := by decide +kernel
theorem d_MD_init_94 : decode prog_12_method_1_code 94 = .ok (.aload_n 0, 1) := by decide +kernel
theorem d_MD_init_95 : decode prog_12_method_1_code 95 = .ok (.sipush 2001, 3) := by decide +kernel
theorem d_MD_init_98 : decode prog_12_method_1_code 98 = .ok (.newarray .int, 2) := by decide +kernel
theorem d_MD_init_100 : decode prog_12_method_1_code 100 = .ok (.putfield 47, 3) := by decide +kernel
theorem d_MD_init_103 : decode prog_12_method_1_code 103 = .ok (.aload_n 0, 1) := by decide +kernel
theorem d_MD_init_104 : decode prog_12_method_1_code 104 = .ok (.sipush 2001, 3) := by decide +kernel
theorem d_MD_init_107 : decode prog_12_method_1_code 107 = .ok (.newarray .int, 2) := by decide +kernel
theorem d_MD_init_109 : decode prog_12_method_1_code 109 = .ok (.putfield 50, 3) := by decide +kernel
theorem d_MD_init_112 : decode prog_12_method_1_code 112 = .ok (.aload_n 0, 1) := by decide +kernel
theorem d_MD_init_113 : decode prog_12_method_1_code 113 = .ok (.sipush 2001, 3) := by decide +kernel
theorem d_MD_init_116 : decode prog_12_method_1_code 116 = .ok (.newarray .int, 2) := by decide +kernel
theorem d_MD_init_118 : decode prog_12_method_1_code 118 = .ok (.putfield 53, 3) := by decide +kernel
theorem d_MD_init_121 : decode prog_12_method_1_code 121 = .ok (.aload_n 0, 1) := by decide +kernel
theorem d_MD_init_122 : decode prog_12_method_1_code 122 = .ok (.sipush 2001, 3) := by decide +kernel
theorem d_MD_init_125 : decode prog_12_method_1_code 125 = .ok (.newarray .int, 2) := by decide +kernel
theorem d_MD_init_127 : decode prog_12_method_1_code 127 = .ok (.putfield 56, 3) := by decide +kernel
theorem d_MD_init_130 : decode prog_12_method_1_code 130 = .ok (.aload_n 0, 1) := by decide +kernel
theorem d_MD_init_131 : decode prog_12_method_1_code 131 = .ok (.iconst 4, 1) := by decide +kernel
theorem d_MD_init_132 : decode prog_12_method_1_code 132 = .ok (.newarray .long, 2) := by decide +kernel
theorem d_MD_init_134 : decode prog_12_method_1_code 134 = .ok (.putfield 59, 3) := by decide +kernel
theorem d_MD_init_137 : decode prog_12_method_1_code 137 = .ok (.aload_n 0, 1) := by decide +kernel
theorem d_MD_init_138 : decode prog_12_method_1_code 138 = .ok (.iconst (-1), 1) := by decide +kernel
theorem d_MD_init_139 : decode prog_12_method_1_code 139 = .ok (.putfield 63, 3) := by decide +kernel
theorem d_MD_init_142 : decode prog_12_method_1_code 142 = .ok (.aload_n 0, 1) := by decide +kernel
theorem d_MD_init_143 : decode prog_12_method_1_code 143 = .ok (.ldc 66, 2) := by decide +kernel
theorem d_MD_init_145 : decode prog_12_method_1_code 145 = .ok (.putfield 67, 3) := by decide +kernel
theorem d_MD_init_148 : decode prog_12_method_1_code 148 = .ok (.return_, 1) := by decide +kernel
def y_MD_thrown : MethodName := ⟨"PageMakerModel", "thrown", "()I"⟩
def w_MD_thrown : List Cond := .code y_MD_thrown prog_12_method_2_code 1 (some .int) :: TB
theorem d_MD_thrown_0 : decode prog_12_method_2_code 0 = .ok (.aload_n 0, 1) := by decide +kernel
theorem d_MD_thrown_1 : decode prog_12_method_2_code 1 = .ok (.getfield 70, 3) := by decide +kernel
theorem d_MD_thrown_4 : decode prog_12_method_2_code 4 = .ok (.ireturn, 1) := by decide +kernel
def y_MD_isSize : MethodName := ⟨"PageMakerModel", "isSize", "(I)Z"⟩
def w_MD_isSize : List Cond := .code y_MD_isSize prog_12_method_3_code 1 (some .boolean) :: TB
theorem d_MD_isSize_0 : decode prog_12_method_3_code 0 = .ok (.iload_n 0, 1) := by decide +kernel
theorem d_MD_isSize_1 : decode prog_12_method_3_code 1 = .ok (.ldc 73, 2) := by decide +kernel
theorem d_MD_isSize_3 : decode prog_12_method_3_code 3 = .ok (.if_icmp .lt 13, 3) := by decide +kernel
theorem d_MD_isSize_6 : decode prog_12_method_3_code 6 = .ok (.iload_n 0, 1) := by decide +kernel
theorem d_MD_isSize_7 : decode prog_12_method_3_code 7 = .ok (.ldc 66, 2) := by decide +kernel
theorem d_MD_isSize_9 : decode prog_12_method_3_code 9 = .ok (.if_icmp .gt 7, 3) := by decide +kernel
theorem d_MD_isSize_12 : decode prog_12_method_3_code 12 = .ok (.iconst 1, 1) := by decide +kernel
theorem d_MD_isSize_13 : decode prog_12_method_3_code 13 = .ok (.goto 4, 3) := by decide +kernel
theorem d_MD_isSize_16 : decode prog_12_method_3_code 16 = .ok (.iconst 0, 1) := by decide +kernel
theorem d_MD_isSize_17 : decode prog_12_method_3_code 17 = .ok (.ireturn, 1) := by decide +kernel
def y_MD_isMore : MethodName := ⟨"PageMakerModel", "isMore", "(I)Z"⟩
def w_MD_isMore : List Cond := .code y_MD_isMore prog_12_method_4_code 1 (some .boolean) :: TB
theorem d_MD_isMore_0 : decode prog_12_method_4_code 0 = .ok (.iload_n 0, 1) := by decide +kernel
theorem d_MD_isMore_1 : decode prog_12_method_4_code 1 = .ok (.ifCond .lt 13, 3) := by decide +kernel
theorem d_MD_isMore_4 : decode prog_12_method_4_code 4 = .ok (.iload_n 0, 1) := by decide +kernel
theorem d_MD_isMore_5 : decode prog_12_method_4_code 5 = .ok (.ldc 66, 2) := by decide +kernel
theorem d_MD_isMore_7 : decode prog_12_method_4_code 7 = .ok (.if_icmp .gt 7, 3) := by decide +kernel
theorem d_MD_isMore_10 : decode prog_12_method_4_code 10 = .ok (.iconst 1, 1) := by decide +kernel
theorem d_MD_isMore_11 : decode prog_12_method_4_code 11 = .ok (.goto 4, 3) := by decide +kernel
theorem d_MD_isMore_14 : decode prog_12_method_4_code 14 = .ok (.iconst 0, 1) := by decide +kernel
theorem d_MD_isMore_15 : decode prog_12_method_4_code 15 = .ok (.ireturn, 1) := by decide +kernel
def y_MD_frame : MethodName := ⟨"PageMakerModel", "frame", "(III)V"⟩
def w_MD_frame : List Cond := .code y_MD_frame prog_12_method_5_code 4 none :: TB
theorem d_MD_frame_0 : decode prog_12_method_5_code 0 = .ok (.aload_n 0, 1) := by decide +kernel
theorem d_MD_frame_1 : decode prog_12_method_5_code 1 = .ok (.iload_n 1, 1) := by decide +kernel
theorem d_MD_frame_2 : decode prog_12_method_5_code 2 = .ok (.invokestatic 74, 3) := by decide +kernel
theorem d_MD_frame_5 : decode prog_12_method_5_code 5 = .ok (.ifCond .eq 21, 3) := by decide +kernel
theorem d_MD_frame_8 : decode prog_12_method_5_code 8 = .ok (.iload_n 2, 1) := by decide +kernel
theorem d_MD_frame_9 : decode prog_12_method_5_code 9 = .ok (.invokestatic 78, 3) := by decide +kernel
theorem d_MD_frame_12 : decode prog_12_method_5_code 12 = .ok (.ifCond .eq 14, 3) := by decide +kernel
theorem d_MD_frame_15 : decode prog_12_method_5_code 15 = .ok (.iload_n 3, 1) := by decide +kernel
theorem d_MD_frame_16 : decode prog_12_method_5_code 16 = .ok (.invokestatic 74, 3) := by decide +kernel
theorem d_MD_frame_19 : decode prog_12_method_5_code 19 = .ok (.ifCond .eq 7, 3) := by decide +kernel
theorem d_MD_frame_22 : decode prog_12_method_5_code 22 = .ok (.iconst 0, 1) := by decide +kernel
theorem d_MD_frame_23 : decode prog_12_method_5_code 23 = .ok (.goto 4, 3) := by decide +kernel
theorem d_MD_frame_26 : decode prog_12_method_5_code 26 = .ok (.iconst 1, 1) := by decide +kernel
theorem d_MD_frame_27 : decode prog_12_method_5_code 27 = .ok (.putfield 70, 3) := by decide +kernel
theorem d_MD_frame_30 : decode prog_12_method_5_code 30 = .ok (.aload_n 0, 1) := by decide +kernel
theorem d_MD_frame_31 : decode prog_12_method_5_code 31 = .ok (.getfield 70, 3) := by decide +kernel
theorem d_MD_frame_34 : decode prog_12_method_5_code 34 = .ok (.ifCond .ne 18, 3) := by decide +kernel
theorem d_MD_frame_37 : decode prog_12_method_5_code 37 = .ok (.aload_n 0, 1) := by decide +kernel
theorem d_MD_frame_38 : decode prog_12_method_5_code 38 = .ok (.iload_n 1, 1) := by decide +kernel
theorem d_MD_frame_39 : decode prog_12_method_5_code 39 = .ok (.putfield 26, 3) := by decide +kernel
theorem d_MD_frame_42 : decode prog_12_method_5_code 42 = .ok (.aload_n 0, 1) := by decide +kernel
theorem d_MD_frame_43 : decode prog_12_method_5_code 43 = .ok (.iload_n 2, 1) := by decide +kernel
theorem d_MD_frame_44 : decode prog_12_method_5_code 44 = .ok (.putfield 31, 3) := by decide +kernel
theorem d_MD_frame_47 : decode prog_12_method_5_code 47 = .ok (.aload_n 0, 1) := by decide +kernel
theorem d_MD_frame_48 : decode prog_12_method_5_code 48 = .ok (.iload_n 3, 1) := by decide +kernel
theorem d_MD_frame_49 : decode prog_12_method_5_code 49 = .ok (.putfield 35, 3) := by decide +kernel
theorem d_MD_frame_52 : decode prog_12_method_5_code 52 = .ok (.return_, 1) := by decide +kernel
def y_MD_clear : MethodName := ⟨"PageMakerModel", "clear", "(I)V"⟩
def w_MD_clear : List Cond := .code y_MD_clear prog_12_method_6_code 3 none :: TB
theorem d_MD_clear_0 : decode prog_12_method_6_code 0 = .ok (.aload_n 0, 1) := by decide +kernel
theorem d_MD_clear_1 : decode prog_12_method_6_code 1 = .ok (.aload_n 0, 1) := by decide +kernel
theorem d_MD_clear_2 : decode prog_12_method_6_code 2 = .ok (.getfield 41, 3) := by decide +kernel
theorem d_MD_clear_5 : decode prog_12_method_6_code 5 = .ok (.iload_n 1, 1) := by decide +kernel
theorem d_MD_clear_6 : decode prog_12_method_6_code 6 = .ok (.iaload, 1) := by decide +kernel
theorem d_MD_clear_7 : decode prog_12_method_6_code 7 = .ok (.i2l, 1) := by decide +kernel
theorem d_MD_clear_8 : decode prog_12_method_6_code 8 = .ok (.aload_n 0, 1) := by decide +kernel
theorem d_MD_clear_9 : decode prog_12_method_6_code 9 = .ok (.getfield 16, 3) := by decide +kernel
theorem d_MD_clear_12 : decode prog_12_method_6_code 12 = .ok (.aload_n 0, 1) := by decide +kernel
theorem d_MD_clear_13 : decode prog_12_method_6_code 13 = .ok (.getfield 47, 3) := by decide +kernel
theorem d_MD_clear_16 : decode prog_12_method_6_code 16 = .ok (.iload_n 1, 1) := by decide +kernel
theorem d_MD_clear_17 : decode prog_12_method_6_code 17 = .ok (.iaload, 1) := by decide +kernel
theorem d_MD_clear_18 : decode prog_12_method_6_code 18 = .ok (.iaload, 1) := by decide +kernel
theorem d_MD_clear_19 : decode prog_12_method_6_code 19 = .ok (.i2l, 1) := by decide +kernel
theorem d_MD_clear_20 : decode prog_12_method_6_code 20 = .ok (.lsub, 1) := by decide +kernel
theorem d_MD_clear_21 : decode prog_12_method_6_code 21 = .ok (.putfield 81, 3) := by decide +kernel
theorem d_MD_clear_24 : decode prog_12_method_6_code 24 = .ok (.aload_n 0, 1) := by decide +kernel
theorem d_MD_clear_25 : decode prog_12_method_6_code 25 = .ok (.aload_n 0, 1) := by decide +kernel
theorem d_MD_clear_26 : decode prog_12_method_6_code 26 = .ok (.getfield 81, 3) := by decide +kernel
theorem d_MD_clear_29 : decode prog_12_method_6_code 29 = .ok (.lconst 0, 1) := by decide +kernel
theorem d_MD_clear_30 : decode prog_12_method_6_code 30 = .ok (.lcmp, 1) := by decide +kernel
theorem d_MD_clear_31 : decode prog_12_method_6_code 31 = .ok (.ifCond .ge 7, 3) := by decide +kernel
theorem d_MD_clear_34 : decode prog_12_method_6_code 34 = .ok (.lconst 0, 1) := by decide +kernel
theorem d_MD_clear_35 : decode prog_12_method_6_code 35 = .ok (.goto 7, 3) := by decide +kernel
theorem d_MD_clear_38 : decode prog_12_method_6_code 38 = .ok (.aload_n 0, 1) := by decide +kernel
theorem d_MD_clear_39 : decode prog_12_method_6_code 39 = .ok (.getfield 81, 3) := by decide +kernel
theorem d_MD_clear_42 : decode prog_12_method_6_code 42 = .ok (.putfield 81, 3) := by decide +kernel
theorem d_MD_clear_45 : decode prog_12_method_6_code 45 = .ok (.aload_n 0, 1) := by decide +kernel
theorem d_MD_clear_46 : decode prog_12_method_6_code 46 = .ok (.lconst 0, 1) := by decide +kernel
theorem d_MD_clear_47 : decode prog_12_method_6_code 47 = .ok (.putfield 85, 3) := by decide +kernel
theorem d_MD_clear_50 : decode prog_12_method_6_code 50 = .ok (.aload_n 0, 1) := by decide +kernel
theorem d_MD_clear_51 : decode prog_12_method_6_code 51 = .ok (.lconst 0, 1) := by decide +kernel
theorem d_MD_clear_52 : decode prog_12_method_6_code 52 = .ok (.putfield 88, 3) := by decide +kernel
theorem d_MD_clear_55 : decode prog_12_method_6_code 55 = .ok (.iconst 0, 1) := by decide +kernel
theorem d_MD_clear_56 : decode prog_12_method_6_code 56 = .ok (.istore_n 2, 1) := by decide +kernel
theorem d_MD_clear_57 : decode prog_12_method_6_code 57 = .ok (.iload_n 2, 1) := by decide +kernel
theorem d_MD_clear_58 : decode prog_12_method_6_code 58 = .ok (.iconst 4, 1) := by decide +kernel
theorem d_MD_clear_59 : decode prog_12_method_6_code 59 = .ok (.if_icmp .ge 16, 3) := by decide +kernel
theorem d_MD_clear_62 : decode prog_12_method_6_code 62 = .ok (.aload_n 0, 1) := by decide +kernel
theorem d_MD_clear_63 : decode prog_12_method_6_code 63 = .ok (.getfield 59, 3) := by decide +kernel
theorem d_MD_clear_66 : decode prog_12_method_6_code 66 = .ok (.iload_n 2, 1) := by decide +kernel
theorem d_MD_clear_67 : decode prog_12_method_6_code 67 = .ok (.lconst 0, 1) := by decide +kernel
theorem d_MD_clear_68 : decode prog_12_method_6_code 68 = .ok (.lastore, 1) := by decide +kernel
theorem d_MD_clear_69 : decode prog_12_method_6_code 69 = .ok (.iinc 2 1, 3) := by decide +kernel
theorem d_MD_clear_72 : decode prog_12_method_6_code 72 = .ok (.goto (-15), 3) := by decide +kernel
theorem d_MD_clear_75 : decode prog_12_method_6_code 75 = .ok (.return_, 1) := by decide +kernel
def y_MD_add : MethodName := ⟨"PageMakerModel", "add", "(II)V"⟩
def w_MD_add : List Cond := .code y_MD_add prog_12_method_7_code 3 none :: TB
theorem d_MD_add_0 : decode prog_12_method_7_code 0 = .ok (.aload_n 0, 1) := by decide +kernel
theorem d_MD_add_1 : decode prog_12_method_7_code 1 = .ok (.getfield 7, 3) := by decide +kernel
theorem d_MD_add_4 : decode prog_12_method_7_code 4 = .ok (.iload_n 2, 1) := by decide +kernel
theorem d_MD_add_5 : decode prog_12_method_7_code 5 = .ok (.iaload, 1) := by decide +kernel
theorem d_MD_add_6 : decode prog_12_method_7_code 6 = .ok (.ifCond .ne 82, 3) := by decide +kernel
theorem d_MD_add_9 : decode prog_12_method_7_code 9 = .ok (.aload_n 0, 1) := by decide +kernel
theorem d_MD_add_10 : decode prog_12_method_7_code 10 = .ok (.aload_n 0, 1) := by decide +kernel
theorem d_MD_add_11 : decode prog_12_method_7_code 11 = .ok (.getfield 81, 3) := by decide +kernel
theorem d_MD_add_14 : decode prog_12_method_7_code 14 = .ok (.aload_n 0, 1) := by decide +kernel
theorem d_MD_add_15 : decode prog_12_method_7_code 15 = .ok (.getfield 85, 3) := by decide +kernel
theorem d_MD_add_18 : decode prog_12_method_7_code 18 = .ok (.ladd, 1) := by decide +kernel
theorem d_MD_add_19 : decode prog_12_method_7_code 19 = .ok (.aload_n 0, 1) := by decide +kernel
theorem d_MD_add_20 : decode prog_12_method_7_code 20 = .ok (.getfield 16, 3) := by decide +kernel
theorem d_MD_add_23 : decode prog_12_method_7_code 23 = .ok (.iload_n 2, 1) := by decide +kernel
theorem d_MD_add_24 : decode prog_12_method_7_code 24 = .ok (.iaload, 1) := by decide +kernel
theorem d_MD_add_25 : decode prog_12_method_7_code 25 = .ok (.i2l, 1) := by decide +kernel
theorem d_MD_add_26 : decode prog_12_method_7_code 26 = .ok (.ladd, 1) := by decide +kernel
theorem d_MD_add_27 : decode prog_12_method_7_code 27 = .ok (.putfield 81, 3) := by decide +kernel
theorem d_MD_add_30 : decode prog_12_method_7_code 30 = .ok (.aload_n 0, 1) := by decide +kernel
theorem d_MD_add_31 : decode prog_12_method_7_code 31 = .ok (.aload_n 0, 1) := by decide +kernel
theorem d_MD_add_32 : decode prog_12_method_7_code 32 = .ok (.getfield 19, 3) := by decide +kernel
theorem d_MD_add_35 : decode prog_12_method_7_code 35 = .ok (.iload_n 2, 1) := by decide +kernel
theorem d_MD_add_36 : decode prog_12_method_7_code 36 = .ok (.iaload, 1) := by decide +kernel
theorem d_MD_add_37 : decode prog_12_method_7_code 37 = .ok (.i2l, 1) := by decide +kernel
theorem d_MD_add_38 : decode prog_12_method_7_code 38 = .ok (.putfield 85, 3) := by decide +kernel
theorem d_MD_add_41 : decode prog_12_method_7_code 41 = .ok (.aload_n 0, 1) := by decide +kernel
theorem d_MD_add_42 : decode prog_12_method_7_code 42 = .ok (.getfield 85, 3) := by decide +kernel
theorem d_MD_add_45 : decode prog_12_method_7_code 45 = .ok (.aload_n 0, 1) := by decide +kernel
theorem d_MD_add_46 : decode prog_12_method_7_code 46 = .ok (.getfield 44, 3) := by decide +kernel
theorem d_MD_add_49 : decode prog_12_method_7_code 49 = .ok (.iload_n 1, 1) := by decide +kernel
theorem d_MD_add_50 : decode prog_12_method_7_code 50 = .ok (.iaload, 1) := by decide +kernel
theorem d_MD_add_51 : decode prog_12_method_7_code 51 = .ok (.i2l, 1) := by decide +kernel
theorem d_MD_add_52 : decode prog_12_method_7_code 52 = .ok (.lcmp, 1) := by decide +kernel
theorem d_MD_add_53 : decode prog_12_method_7_code 53 = .ok (.ifCond .le 35, 3) := by decide +kernel
theorem d_MD_add_56 : decode prog_12_method_7_code 56 = .ok (.aload_n 0, 1) := by decide +kernel
theorem d_MD_add_57 : decode prog_12_method_7_code 57 = .ok (.aload_n 0, 1) := by decide +kernel
theorem d_MD_add_58 : decode prog_12_method_7_code 58 = .ok (.getfield 81, 3) := by decide +kernel
theorem d_MD_add_61 : decode prog_12_method_7_code 61 = .ok (.aload_n 0, 1) := by decide +kernel
theorem d_MD_add_62 : decode prog_12_method_7_code 62 = .ok (.getfield 85, 3) := by decide +kernel
theorem d_MD_add_65 : decode prog_12_method_7_code 65 = .ok (.ladd, 1) := by decide +kernel
theorem d_MD_add_66 : decode prog_12_method_7_code 66 = .ok (.aload_n 0, 1) := by decide +kernel
theorem d_MD_add_67 : decode prog_12_method_7_code 67 = .ok (.getfield 44, 3) := by decide +kernel
theorem d_MD_add_70 : decode prog_12_method_7_code 70 = .ok (.iload_n 1, 1) := by decide +kernel
theorem d_MD_add_71 : decode prog_12_method_7_code 71 = .ok (.iaload, 1) := by decide +kernel
theorem d_MD_add_72 : decode prog_12_method_7_code 72 = .ok (.i2l, 1) := by decide +kernel
theorem d_MD_add_73 : decode prog_12_method_7_code 73 = .ok (.lsub, 1) := by decide +kernel
theorem d_MD_add_74 : decode prog_12_method_7_code 74 = .ok (.putfield 81, 3) := by decide +kernel
theorem d_MD_add_77 : decode prog_12_method_7_code 77 = .ok (.aload_n 0, 1) := by decide +kernel
theorem d_MD_add_78 : decode prog_12_method_7_code 78 = .ok (.aload_n 0, 1) := by decide +kernel
theorem d_MD_add_79 : decode prog_12_method_7_code 79 = .ok (.getfield 44, 3) := by decide +kernel
theorem d_MD_add_82 : decode prog_12_method_7_code 82 = .ok (.iload_n 1, 1) := by decide +kernel
theorem d_MD_add_83 : decode prog_12_method_7_code 83 = .ok (.iaload, 1) := by decide +kernel
theorem d_MD_add_84 : decode prog_12_method_7_code 84 = .ok (.i2l, 1) := by decide +kernel
theorem d_MD_add_85 : decode prog_12_method_7_code 85 = .ok (.putfield 85, 3) := by decide +kernel
theorem d_MD_add_88 : decode prog_12_method_7_code 88 = .ok (.aload_n 0, 1) := by decide +kernel
theorem d_MD_add_89 : decode prog_12_method_7_code 89 = .ok (.getfield 7, 3) := by decide +kernel
theorem d_MD_add_92 : decode prog_12_method_7_code 92 = .ok (.iload_n 2, 1) := by decide +kernel
theorem d_MD_add_93 : decode prog_12_method_7_code 93 = .ok (.iaload, 1) := by decide +kernel
theorem d_MD_add_94 : decode prog_12_method_7_code 94 = .ok (.iconst 1, 1) := by decide +kernel
theorem d_MD_add_95 : decode prog_12_method_7_code 95 = .ok (.if_icmp .eq 13, 3) := by decide +kernel
theorem d_MD_add_98 : decode prog_12_method_7_code 98 = .ok (.aload_n 0, 1) := by decide +kernel
theorem d_MD_add_99 : decode prog_12_method_7_code 99 = .ok (.getfield 7, 3) := by decide +kernel
theorem d_MD_add_102 : decode prog_12_method_7_code 102 = .ok (.iload_n 2, 1) := by decide +kernel
theorem d_MD_add_103 : decode prog_12_method_7_code 103 = .ok (.iaload, 1) := by decide +kernel
theorem d_MD_add_104 : decode prog_12_method_7_code 104 = .ok (.iconst 2, 1) := by decide +kernel
theorem d_MD_add_105 : decode prog_12_method_7_code 105 = .ok (.if_icmp .ne 29, 3) := by decide +kernel
theorem d_MD_add_108 : decode prog_12_method_7_code 108 = .ok (.aload_n 0, 1) := by decide +kernel
theorem d_MD_add_109 : decode prog_12_method_7_code 109 = .ok (.aload_n 0, 1) := by decide +kernel
theorem d_MD_add_110 : decode prog_12_method_7_code 110 = .ok (.getfield 81, 3) := by decide +kernel
theorem d_MD_add_113 : decode prog_12_method_7_code 113 = .ok (.aload_n 0, 1) := by decide +kernel
theorem d_MD_add_114 : decode prog_12_method_7_code 114 = .ok (.getfield 85, 3) := by decide +kernel
theorem d_MD_add_117 : decode prog_12_method_7_code 117 = .ok (.ladd, 1) := by decide +kernel
theorem d_MD_add_118 : decode prog_12_method_7_code 118 = .ok (.aload_n 0, 1) := by decide +kernel
theorem d_MD_add_119 : decode prog_12_method_7_code 119 = .ok (.getfield 13, 3) := by decide +kernel
theorem d_MD_add_122 : decode prog_12_method_7_code 122 = .ok (.iload_n 2, 1) := by decide +kernel
theorem d_MD_add_123 : decode prog_12_method_7_code 123 = .ok (.iaload, 1) := by decide +kernel
theorem d_MD_add_124 : decode prog_12_method_7_code 124 = .ok (.i2l, 1) := by decide +kernel
theorem d_MD_add_125 : decode prog_12_method_7_code 125 = .ok (.ladd, 1) := by decide +kernel
theorem d_MD_add_126 : decode prog_12_method_7_code 126 = .ok (.putfield 81, 3) := by decide +kernel
theorem d_MD_add_129 : decode prog_12_method_7_code 129 = .ok (.aload_n 0, 1) := by decide +kernel
theorem d_MD_add_130 : decode prog_12_method_7_code 130 = .ok (.lconst 0, 1) := by decide +kernel
theorem d_MD_add_131 : decode prog_12_method_7_code 131 = .ok (.putfield 85, 3) := by decide +kernel
theorem d_MD_add_134 : decode prog_12_method_7_code 134 = .ok (.aload_n 0, 1) := by decide +kernel
theorem d_MD_add_135 : decode prog_12_method_7_code 135 = .ok (.getfield 7, 3) := by decide +kernel
theorem d_MD_add_138 : decode prog_12_method_7_code 138 = .ok (.iload_n 2, 1) := by decide +kernel
theorem d_MD_add_139 : decode prog_12_method_7_code 139 = .ok (.iaload, 1) := by decide +kernel
theorem d_MD_add_140 : decode prog_12_method_7_code 140 = .ok (.iconst 1, 1) := by decide +kernel
theorem d_MD_add_141 : decode prog_12_method_7_code 141 = .ok (.if_icmp .ne 49, 3) := by decide +kernel
theorem d_MD_add_144 : decode prog_12_method_7_code 144 = .ok (.aload_n 0, 1) := by decide +kernel
theorem d_MD_add_145 : decode prog_12_method_7_code 145 = .ok (.getfield 59, 3) := by decide +kernel
theorem d_MD_add_148 : decode prog_12_method_7_code 148 = .ok (.aload_n 0, 1) := by decide +kernel
theorem d_MD_add_149 : decode prog_12_method_7_code 149 = .ok (.getfield 22, 3) := by decide +kernel
theorem d_MD_add_152 : decode prog_12_method_7_code 152 = .ok (.iload_n 2, 1) := by decide +kernel
theorem d_MD_add_153 : decode prog_12_method_7_code 153 = .ok (.iaload, 1) := by decide +kernel
theorem d_MD_add_154 : decode prog_12_method_7_code 154 = .ok (.aload_n 0, 1) := by decide +kernel
theorem d_MD_add_155 : decode prog_12_method_7_code 155 = .ok (.getfield 59, 3) := by decide +kernel
theorem d_MD_add_158 : decode prog_12_method_7_code 158 = .ok (.aload_n 0, 1) := by decide +kernel
theorem d_MD_add_159 : decode prog_12_method_7_code 159 = .ok (.getfield 22, 3) := by decide +kernel
theorem d_MD_add_162 : decode prog_12_method_7_code 162 = .ok (.iload_n 2, 1) := by decide +kernel
theorem d_MD_add_163 : decode prog_12_method_7_code 163 = .ok (.iaload, 1) := by decide +kernel
theorem d_MD_add_164 : decode prog_12_method_7_code 164 = .ok (.laload, 1) := by decide +kernel
theorem d_MD_add_165 : decode prog_12_method_7_code 165 = .ok (.aload_n 0, 1) := by decide +kernel
theorem d_MD_add_166 : decode prog_12_method_7_code 166 = .ok (.getfield 16, 3) := by decide +kernel
theorem d_MD_add_169 : decode prog_12_method_7_code 169 = .ok (.iload_n 2, 1) := by decide +kernel
theorem d_MD_add_170 : decode prog_12_method_7_code 170 = .ok (.iaload, 1) := by decide +kernel
theorem d_MD_add_171 : decode prog_12_method_7_code 171 = .ok (.i2l, 1) := by decide +kernel
theorem d_MD_add_172 : decode prog_12_method_7_code 172 = .ok (.ladd, 1) := by decide +kernel
theorem d_MD_add_173 : decode prog_12_method_7_code 173 = .ok (.lastore, 1) := by decide +kernel
theorem d_MD_add_174 : decode prog_12_method_7_code 174 = .ok (.aload_n 0, 1) := by decide +kernel
theorem d_MD_add_175 : decode prog_12_method_7_code 175 = .ok (.aload_n 0, 1) := by decide +kernel
theorem d_MD_add_176 : decode prog_12_method_7_code 176 = .ok (.getfield 88, 3) := by decide +kernel
theorem d_MD_add_179 : decode prog_12_method_7_code 179 = .ok (.aload_n 0, 1) := by decide +kernel
theorem d_MD_add_180 : decode prog_12_method_7_code 180 = .ok (.getfield 19, 3) := by decide +kernel
theorem d_MD_add_183 : decode prog_12_method_7_code 183 = .ok (.iload_n 2, 1) := by decide +kernel
theorem d_MD_add_184 : decode prog_12_method_7_code 184 = .ok (.iaload, 1) := by decide +kernel
theorem d_MD_add_185 : decode prog_12_method_7_code 185 = .ok (.i2l, 1) := by decide +kernel
theorem d_MD_add_186 : decode prog_12_method_7_code 186 = .ok (.ladd, 1) := by decide +kernel
theorem d_MD_add_187 : decode prog_12_method_7_code 187 = .ok (.putfield 88, 3) := by decide +kernel
theorem d_MD_add_190 : decode prog_12_method_7_code 190 = .ok (.return_, 1) := by decide +kernel
def y_MD_addUpTo : MethodName := ⟨"PageMakerModel", "addUpTo", "(II)V"⟩
def w_MD_addUpTo : List Cond := .code y_MD_addUpTo prog_12_method_8_code 4 none :: TB
theorem d_MD_addUpTo_0 : decode prog_12_method_8_code 0 = .ok (.aload_n 0, 1) := by decide +kernel
theorem d_MD_addUpTo_1 : decode prog_12_method_8_code 1 = .ok (.iload_n 1, 1) := by decide +kernel
theorem d_MD_addUpTo_2 : decode prog_12_method_8_code 2 = .ok (.invokevirtual 91, 3) := by decide +kernel
theorem d_MD_addUpTo_5 : decode prog_12_method_8_code 5 = .ok (.aload_n 0, 1) := by decide +kernel
theorem d_MD_addUpTo_6 : decode prog_12_method_8_code 6 = .ok (.getfield 47, 3) := by decide +kernel
theorem d_MD_addUpTo_9 : decode prog_12_method_8_code 9 = .ok (.iload_n 1, 1) := by decide +kernel
theorem d_MD_addUpTo_10 : decode prog_12_method_8_code 10 = .ok (.iaload, 1) := by decide +kernel
theorem d_MD_addUpTo_11 : decode prog_12_method_8_code 11 = .ok (.istore_n 3, 1) := by decide +kernel
theorem d_MD_addUpTo_12 : decode prog_12_method_8_code 12 = .ok (.iload_n 3, 1) := by decide +kernel
theorem d_MD_addUpTo_13 : decode prog_12_method_8_code 13 = .ok (.iload_n 2, 1) := by decide +kernel
theorem d_MD_addUpTo_14 : decode prog_12_method_8_code 14 = .ok (.if_icmp .ge 15, 3) := by decide +kernel
theorem d_MD_addUpTo_17 : decode prog_12_method_8_code 17 = .ok (.aload_n 0, 1) := by decide +kernel
theorem d_MD_addUpTo_18 : decode prog_12_method_8_code 18 = .ok (.iload_n 1, 1) := by decide +kernel
theorem d_MD_addUpTo_19 : decode prog_12_method_8_code 19 = .ok (.iload_n 3, 1) := by decide +kernel
theorem d_MD_addUpTo_20 : decode prog_12_method_8_code 20 = .ok (.invokevirtual 95, 3) := by decide +kernel
theorem d_MD_addUpTo_23 : decode prog_12_method_8_code 23 = .ok (.iinc 3 1, 3) := by decide +kernel
theorem d_MD_addUpTo_26 : decode prog_12_method_8_code 26 = .ok (.goto (-14), 3) := by decide +kernel
theorem d_MD_addUpTo_29 : decode prog_12_method_8_code 29 = .ok (.return_, 1) := by decide +kernel
def y_MD_bad : MethodName := ⟨"PageMakerModel", "bad", "(JJ)I"⟩
def w_MD_bad : List Cond := .code y_MD_bad prog_12_method_9_code 6 (some .int) :: TB
theorem d_MD_bad_0 : decode prog_12_method_9_code 0 = .ok (.lload_n 2, 1) := by decide +kernel
theorem d_MD_bad_1 : decode prog_12_method_9_code 1 = .ok (.lconst 0, 1) := by decide +kernel
theorem d_MD_bad_2 : decode prog_12_method_9_code 2 = .ok (.lcmp, 1) := by decide +kernel
theorem d_MD_bad_3 : decode prog_12_method_9_code 3 = .ok (.ifCond .ne 7, 3) := by decide +kernel
theorem d_MD_bad_6 : decode prog_12_method_9_code 6 = .ok (.sipush 10000, 3) := by decide +kernel
theorem d_MD_bad_9 : decode prog_12_method_9_code 9 = .ok (.ireturn, 1) := by decide +kernel
theorem d_MD_bad_10 : decode prog_12_method_9_code 10 = .ok (.lload_n 0, 1) := by decide +kernel
theorem d_MD_bad_11 : decode prog_12_method_9_code 11 = .ok (.lstore 4, 2) := by decide +kernel
theorem d_MD_bad_13 : decode prog_12_method_9_code 13 = .ok (.lload_n 0, 1) := by decide +kernel
theorem d_MD_bad_14 : decode prog_12_method_9_code 14 = .ok (.ldc2_w 99, 3) := by decide +kernel
theorem d_MD_bad_17 : decode prog_12_method_9_code 17 = .ok (.lcmp, 1) := by decide +kernel
theorem d_MD_bad_18 : decode prog_12_method_9_code 18 = .ok (.ifCond .gt 15, 3) := by decide +kernel
theorem d_MD_bad_21 : decode prog_12_method_9_code 21 = .ok (.ldc2_w 101, 3) := by decide +kernel
theorem d_MD_bad_24 : decode prog_12_method_9_code 24 = .ok (.lload_n 0, 1) := by decide +kernel
theorem d_MD_bad_25 : decode prog_12_method_9_code 25 = .ok (.lmul, 1) := by decide +kernel
theorem d_MD_bad_26 : decode prog_12_method_9_code 26 = .ok (.lload_n 2, 1) := by decide +kernel
theorem d_MD_bad_27 : decode prog_12_method_9_code 27 = .ok (.ldiv, 1) := by decide +kernel
theorem d_MD_bad_28 : decode prog_12_method_9_code 28 = .ok (.lstore 4, 2) := by decide +kernel
theorem d_MD_bad_30 : decode prog_12_method_9_code 30 = .ok (.goto 20, 3) := by decide +kernel
theorem d_MD_bad_33 : decode prog_12_method_9_code 33 = .ok (.lload_n 2, 1) := by decide +kernel
theorem d_MD_bad_34 : decode prog_12_method_9_code 34 = .ok (.ldc2_w 103, 3) := by decide +kernel
theorem d_MD_bad_37 : decode prog_12_method_9_code 37 = .ok (.lcmp, 1) := by decide +kernel
theorem d_MD_bad_38 : decode prog_12_method_9_code 38 = .ok (.ifCond .lt 12, 3) := by decide +kernel
theorem d_MD_bad_41 : decode prog_12_method_9_code 41 = .ok (.lload_n 0, 1) := by decide +kernel
theorem d_MD_bad_42 : decode prog_12_method_9_code 42 = .ok (.lload_n 2, 1) := by decide +kernel
theorem d_MD_bad_43 : decode prog_12_method_9_code 43 = .ok (.ldc2_w 101, 3) := by decide +kernel
theorem d_MD_bad_46 : decode prog_12_method_9_code 46 = .ok (.ldiv, 1) := by decide +kernel
theorem d_MD_bad_47 : decode prog_12_method_9_code 47 = .ok (.ldiv, 1) := by decide +kernel
theorem d_MD_bad_48 : decode prog_12_method_9_code 48 = .ok (.lstore 4, 2) := by decide +kernel
theorem d_MD_bad_50 : decode prog_12_method_9_code 50 = .ok (.lload 4, 2) := by decide +kernel
theorem d_MD_bad_52 : decode prog_12_method_9_code 52 = .ok (.ldc2_w 105, 3) := by decide +kernel
theorem d_MD_bad_55 : decode prog_12_method_9_code 55 = .ok (.lcmp, 1) := by decide +kernel
theorem d_MD_bad_56 : decode prog_12_method_9_code 56 = .ok (.ifCond .le 9, 3) := by decide +kernel
theorem d_MD_bad_59 : decode prog_12_method_9_code 59 = .ok (.sipush 10000, 3) := by decide +kernel
theorem d_MD_bad_62 : decode prog_12_method_9_code 62 = .ok (.goto 20, 3) := by decide +kernel
theorem d_MD_bad_65 : decode prog_12_method_9_code 65 = .ok (.lload 4, 2) := by decide +kernel
theorem d_MD_bad_67 : decode prog_12_method_9_code 67 = .ok (.lload 4, 2) := by decide +kernel
theorem d_MD_bad_69 : decode prog_12_method_9_code 69 = .ok (.lmul, 1) := by decide +kernel
theorem d_MD_bad_70 : decode prog_12_method_9_code 70 = .ok (.lload 4, 2) := by decide +kernel
theorem d_MD_bad_72 : decode prog_12_method_9_code 72 = .ok (.lmul, 1) := by decide +kernel
theorem d_MD_bad_73 : decode prog_12_method_9_code 73 = .ok (.ldc2_w 107, 3) := by decide +kernel
theorem d_MD_bad_76 : decode prog_12_method_9_code 76 = .ok (.ladd, 1) := by decide +kernel
theorem d_MD_bad_77 : decode prog_12_method_9_code 77 = .ok (.ldc2_w 109, 3) := by decide +kernel
theorem d_MD_bad_80 : decode prog_12_method_9_code 80 = .ok (.ldiv, 1) := by decide +kernel
theorem d_MD_bad_81 : decode prog_12_method_9_code 81 = .ok (.l2i, 1) := by decide +kernel
theorem d_MD_bad_82 : decode prog_12_method_9_code 82 = .ok (.ireturn, 1) := by decide +kernel
def y_MD_isEndless : MethodName := ⟨"PageMakerModel", "isEndless", "()Z"⟩
def w_MD_isEndless : List Cond := .code y_MD_isEndless prog_12_method_10_code 1 (some .boolean) :: TB
theorem d_MD_isEndless_0 : decode prog_12_method_10_code 0 = .ok (.aload_n 0, 1) := by decide +kernel
theorem d_MD_isEndless_1 : decode prog_12_method_10_code 1 = .ok (.getfield 59, 3) := by decide +kernel
theorem d_MD_isEndless_4 : decode prog_12_method_10_code 4 = .ok (.iconst 1, 1) := by decide +kernel
theorem d_MD_isEndless_5 : decode prog_12_method_10_code 5 = .ok (.laload, 1) := by decide +kernel
theorem d_MD_isEndless_6 : decode prog_12_method_10_code 6 = .ok (.aload_n 0, 1) := by decide +kernel
theorem d_MD_isEndless_7 : decode prog_12_method_10_code 7 = .ok (.getfield 59, 3) := by decide +kernel
theorem d_MD_isEndless_10 : decode prog_12_method_10_code 10 = .ok (.iconst 2, 1) := by decide +kernel
theorem d_MD_isEndless_11 : decode prog_12_method_10_code 11 = .ok (.laload, 1) := by decide +kernel
theorem d_MD_isEndless_12 : decode prog_12_method_10_code 12 = .ok (.ladd, 1) := by decide +kernel
theorem d_MD_isEndless_13 : decode prog_12_method_10_code 13 = .ok (.aload_n 0, 1) := by decide +kernel
theorem d_MD_isEndless_14 : decode prog_12_method_10_code 14 = .ok (.getfield 59, 3) := by decide +kernel
theorem d_MD_isEndless_17 : decode prog_12_method_10_code 17 = .ok (.iconst 3, 1) := by decide +kernel
theorem d_MD_isEndless_18 : decode prog_12_method_10_code 18 = .ok (.laload, 1) := by decide +kernel
theorem d_MD_isEndless_19 : decode prog_12_method_10_code 19 = .ok (.ladd, 1) := by decide +kernel
theorem d_MD_isEndless_20 : decode prog_12_method_10_code 20 = .ok (.lconst 0, 1) := by decide +kernel
theorem d_MD_isEndless_21 : decode prog_12_method_10_code 21 = .ok (.lcmp, 1) := by decide +kernel
theorem d_MD_isEndless_22 : decode prog_12_method_10_code 22 = .ok (.ifCond .le 7, 3) := by decide +kernel
theorem d_MD_isEndless_25 : decode prog_12_method_10_code 25 = .ok (.iconst 1, 1) := by decide +kernel
theorem d_MD_isEndless_26 : decode prog_12_method_10_code 26 = .ok (.goto 4, 3) := by decide +kernel
theorem d_MD_isEndless_29 : decode prog_12_method_10_code 29 = .ok (.iconst 0, 1) := by decide +kernel
theorem d_MD_isEndless_30 : decode prog_12_method_10_code 30 = .ok (.ireturn, 1) := by decide +kernel
def y_MD_badness : MethodName := ⟨"PageMakerModel", "badness", "(I)I"⟩
def w_MD_badness : List Cond := .code y_MD_badness prog_12_method_11_code 4 (some .int) :: TB
theorem d_MD_badness_0 : decode prog_12_method_11_code 0 = .ok (.aload_n 0, 1) := by decide +kernel
theorem d_MD_badness_1 : decode prog_12_method_11_code 1 = .ok (.getfield 38, 3) := by decide +kernel
theorem d_MD_badness_4 : decode prog_12_method_11_code 4 = .ok (.iload_n 1, 1) := by decide +kernel
theorem d_MD_badness_5 : decode prog_12_method_11_code 5 = .ok (.iaload, 1) := by decide +kernel
theorem d_MD_badness_6 : decode prog_12_method_11_code 6 = .ok (.i2l, 1) := by decide +kernel
theorem d_MD_badness_7 : decode prog_12_method_11_code 7 = .ok (.aload_n 0, 1) := by decide +kernel
theorem d_MD_badness_8 : decode prog_12_method_11_code 8 = .ok (.getfield 81, 3) := by decide +kernel
theorem d_MD_badness_11 : decode prog_12_method_11_code 11 = .ok (.lsub, 1) := by decide +kernel
theorem d_MD_badness_12 : decode prog_12_method_11_code 12 = .ok (.lstore_n 2, 1) := by decide +kernel
theorem d_MD_badness_13 : decode prog_12_method_11_code 13 = .ok (.lload_n 2, 1) := by decide +kernel
theorem d_MD_badness_14 : decode prog_12_method_11_code 14 = .ok (.lconst 0, 1) := by decide +kernel
theorem d_MD_badness_15 : decode prog_12_method_11_code 15 = .ok (.lcmp, 1) := by decide +kernel
theorem d_MD_badness_16 : decode prog_12_method_11_code 16 = .ok (.ifCond .ne 5, 3) := by decide +kernel
theorem d_MD_badness_19 : decode prog_12_method_11_code 19 = .ok (.iconst 0, 1) := by decide +kernel
theorem d_MD_badness_20 : decode prog_12_method_11_code 20 = .ok (.ireturn, 1) := by decide +kernel
theorem d_MD_badness_21 : decode prog_12_method_11_code 21 = .ok (.lload_n 2, 1) := by decide +kernel
theorem d_MD_badness_22 : decode prog_12_method_11_code 22 = .ok (.lconst 0, 1) := by decide +kernel
theorem d_MD_badness_23 : decode prog_12_method_11_code 23 = .ok (.lcmp, 1) := by decide +kernel
theorem d_MD_badness_24 : decode prog_12_method_11_code 24 = .ok (.ifCond .le 25, 3) := by decide +kernel
theorem d_MD_badness_27 : decode prog_12_method_11_code 27 = .ok (.aload_n 0, 1) := by decide +kernel
theorem d_MD_badness_28 : decode prog_12_method_11_code 28 = .ok (.invokevirtual 111, 3) := by decide +kernel
theorem d_MD_badness_31 : decode prog_12_method_11_code 31 = .ok (.ifCond .eq 7, 3) := by decide +kernel
theorem d_MD_badness_34 : decode prog_12_method_11_code 34 = .ok (.iconst 0, 1) := by decide +kernel
theorem d_MD_badness_35 : decode prog_12_method_11_code 35 = .ok (.goto 13, 3) := by decide +kernel
theorem d_MD_badness_38 : decode prog_12_method_11_code 38 = .ok (.lload_n 2, 1) := by decide +kernel
theorem d_MD_badness_39 : decode prog_12_method_11_code 39 = .ok (.aload_n 0, 1) := by decide +kernel
theorem d_MD_badness_40 : decode prog_12_method_11_code 40 = .ok (.getfield 59, 3) := by decide +kernel
theorem d_MD_badness_43 : decode prog_12_method_11_code 43 = .ok (.iconst 0, 1) := by decide +kernel
theorem d_MD_badness_44 : decode prog_12_method_11_code 44 = .ok (.laload, 1) := by decide +kernel
theorem d_MD_badness_45 : decode prog_12_method_11_code 45 = .ok (.invokestatic 115, 3) := by decide +kernel
theorem d_MD_badness_48 : decode prog_12_method_11_code 48 = .ok (.ireturn, 1) := by decide +kernel
theorem d_MD_badness_49 : decode prog_12_method_11_code 49 = .ok (.lload_n 2, 1) := by decide +kernel
theorem d_MD_badness_50 : decode prog_12_method_11_code 50 = .ok (.lneg, 1) := by decide +kernel
theorem d_MD_badness_51 : decode prog_12_method_11_code 51 = .ok (.aload_n 0, 1) := by decide +kernel
theorem d_MD_badness_52 : decode prog_12_method_11_code 52 = .ok (.getfield 88, 3) := by decide +kernel
theorem d_MD_badness_55 : decode prog_12_method_11_code 55 = .ok (.lcmp, 1) := by decide +kernel
theorem d_MD_badness_56 : decode prog_12_method_11_code 56 = .ok (.ifCond .le 8, 3) := by decide +kernel
theorem d_MD_badness_59 : decode prog_12_method_11_code 59 = .ok (.ldc 66, 2) := by decide +kernel
theorem d_MD_badness_61 : decode prog_12_method_11_code 61 = .ok (.goto 12, 3) := by decide +kernel
theorem d_MD_badness_64 : decode prog_12_method_11_code 64 = .ok (.lload_n 2, 1) := by decide +kernel
theorem d_MD_badness_65 : decode prog_12_method_11_code 65 = .ok (.lneg, 1) := by decide +kernel
theorem d_MD_badness_66 : decode prog_12_method_11_code 66 = .ok (.aload_n 0, 1) := by decide +kernel
theorem d_MD_badness_67 : decode prog_12_method_11_code 67 = .ok (.getfield 88, 3) := by decide +kernel
theorem d_MD_badness_70 : decode prog_12_method_11_code 70 = .ok (.invokestatic 115, 3) := by decide +kernel
theorem d_MD_badness_73 : decode prog_12_method_11_code 73 = .ok (.ireturn, 1) := by decide +kernel
def y_MD_cost : MethodName := ⟨"PageMakerModel", "cost", "(II)I"⟩
def w_MD_cost : List Cond := .code y_MD_cost prog_12_method_12_code 4 (some .int) :: TB
theorem d_MD_cost_0 : decode prog_12_method_12_code 0 = .ok (.aload_n 0, 1) := by decide +kernel
theorem d_MD_cost_1 : decode prog_12_method_12_code 1 = .ok (.iload_n 1, 1) := by decide +kernel
theorem d_MD_cost_2 : decode prog_12_method_12_code 2 = .ok (.invokevirtual 119, 3) := by decide +kernel
theorem d_MD_cost_5 : decode prog_12_method_12_code 5 = .ok (.istore_n 3, 1) := by decide +kernel
theorem d_MD_cost_6 : decode prog_12_method_12_code 6 = .ok (.iload_n 3, 1) := by decide +kernel
theorem d_MD_cost_7 : decode prog_12_method_12_code 7 = .ok (.ldc 66, 2) := by decide +kernel
theorem d_MD_cost_9 : decode prog_12_method_12_code 9 = .ok (.if_icmp .ne 8, 3) := by decide +kernel
theorem d_MD_cost_12 : decode prog_12_method_12_code 12 = .ok (.ldc 66, 2) := by decide +kernel
theorem d_MD_cost_14 : decode prog_12_method_12_code 14 = .ok (.goto 29, 3) := by decide +kernel
theorem d_MD_cost_17 : decode prog_12_method_12_code 17 = .ok (.iload_n 2, 1) := by decide +kernel
theorem d_MD_cost_18 : decode prog_12_method_12_code 18 = .ok (.sipush (-10000), 3) := by decide +kernel
theorem d_MD_cost_21 : decode prog_12_method_12_code 21 = .ok (.if_icmp .gt 7, 3) := by decide +kernel
theorem d_MD_cost_24 : decode prog_12_method_12_code 24 = .ok (.iload_n 2, 1) := by decide +kernel
theorem d_MD_cost_25 : decode prog_12_method_12_code 25 = .ok (.goto 18, 3) := by decide +kernel
theorem d_MD_cost_28 : decode prog_12_method_12_code 28 = .ok (.iload_n 3, 1) := by decide +kernel
theorem d_MD_cost_29 : decode prog_12_method_12_code 29 = .ok (.sipush 10000, 3) := by decide +kernel
theorem d_MD_cost_32 : decode prog_12_method_12_code 32 = .ok (.if_icmp .ge 9, 3) := by decide +kernel
theorem d_MD_cost_35 : decode prog_12_method_12_code 35 = .ok (.iload_n 3, 1) := by decide +kernel
theorem d_MD_cost_36 : decode prog_12_method_12_code 36 = .ok (.iload_n 2, 1) := by decide +kernel
theorem d_MD_cost_37 : decode prog_12_method_12_code 37 = .ok (.iadd, 1) := by decide +kernel
theorem d_MD_cost_38 : decode prog_12_method_12_code 38 = .ok (.goto 5, 3) := by decide +kernel
theorem d_MD_cost_41 : decode prog_12_method_12_code 41 = .ok (.ldc 123, 2) := by decide +kernel
theorem d_MD_cost_43 : decode prog_12_method_12_code 43 = .ok (.ireturn, 1) := by decide +kernel
def y_MD_penaltyAt : MethodName := ⟨"PageMakerModel", "penaltyAt", "(I)I"⟩
def w_MD_penaltyAt : List Cond := .code y_MD_penaltyAt prog_12_method_13_code 2 (some .int) :: TB
theorem d_MD_penaltyAt_0 : decode prog_12_method_13_code 0 = .ok (.aload_n 0, 1) := by decide +kernel
theorem d_MD_penaltyAt_1 : decode prog_12_method_13_code 1 = .ok (.getfield 7, 3) := by decide +kernel
theorem d_MD_penaltyAt_4 : decode prog_12_method_13_code 4 = .ok (.iload_n 1, 1) := by decide +kernel
theorem d_MD_penaltyAt_5 : decode prog_12_method_13_code 5 = .ok (.iaload, 1) := by decide +kernel
theorem d_MD_penaltyAt_6 : decode prog_12_method_13_code 6 = .ok (.iconst 1, 1) := by decide +kernel
theorem d_MD_penaltyAt_7 : decode prog_12_method_13_code 7 = .ok (.if_icmp .ne 22, 3) := by decide +kernel
theorem d_MD_penaltyAt_10 : decode prog_12_method_13_code 10 = .ok (.aload_n 0, 1) := by decide +kernel
theorem d_MD_penaltyAt_11 : decode prog_12_method_13_code 11 = .ok (.getfield 7, 3) := by decide +kernel
theorem d_MD_penaltyAt_14 : decode prog_12_method_13_code 14 = .ok (.iload_n 1, 1) := by decide +kernel
theorem d_MD_penaltyAt_15 : decode prog_12_method_13_code 15 = .ok (.iconst 1, 1) := by decide +kernel
theorem d_MD_penaltyAt_16 : decode prog_12_method_13_code 16 = .ok (.isub, 1) := by decide +kernel
theorem d_MD_penaltyAt_17 : decode prog_12_method_13_code 17 = .ok (.iaload, 1) := by decide +kernel
theorem d_MD_penaltyAt_18 : decode prog_12_method_13_code 18 = .ok (.ifCond .ne 7, 3) := by decide +kernel
theorem d_MD_penaltyAt_21 : decode prog_12_method_13_code 21 = .ok (.iconst 0, 1) := by decide +kernel
theorem d_MD_penaltyAt_22 : decode prog_12_method_13_code 22 = .ok (.goto 6, 3) := by decide +kernel
theorem d_MD_penaltyAt_25 : decode prog_12_method_13_code 25 = .ok (.sipush 10000, 3) := by decide +kernel
theorem d_MD_penaltyAt_28 : decode prog_12_method_13_code 28 = .ok (.ireturn, 1) := by decide +kernel
theorem d_MD_penaltyAt_29 : decode prog_12_method_13_code 29 = .ok (.aload_n 0, 1) := by decide +kernel
theorem d_MD_penaltyAt_30 : decode prog_12_method_13_code 30 = .ok (.getfield 7, 3) := by decide +kernel
theorem d_MD_penaltyAt_33 : decode prog_12_method_13_code 33 = .ok (.iload_n 1, 1) := by decide +kernel
theorem d_MD_penaltyAt_34 : decode prog_12_method_13_code 34 = .ok (.iaload, 1) := by decide +kernel
theorem d_MD_penaltyAt_35 : decode prog_12_method_13_code 35 = .ok (.iconst 2, 1) := by decide +kernel
theorem d_MD_penaltyAt_36 : decode prog_12_method_13_code 36 = .ok (.if_icmp .ne 33, 3) := by decide +kernel
theorem d_MD_penaltyAt_39 : decode prog_12_method_13_code 39 = .ok (.iload_n 1, 1) := by decide +kernel
theorem d_MD_penaltyAt_40 : decode prog_12_method_13_code 40 = .ok (.iconst 1, 1) := by decide +kernel
theorem d_MD_penaltyAt_41 : decode prog_12_method_13_code 41 = .ok (.iadd, 1) := by decide +kernel
theorem d_MD_penaltyAt_42 : decode prog_12_method_13_code 42 = .ok (.aload_n 0, 1) := by decide +kernel
theorem d_MD_penaltyAt_43 : decode prog_12_method_13_code 43 = .ok (.getfield 124, 3) := by decide +kernel
theorem d_MD_penaltyAt_46 : decode prog_12_method_13_code 46 = .ok (.if_icmp .ge 19, 3) := by decide +kernel
theorem d_MD_penaltyAt_49 : decode prog_12_method_13_code 49 = .ok (.aload_n 0, 1) := by decide +kernel
theorem d_MD_penaltyAt_50 : decode prog_12_method_13_code 50 = .ok (.getfield 7, 3) := by decide +kernel
theorem d_MD_penaltyAt_53 : decode prog_12_method_13_code 53 = .ok (.iload_n 1, 1) := by decide +kernel
theorem d_MD_penaltyAt_54 : decode prog_12_method_13_code 54 = .ok (.iconst 1, 1) := by decide +kernel
theorem d_MD_penaltyAt_55 : decode prog_12_method_13_code 55 = .ok (.iadd, 1) := by decide +kernel
theorem d_MD_penaltyAt_56 : decode prog_12_method_13_code 56 = .ok (.iaload, 1) := by decide +kernel
theorem d_MD_penaltyAt_57 : decode prog_12_method_13_code 57 = .ok (.iconst 1, 1) := by decide +kernel
theorem d_MD_penaltyAt_58 : decode prog_12_method_13_code 58 = .ok (.if_icmp .ne 7, 3) := by decide +kernel
theorem d_MD_penaltyAt_61 : decode prog_12_method_13_code 61 = .ok (.iconst 0, 1) := by decide +kernel
theorem d_MD_penaltyAt_62 : decode prog_12_method_13_code 62 = .ok (.goto 6, 3) := by decide +kernel
theorem d_MD_penaltyAt_65 : decode prog_12_method_13_code 65 = .ok (.sipush 10000, 3) := by decide +kernel
theorem d_MD_penaltyAt_68 : decode prog_12_method_13_code 68 = .ok (.ireturn, 1) := by decide +kernel
theorem d_MD_penaltyAt_69 : decode prog_12_method_13_code 69 = .ok (.aload_n 0, 1) := by decide +kernel
theorem d_MD_penaltyAt_70 : decode prog_12_method_13_code 70 = .ok (.getfield 7, 3) := by decide +kernel
theorem d_MD_penaltyAt_73 : decode prog_12_method_13_code 73 = .ok (.iload_n 1, 1) := by decide +kernel
theorem d_MD_penaltyAt_74 : decode prog_12_method_13_code 74 = .ok (.iaload, 1) := by decide +kernel
theorem d_MD_penaltyAt_75 : decode prog_12_method_13_code 75 = .ok (.iconst 3, 1) := by decide +kernel
theorem d_MD_penaltyAt_76 : decode prog_12_method_13_code 76 = .ok (.if_icmp .ne 12, 3) := by decide +kernel
theorem d_MD_penaltyAt_79 : decode prog_12_method_13_code 79 = .ok (.aload_n 0, 1) := by decide +kernel
theorem d_MD_penaltyAt_80 : decode prog_12_method_13_code 80 = .ok (.getfield 13, 3) := by decide +kernel
theorem d_MD_penaltyAt_83 : decode prog_12_method_13_code 83 = .ok (.iload_n 1, 1) := by decide +kernel
theorem d_MD_penaltyAt_84 : decode prog_12_method_13_code 84 = .ok (.iaload, 1) := by decide +kernel
theorem d_MD_penaltyAt_85 : decode prog_12_method_13_code 85 = .ok (.goto 6, 3) := by decide +kernel
theorem d_MD_penaltyAt_88 : decode prog_12_method_13_code 88 = .ok (.sipush 10000, 3) := by decide +kernel
theorem d_MD_penaltyAt_91 : decode prog_12_method_13_code 91 = .ok (.ireturn, 1) := by decide +kernel
def y_MD_openPage : MethodName := ⟨"PageMakerModel", "openPage", "()V"⟩
def w_MD_openPage : List Cond := .code y_MD_openPage prog_12_method_14_code 1 none :: TB
theorem d_MD_openPage_0 : decode prog_12_method_14_code 0 = .ok (.aload_n 0, 1) := by decide +kernel
theorem d_MD_openPage_1 : decode prog_12_method_14_code 1 = .ok (.getfield 127, 3) := by decide +kernel
theorem d_MD_openPage_4 : decode prog_12_method_14_code 4 = .ok (.ifCond .ne 99, 3) := by decide +kernel
theorem d_MD_openPage_7 : decode prog_12_method_14_code 7 = .ok (.aload_n 0, 1) := by decide +kernel
theorem d_MD_openPage_8 : decode prog_12_method_14_code 8 = .ok (.getfield 131, 3) := by decide +kernel
theorem d_MD_openPage_11 : decode prog_12_method_14_code 11 = .ok (.aload_n 0, 1) := by decide +kernel
theorem d_MD_openPage_12 : decode prog_12_method_14_code 12 = .ok (.getfield 124, 3) := by decide +kernel
theorem d_MD_openPage_15 : decode prog_12_method_14_code 15 = .ok (.if_icmp .ge 88, 3) := by decide +kernel
theorem d_MD_openPage_18 : decode prog_12_method_14_code 18 = .ok (.aload_n 0, 1) := by decide +kernel
theorem d_MD_openPage_19 : decode prog_12_method_14_code 19 = .ok (.getfield 7, 3) := by decide +kernel
theorem d_MD_openPage_22 : decode prog_12_method_14_code 22 = .ok (.aload_n 0, 1) := by decide +kernel
theorem d_MD_openPage_23 : decode prog_12_method_14_code 23 = .ok (.getfield 131, 3) := by decide +kernel
theorem d_MD_openPage_26 : decode prog_12_method_14_code 26 = .ok (.iaload, 1) := by decide +kernel
theorem d_MD_openPage_27 : decode prog_12_method_14_code 27 = .ok (.ifCond .ne 63, 3) := by decide +kernel
theorem d_MD_openPage_30 : decode prog_12_method_14_code 30 = .ok (.aload_n 0, 1) := by decide +kernel
theorem d_MD_openPage_31 : decode prog_12_method_14_code 31 = .ok (.iconst 1, 1) := by decide +kernel
theorem d_MD_openPage_32 : decode prog_12_method_14_code 32 = .ok (.putfield 127, 3) := by decide +kernel
theorem d_MD_openPage_35 : decode prog_12_method_14_code 35 = .ok (.aload_n 0, 1) := by decide +kernel
theorem d_MD_openPage_36 : decode prog_12_method_14_code 36 = .ok (.getfield 47, 3) := by decide +kernel
theorem d_MD_openPage_39 : decode prog_12_method_14_code 39 = .ok (.aload_n 0, 1) := by decide +kernel
theorem d_MD_openPage_40 : decode prog_12_method_14_code 40 = .ok (.getfield 134, 3) := by decide +kernel
theorem d_MD_openPage_43 : decode prog_12_method_14_code 43 = .ok (.aload_n 0, 1) := by decide +kernel
theorem d_MD_openPage_44 : decode prog_12_method_14_code 44 = .ok (.getfield 131, 3) := by decide +kernel
theorem d_MD_openPage_47 : decode prog_12_method_14_code 47 = .ok (.iastore, 1) := by decide +kernel
theorem d_MD_openPage_48 : decode prog_12_method_14_code 48 = .ok (.aload_n 0, 1) := by decide +kernel
theorem d_MD_openPage_49 : decode prog_12_method_14_code 49 = .ok (.getfield 38, 3) := by decide +kernel
theorem d_MD_openPage_52 : decode prog_12_method_14_code 52 = .ok (.aload_n 0, 1) := by decide +kernel
theorem d_MD_openPage_53 : decode prog_12_method_14_code 53 = .ok (.getfield 134, 3) := by decide +kernel
theorem d_MD_openPage_56 : decode prog_12_method_14_code 56 = .ok (.aload_n 0, 1) := by decide +kernel
theorem d_MD_openPage_57 : decode prog_12_method_14_code 57 = .ok (.getfield 26, 3) := by decide +kernel
theorem d_MD_openPage_60 : decode prog_12_method_14_code 60 = .ok (.iastore, 1) := by decide +kernel
theorem d_MD_openPage_61 : decode prog_12_method_14_code 61 = .ok (.aload_n 0, 1) := by decide +kernel
theorem d_MD_openPage_62 : decode prog_12_method_14_code 62 = .ok (.getfield 41, 3) := by decide +kernel
theorem d_MD_openPage_65 : decode prog_12_method_14_code 65 = .ok (.aload_n 0, 1) := by decide +kernel
theorem d_MD_openPage_66 : decode prog_12_method_14_code 66 = .ok (.getfield 134, 3) := by decide +kernel
theorem d_MD_openPage_69 : decode prog_12_method_14_code 69 = .ok (.aload_n 0, 1) := by decide +kernel
theorem d_MD_openPage_70 : decode prog_12_method_14_code 70 = .ok (.getfield 31, 3) := by decide +kernel
theorem d_MD_openPage_73 : decode prog_12_method_14_code 73 = .ok (.iastore, 1) := by decide +kernel
theorem d_MD_openPage_74 : decode prog_12_method_14_code 74 = .ok (.aload_n 0, 1) := by decide +kernel
theorem d_MD_openPage_75 : decode prog_12_method_14_code 75 = .ok (.getfield 44, 3) := by decide +kernel
theorem d_MD_openPage_78 : decode prog_12_method_14_code 78 = .ok (.aload_n 0, 1) := by decide +kernel
theorem d_MD_openPage_79 : decode prog_12_method_14_code 79 = .ok (.getfield 134, 3) := by decide +kernel
theorem d_MD_openPage_82 : decode prog_12_method_14_code 82 = .ok (.aload_n 0, 1) := by decide +kernel
theorem d_MD_openPage_83 : decode prog_12_method_14_code 83 = .ok (.getfield 35, 3) := by decide +kernel
theorem d_MD_openPage_86 : decode prog_12_method_14_code 86 = .ok (.iastore, 1) := by decide +kernel
theorem d_MD_openPage_87 : decode prog_12_method_14_code 87 = .ok (.goto (-87), 3) := by decide +kernel
theorem d_MD_openPage_90 : decode prog_12_method_14_code 90 = .ok (.aload_n 0, 1) := by decide +kernel
theorem d_MD_openPage_91 : decode prog_12_method_14_code 91 = .ok (.dup, 1) := by decide +kernel
theorem d_MD_openPage_92 : decode prog_12_method_14_code 92 = .ok (.getfield 131, 3) := by decide +kernel
theorem d_MD_openPage_95 : decode prog_12_method_14_code 95 = .ok (.iconst 1, 1) := by decide +kernel
theorem d_MD_openPage_96 : decode prog_12_method_14_code 96 = .ok (.iadd, 1) := by decide +kernel
theorem d_MD_openPage_97 : decode prog_12_method_14_code 97 = .ok (.putfield 131, 3) := by decide +kernel
theorem d_MD_openPage_100 : decode prog_12_method_14_code 100 = .ok (.goto (-100), 3) := by decide +kernel
theorem d_MD_openPage_103 : decode prog_12_method_14_code 103 = .ok (.return_, 1) := by decide +kernel
def y_MD_breaks : MethodName := ⟨"PageMakerModel", "breaks", "()Z"⟩
def w_MD_breaks : List Cond := .code y_MD_breaks prog_12_method_15_code 4 (some .boolean) :: TB
theorem d_MD_breaks_0 : decode prog_12_method_15_code 0 = .ok (.aload_n 0, 1) := by decide +kernel
theorem d_MD_breaks_1 : decode prog_12_method_15_code 1 = .ok (.iconst (-1), 1) := by decide +kernel
theorem d_MD_breaks_2 : decode prog_12_method_15_code 2 = .ok (.putfield 63, 3) := by decide +kernel
theorem d_MD_breaks_5 : decode prog_12_method_15_code 5 = .ok (.aload_n 0, 1) := by decide +kernel
theorem d_MD_breaks_6 : decode prog_12_method_15_code 6 = .ok (.ldc 66, 2) := by decide +kernel
theorem d_MD_breaks_8 : decode prog_12_method_15_code 8 = .ok (.putfield 67, 3) := by decide +kernel
theorem d_MD_breaks_11 : decode prog_12_method_15_code 11 = .ok (.aload_n 0, 1) := by decide +kernel
theorem d_MD_breaks_12 : decode prog_12_method_15_code 12 = .ok (.getfield 127, 3) := by decide +kernel
theorem d_MD_breaks_15 : decode prog_12_method_15_code 15 = .ok (.ifCond .ne 5, 3) := by decide +kernel
theorem d_MD_breaks_18 : decode prog_12_method_15_code 18 = .ok (.iconst 0, 1) := by decide +kernel
theorem d_MD_breaks_19 : decode prog_12_method_15_code 19 = .ok (.ireturn, 1) := by decide +kernel
theorem d_MD_breaks_20 : decode prog_12_method_15_code 20 = .ok (.aload_n 0, 1) := by decide +kernel
theorem d_MD_breaks_21 : decode prog_12_method_15_code 21 = .ok (.aload_n 0, 1) := by decide +kernel
theorem d_MD_breaks_22 : decode prog_12_method_15_code 22 = .ok (.getfield 134, 3) := by decide +kernel
theorem d_MD_breaks_25 : decode prog_12_method_15_code 25 = .ok (.invokevirtual 91, 3) := by decide +kernel
theorem d_MD_breaks_28 : decode prog_12_method_15_code 28 = .ok (.aload_n 0, 1) := by decide +kernel
theorem d_MD_breaks_29 : decode prog_12_method_15_code 29 = .ok (.aload_n 0, 1) := by decide +kernel
theorem d_MD_breaks_30 : decode prog_12_method_15_code 30 = .ok (.getfield 134, 3) := by decide +kernel
theorem d_MD_breaks_33 : decode prog_12_method_15_code 33 = .ok (.aload_n 0, 1) := by decide +kernel
theorem d_MD_breaks_34 : decode prog_12_method_15_code 34 = .ok (.getfield 131, 3) := by decide +kernel
theorem d_MD_breaks_37 : decode prog_12_method_15_code 37 = .ok (.invokevirtual 95, 3) := by decide +kernel
theorem d_MD_breaks_40 : decode prog_12_method_15_code 40 = .ok (.aload_n 0, 1) := by decide +kernel
theorem d_MD_breaks_41 : decode prog_12_method_15_code 41 = .ok (.getfield 131, 3) := by decide +kernel
theorem d_MD_breaks_44 : decode prog_12_method_15_code 44 = .ok (.iconst 1, 1) := by decide +kernel
theorem d_MD_breaks_45 : decode prog_12_method_15_code 45 = .ok (.iadd, 1) := by decide +kernel
theorem d_MD_breaks_46 : decode prog_12_method_15_code 46 = .ok (.istore_n 1, 1) := by decide +kernel
theorem d_MD_breaks_47 : decode prog_12_method_15_code 47 = .ok (.iload_n 1, 1) := by decide +kernel
theorem d_MD_breaks_48 : decode prog_12_method_15_code 48 = .ok (.aload_n 0, 1) := by decide +kernel
theorem d_MD_breaks_49 : decode prog_12_method_15_code 49 = .ok (.getfield 124, 3) := by decide +kernel
theorem d_MD_breaks_52 : decode prog_12_method_15_code 52 = .ok (.if_icmp .ge 126, 3) := by decide +kernel
theorem d_MD_breaks_55 : decode prog_12_method_15_code 55 = .ok (.aload_n 0, 1) := by decide +kernel
theorem d_MD_breaks_56 : decode prog_12_method_15_code 56 = .ok (.getfield 7, 3) := by decide +kernel
theorem d_MD_breaks_59 : decode prog_12_method_15_code 59 = .ok (.iload_n 1, 1) := by decide +kernel
theorem d_MD_breaks_60 : decode prog_12_method_15_code 60 = .ok (.iaload, 1) := by decide +kernel
theorem d_MD_breaks_61 : decode prog_12_method_15_code 61 = .ok (.iconst 2, 1) := by decide +kernel
theorem d_MD_breaks_62 : decode prog_12_method_15_code 62 = .ok (.if_icmp .ne 13, 3) := by decide +kernel
theorem d_MD_breaks_65 : decode prog_12_method_15_code 65 = .ok (.iload_n 1, 1) := by decide +kernel
theorem d_MD_breaks_66 : decode prog_12_method_15_code 66 = .ok (.iconst 1, 1) := by decide +kernel
theorem d_MD_breaks_67 : decode prog_12_method_15_code 67 = .ok (.iadd, 1) := by decide +kernel
theorem d_MD_breaks_68 : decode prog_12_method_15_code 68 = .ok (.aload_n 0, 1) := by decide +kernel
theorem d_MD_breaks_69 : decode prog_12_method_15_code 69 = .ok (.getfield 124, 3) := by decide +kernel
theorem d_MD_breaks_72 : decode prog_12_method_15_code 72 = .ok (.if_icmp .ge 106, 3) := by decide +kernel
theorem d_MD_breaks_75 : decode prog_12_method_15_code 75 = .ok (.aload_n 0, 1) := by decide +kernel
theorem d_MD_breaks_76 : decode prog_12_method_15_code 76 = .ok (.iload_n 1, 1) := by decide +kernel
theorem d_MD_breaks_77 : decode prog_12_method_15_code 77 = .ok (.invokevirtual 137, 3) := by decide +kernel
theorem d_MD_breaks_80 : decode prog_12_method_15_code 80 = .ok (.istore_n 2, 1) := by decide +kernel
theorem d_MD_breaks_81 : decode prog_12_method_15_code 81 = .ok (.iload_n 2, 1) := by decide +kernel
theorem d_MD_breaks_82 : decode prog_12_method_15_code 82 = .ok (.sipush 10000, 3) := by decide +kernel
theorem d_MD_breaks_85 : decode prog_12_method_15_code 85 = .ok (.if_icmp .ge 78, 3) := by decide +kernel
theorem d_MD_breaks_88 : decode prog_12_method_15_code 88 = .ok (.aload_n 0, 1) := by decide +kernel
theorem d_MD_breaks_89 : decode prog_12_method_15_code 89 = .ok (.aload_n 0, 1) := by decide +kernel
theorem d_MD_breaks_90 : decode prog_12_method_15_code 90 = .ok (.getfield 134, 3) := by decide +kernel
theorem d_MD_breaks_93 : decode prog_12_method_15_code 93 = .ok (.iload_n 2, 1) := by decide +kernel
theorem d_MD_breaks_94 : decode prog_12_method_15_code 94 = .ok (.invokevirtual 140, 3) := by decide +kernel
theorem d_MD_breaks_97 : decode prog_12_method_15_code 97 = .ok (.istore_n 3, 1) := by decide +kernel
theorem d_MD_breaks_98 : decode prog_12_method_15_code 98 = .ok (.aload_n 0, 1) := by decide +kernel
theorem d_MD_breaks_99 : decode prog_12_method_15_code 99 = .ok (.iload_n 3, 1) := by decide +kernel
theorem d_MD_breaks_100 : decode prog_12_method_15_code 100 = .ok (.aload_n 0, 1) := by decide +kernel
theorem d_MD_breaks_101 : decode prog_12_method_15_code 101 = .ok (.getfield 67, 3) := by decide +kernel
theorem d_MD_breaks_104 : decode prog_12_method_15_code 104 = .ok (.if_icmp .gt 7, 3) := by decide +kernel
theorem d_MD_breaks_107 : decode prog_12_method_15_code 107 = .ok (.iload_n 1, 1) := by decide +kernel
theorem d_MD_breaks_108 : decode prog_12_method_15_code 108 = .ok (.goto 7, 3) := by decide +kernel
theorem d_MD_breaks_111 : decode prog_12_method_15_code 111 = .ok (.aload_n 0, 1) := by decide +kernel
theorem d_MD_breaks_112 : decode prog_12_method_15_code 112 = .ok (.getfield 63, 3) := by decide +kernel
theorem d_MD_breaks_115 : decode prog_12_method_15_code 115 = .ok (.putfield 63, 3) := by decide +kernel
theorem d_MD_breaks_118 : decode prog_12_method_15_code 118 = .ok (.aload_n 0, 1) := by decide +kernel
theorem d_MD_breaks_119 : decode prog_12_method_15_code 119 = .ok (.iload_n 3, 1) := by decide +kernel
theorem d_MD_breaks_120 : decode prog_12_method_15_code 120 = .ok (.aload_n 0, 1) := by decide +kernel
theorem d_MD_breaks_121 : decode prog_12_method_15_code 121 = .ok (.getfield 67, 3) := by decide +kernel
theorem d_MD_breaks_124 : decode prog_12_method_15_code 124 = .ok (.if_icmp .gt 7, 3) := by decide +kernel
theorem d_MD_breaks_127 : decode prog_12_method_15_code 127 = .ok (.iload_n 3, 1) := by decide +kernel
theorem d_MD_breaks_128 : decode prog_12_method_15_code 128 = .ok (.goto 7, 3) := by decide +kernel
theorem d_MD_breaks_131 : decode prog_12_method_15_code 131 = .ok (.aload_n 0, 1) := by decide +kernel
theorem d_MD_breaks_132 : decode prog_12_method_15_code 132 = .ok (.getfield 67, 3) := by decide +kernel
theorem d_MD_breaks_135 : decode prog_12_method_15_code 135 = .ok (.putfield 67, 3) := by decide +kernel
theorem d_MD_breaks_138 : decode prog_12_method_15_code 138 = .ok (.iload_n 3, 1) := by decide +kernel
theorem d_MD_breaks_139 : decode prog_12_method_15_code 139 = .ok (.ldc 66, 2) := by decide +kernel
theorem d_MD_breaks_141 : decode prog_12_method_15_code 141 = .ok (.if_icmp .eq 10, 3) := by decide +kernel
theorem d_MD_breaks_144 : decode prog_12_method_15_code 144 = .ok (.iload_n 2, 1) := by decide +kernel
theorem d_MD_breaks_145 : decode prog_12_method_15_code 145 = .ok (.sipush (-10000), 3) := by decide +kernel
theorem d_MD_breaks_148 : decode prog_12_method_15_code 148 = .ok (.if_icmp .gt 15, 3) := by decide +kernel
theorem d_MD_breaks_151 : decode prog_12_method_15_code 151 = .ok (.aload_n 0, 1) := by decide +kernel
theorem d_MD_breaks_152 : decode prog_12_method_15_code 152 = .ok (.getfield 56, 3) := by decide +kernel
theorem d_MD_breaks_155 : decode prog_12_method_15_code 155 = .ok (.aload_n 0, 1) := by decide +kernel
theorem d_MD_breaks_156 : decode prog_12_method_15_code 156 = .ok (.getfield 134, 3) := by decide +kernel
theorem d_MD_breaks_159 : decode prog_12_method_15_code 159 = .ok (.iload_n 1, 1) := by decide +kernel
theorem d_MD_breaks_160 : decode prog_12_method_15_code 160 = .ok (.iastore, 1) := by decide +kernel
theorem d_MD_breaks_161 : decode prog_12_method_15_code 161 = .ok (.iconst 1, 1) := by decide +kernel
theorem d_MD_breaks_162 : decode prog_12_method_15_code 162 = .ok (.ireturn, 1) := by decide +kernel
theorem d_MD_breaks_163 : decode prog_12_method_15_code 163 = .ok (.aload_n 0, 1) := by decide +kernel
theorem d_MD_breaks_164 : decode prog_12_method_15_code 164 = .ok (.aload_n 0, 1) := by decide +kernel
theorem d_MD_breaks_165 : decode prog_12_method_15_code 165 = .ok (.getfield 134, 3) := by decide +kernel
theorem d_MD_breaks_168 : decode prog_12_method_15_code 168 = .ok (.iload_n 1, 1) := by decide +kernel
theorem d_MD_breaks_169 : decode prog_12_method_15_code 169 = .ok (.invokevirtual 95, 3) := by decide +kernel
theorem d_MD_breaks_172 : decode prog_12_method_15_code 172 = .ok (.iinc 1 1, 3) := by decide +kernel
theorem d_MD_breaks_175 : decode prog_12_method_15_code 175 = .ok (.goto (-128), 3) := by decide +kernel
theorem d_MD_breaks_178 : decode prog_12_method_15_code 178 = .ok (.iconst 0, 1) := by decide +kernel
theorem d_MD_breaks_179 : decode prog_12_method_15_code 179 = .ok (.ireturn, 1) := by decide +kernel
def y_MD_goOn : MethodName := ⟨"PageMakerModel", "goOn", "()I"⟩
def w_MD_goOn : List Cond := .code y_MD_goOn prog_12_method_16_code 1 (some .int) :: TB
theorem d_MD_goOn_0 : decode prog_12_method_16_code 0 = .ok (.aload_n 0, 1) := by decide +kernel
theorem d_MD_goOn_1 : decode prog_12_method_16_code 1 = .ok (.invokevirtual 144, 3) := by decide +kernel
theorem d_MD_goOn_4 : decode prog_12_method_16_code 4 = .ok (.aload_n 0, 1) := by decide +kernel
theorem d_MD_goOn_5 : decode prog_12_method_16_code 5 = .ok (.invokevirtual 147, 3) := by decide +kernel
theorem d_MD_goOn_8 : decode prog_12_method_16_code 8 = .ok (.ifCond .eq 59, 3) := by decide +kernel
theorem d_MD_goOn_11 : decode prog_12_method_16_code 11 = .ok (.aload_n 0, 1) := by decide +kernel
theorem d_MD_goOn_12 : decode prog_12_method_16_code 12 = .ok (.getfield 50, 3) := by decide +kernel
theorem d_MD_goOn_15 : decode prog_12_method_16_code 15 = .ok (.aload_n 0, 1) := by decide +kernel
theorem d_MD_goOn_16 : decode prog_12_method_16_code 16 = .ok (.getfield 134, 3) := by decide +kernel
theorem d_MD_goOn_19 : decode prog_12_method_16_code 19 = .ok (.aload_n 0, 1) := by decide +kernel
theorem d_MD_goOn_20 : decode prog_12_method_16_code 20 = .ok (.getfield 63, 3) := by decide +kernel
theorem d_MD_goOn_23 : decode prog_12_method_16_code 23 = .ok (.iastore, 1) := by decide +kernel
theorem d_MD_goOn_24 : decode prog_12_method_16_code 24 = .ok (.aload_n 0, 1) := by decide +kernel
theorem d_MD_goOn_25 : decode prog_12_method_16_code 25 = .ok (.getfield 53, 3) := by decide +kernel
theorem d_MD_goOn_28 : decode prog_12_method_16_code 28 = .ok (.aload_n 0, 1) := by decide +kernel
theorem d_MD_goOn_29 : decode prog_12_method_16_code 29 = .ok (.getfield 134, 3) := by decide +kernel
theorem d_MD_goOn_32 : decode prog_12_method_16_code 32 = .ok (.aload_n 0, 1) := by decide +kernel
theorem d_MD_goOn_33 : decode prog_12_method_16_code 33 = .ok (.getfield 67, 3) := by decide +kernel
theorem d_MD_goOn_36 : decode prog_12_method_16_code 36 = .ok (.iastore, 1) := by decide +kernel
theorem d_MD_goOn_37 : decode prog_12_method_16_code 37 = .ok (.aload_n 0, 1) := by decide +kernel
theorem d_MD_goOn_38 : decode prog_12_method_16_code 38 = .ok (.aload_n 0, 1) := by decide +kernel
theorem d_MD_goOn_39 : decode prog_12_method_16_code 39 = .ok (.getfield 63, 3) := by decide +kernel
theorem d_MD_goOn_42 : decode prog_12_method_16_code 42 = .ok (.putfield 131, 3) := by decide +kernel
theorem d_MD_goOn_45 : decode prog_12_method_16_code 45 = .ok (.aload_n 0, 1) := by decide +kernel
theorem d_MD_goOn_46 : decode prog_12_method_16_code 46 = .ok (.dup, 1) := by decide +kernel
theorem d_MD_goOn_47 : decode prog_12_method_16_code 47 = .ok (.getfield 134, 3) := by decide +kernel
theorem d_MD_goOn_50 : decode prog_12_method_16_code 50 = .ok (.iconst 1, 1) := by decide +kernel
theorem d_MD_goOn_51 : decode prog_12_method_16_code 51 = .ok (.iadd, 1) := by decide +kernel
theorem d_MD_goOn_52 : decode prog_12_method_16_code 52 = .ok (.putfield 134, 3) := by decide +kernel
theorem d_MD_goOn_55 : decode prog_12_method_16_code 55 = .ok (.aload_n 0, 1) := by decide +kernel
theorem d_MD_goOn_56 : decode prog_12_method_16_code 56 = .ok (.iconst 0, 1) := by decide +kernel
theorem d_MD_goOn_57 : decode prog_12_method_16_code 57 = .ok (.putfield 127, 3) := by decide +kernel
theorem d_MD_goOn_60 : decode prog_12_method_16_code 60 = .ok (.aload_n 0, 1) := by decide +kernel
theorem d_MD_goOn_61 : decode prog_12_method_16_code 61 = .ok (.invokevirtual 144, 3) := by decide +kernel
theorem d_MD_goOn_64 : decode prog_12_method_16_code 64 = .ok (.goto (-60), 3) := by decide +kernel
theorem d_MD_goOn_67 : decode prog_12_method_16_code 67 = .ok (.aload_n 0, 1) := by decide +kernel
theorem d_MD_goOn_68 : decode prog_12_method_16_code 68 = .ok (.getfield 134, 3) := by decide +kernel
theorem d_MD_goOn_71 : decode prog_12_method_16_code 71 = .ok (.ireturn, 1) := by decide +kernel
def y_MD_append : MethodName := ⟨"PageMakerModel", "append", "(IIIII)I"⟩
def w_MD_append : List Cond := .code y_MD_append prog_12_method_17_code 6 (some .int) :: TB
theorem d_MD_append_0 : decode prog_12_method_17_code 0 = .ok (.aload_n 0, 1) := by decide +kernel
theorem d_MD_append_1 : decode prog_12_method_17_code 1 = .ok (.getfield 7, 3) := by decide +kernel
theorem d_MD_append_4 : decode prog_12_method_17_code 4 = .ok (.aload_n 0, 1) := by decide +kernel
theorem d_MD_append_5 : decode prog_12_method_17_code 5 = .ok (.getfield 124, 3) := by decide +kernel
theorem d_MD_append_8 : decode prog_12_method_17_code 8 = .ok (.iload_n 1, 1) := by decide +kernel
theorem d_MD_append_9 : decode prog_12_method_17_code 9 = .ok (.iastore, 1) := by decide +kernel
theorem d_MD_append_10 : decode prog_12_method_17_code 10 = .ok (.aload_n 0, 1) := by decide +kernel
theorem d_MD_append_11 : decode prog_12_method_17_code 11 = .ok (.getfield 13, 3) := by decide +kernel
theorem d_MD_append_14 : decode prog_12_method_17_code 14 = .ok (.aload_n 0, 1) := by decide +kernel
theorem d_MD_append_15 : decode prog_12_method_17_code 15 = .ok (.getfield 124, 3) := by decide +kernel
theorem d_MD_append_18 : decode prog_12_method_17_code 18 = .ok (.iload_n 2, 1) := by decide +kernel
theorem d_MD_append_19 : decode prog_12_method_17_code 19 = .ok (.iastore, 1) := by decide +kernel
theorem d_MD_append_20 : decode prog_12_method_17_code 20 = .ok (.aload_n 0, 1) := by decide +kernel
theorem d_MD_append_21 : decode prog_12_method_17_code 21 = .ok (.getfield 16, 3) := by decide +kernel
theorem d_MD_append_24 : decode prog_12_method_17_code 24 = .ok (.aload_n 0, 1) := by decide +kernel
theorem d_MD_append_25 : decode prog_12_method_17_code 25 = .ok (.getfield 124, 3) := by decide +kernel
theorem d_MD_append_28 : decode prog_12_method_17_code 28 = .ok (.iload_n 3, 1) := by decide +kernel
theorem d_MD_append_29 : decode prog_12_method_17_code 29 = .ok (.iastore, 1) := by decide +kernel
theorem d_MD_append_30 : decode prog_12_method_17_code 30 = .ok (.aload_n 0, 1) := by decide +kernel
theorem d_MD_append_31 : decode prog_12_method_17_code 31 = .ok (.getfield 19, 3) := by decide +kernel
theorem d_MD_append_34 : decode prog_12_method_17_code 34 = .ok (.aload_n 0, 1) := by decide +kernel
theorem d_MD_append_35 : decode prog_12_method_17_code 35 = .ok (.getfield 124, 3) := by decide +kernel
theorem d_MD_append_38 : decode prog_12_method_17_code 38 = .ok (.iload 4, 2) := by decide +kernel
theorem d_MD_append_40 : decode prog_12_method_17_code 40 = .ok (.iastore, 1) := by decide +kernel
theorem d_MD_append_41 : decode prog_12_method_17_code 41 = .ok (.aload_n 0, 1) := by decide +kernel
theorem d_MD_append_42 : decode prog_12_method_17_code 42 = .ok (.getfield 22, 3) := by decide +kernel
theorem d_MD_append_45 : decode prog_12_method_17_code 45 = .ok (.aload_n 0, 1) := by decide +kernel
theorem d_MD_append_46 : decode prog_12_method_17_code 46 = .ok (.getfield 124, 3) := by decide +kernel
theorem d_MD_append_49 : decode prog_12_method_17_code 49 = .ok (.iload 5, 2) := by decide +kernel
theorem d_MD_append_51 : decode prog_12_method_17_code 51 = .ok (.iastore, 1) := by decide +kernel
theorem d_MD_append_52 : decode prog_12_method_17_code 52 = .ok (.aload_n 0, 1) := by decide +kernel
theorem d_MD_append_53 : decode prog_12_method_17_code 53 = .ok (.dup, 1) := by decide +kernel
theorem d_MD_append_54 : decode prog_12_method_17_code 54 = .ok (.getfield 124, 3) := by decide +kernel
theorem d_MD_append_57 : decode prog_12_method_17_code 57 = .ok (.iconst 1, 1) := by decide +kernel
theorem d_MD_append_58 : decode prog_12_method_17_code 58 = .ok (.iadd, 1) := by decide +kernel
theorem d_MD_append_59 : decode prog_12_method_17_code 59 = .ok (.putfield 124, 3) := by decide +kernel
theorem d_MD_append_62 : decode prog_12_method_17_code 62 = .ok (.aload_n 0, 1) := by decide +kernel
theorem d_MD_append_63 : decode prog_12_method_17_code 63 = .ok (.invokevirtual 150, 3) := by decide +kernel
theorem d_MD_append_66 : decode prog_12_method_17_code 66 = .ok (.ireturn, 1) := by decide +kernel
def y_MD_box : MethodName := ⟨"PageMakerModel", "box", "(III)I"⟩
def w_MD_box : List Cond := .code y_MD_box prog_12_method_18_code 4 (some .int) :: TB
theorem d_MD_box_0 : decode prog_12_method_18_code 0 = .ok (.aload_n 0, 1) := by decide +kernel
theorem d_MD_box_1 : decode prog_12_method_18_code 1 = .ok (.iload_n 1, 1) := by decide +kernel
theorem d_MD_box_2 : decode prog_12_method_18_code 2 = .ok (.ifCond .lt 17, 3) := by decide +kernel
theorem d_MD_box_5 : decode prog_12_method_18_code 5 = .ok (.iload_n 2, 1) := by decide +kernel
theorem d_MD_box_6 : decode prog_12_method_18_code 6 = .ok (.invokestatic 78, 3) := by decide +kernel
theorem d_MD_box_9 : decode prog_12_method_18_code 9 = .ok (.ifCond .eq 10, 3) := by decide +kernel
theorem d_MD_box_12 : decode prog_12_method_18_code 12 = .ok (.iload_n 3, 1) := by decide +kernel
theorem d_MD_box_13 : decode prog_12_method_18_code 13 = .ok (.invokestatic 78, 3) := by decide +kernel
theorem d_MD_box_16 : decode prog_12_method_18_code 16 = .ok (.ifCond .ne 7, 3) := by decide +kernel
theorem d_MD_box_19 : decode prog_12_method_18_code 19 = .ok (.iconst 1, 1) := by decide +kernel
theorem d_MD_box_20 : decode prog_12_method_18_code 20 = .ok (.goto 18, 3) := by decide +kernel
theorem d_MD_box_23 : decode prog_12_method_18_code 23 = .ok (.aload_n 0, 1) := by decide +kernel
theorem d_MD_box_24 : decode prog_12_method_18_code 24 = .ok (.getfield 124, 3) := by decide +kernel
theorem d_MD_box_27 : decode prog_12_method_18_code 27 = .ok (.sipush 2000, 3) := by decide +kernel
theorem d_MD_box_30 : decode prog_12_method_18_code 30 = .ok (.if_icmp .ne 7, 3) := by decide +kernel
theorem d_MD_box_33 : decode prog_12_method_18_code 33 = .ok (.iconst 2, 1) := by decide +kernel
theorem d_MD_box_34 : decode prog_12_method_18_code 34 = .ok (.goto 4, 3) := by decide +kernel
theorem d_MD_box_37 : decode prog_12_method_18_code 37 = .ok (.iconst 0, 1) := by decide +kernel
theorem d_MD_box_38 : decode prog_12_method_18_code 38 = .ok (.putfield 70, 3) := by decide +kernel
theorem d_MD_box_41 : decode prog_12_method_18_code 41 = .ok (.aload_n 0, 1) := by decide +kernel
theorem d_MD_box_42 : decode prog_12_method_18_code 42 = .ok (.getfield 70, 3) := by decide +kernel
theorem d_MD_box_45 : decode prog_12_method_18_code 45 = .ok (.ifCond .le 7, 3) := by decide +kernel
theorem d_MD_box_48 : decode prog_12_method_18_code 48 = .ok (.iconst 0, 1) := by decide +kernel
theorem d_MD_box_49 : decode prog_12_method_18_code 49 = .ok (.goto 12, 3) := by decide +kernel
theorem d_MD_box_52 : decode prog_12_method_18_code 52 = .ok (.aload_n 0, 1) := by decide +kernel
theorem d_MD_box_53 : decode prog_12_method_18_code 53 = .ok (.iconst 0, 1) := by decide +kernel
theorem d_MD_box_54 : decode prog_12_method_18_code 54 = .ok (.iload_n 1, 1) := by decide +kernel
theorem d_MD_box_55 : decode prog_12_method_18_code 55 = .ok (.iload_n 2, 1) := by decide +kernel
theorem d_MD_box_56 : decode prog_12_method_18_code 56 = .ok (.iload_n 3, 1) := by decide +kernel
theorem d_MD_box_57 : decode prog_12_method_18_code 57 = .ok (.iconst 0, 1) := by decide +kernel
theorem d_MD_box_58 : decode prog_12_method_18_code 58 = .ok (.invokevirtual 154, 3) := by decide +kernel
theorem d_MD_box_61 : decode prog_12_method_18_code 61 = .ok (.ireturn, 1) := by decide +kernel
def y_MD_glue : MethodName := ⟨"PageMakerModel", "glue", "(IIII)I"⟩
def w_MD_glue : List Cond := .code y_MD_glue prog_12_method_19_code 5 (some .int) :: TB
theorem d_MD_glue_0 : decode prog_12_method_19_code 0 = .ok (.aload_n 0, 1) := by decide +kernel
theorem d_MD_glue_1 : decode prog_12_method_19_code 1 = .ok (.iload_n 1, 1) := by decide +kernel
theorem d_MD_glue_2 : decode prog_12_method_19_code 2 = .ok (.invokestatic 78, 3) := by decide +kernel
theorem d_MD_glue_5 : decode prog_12_method_19_code 5 = .ok (.ifCond .eq 27, 3) := by decide +kernel
theorem d_MD_glue_8 : decode prog_12_method_19_code 8 = .ok (.iload_n 2, 1) := by decide +kernel
theorem d_MD_glue_9 : decode prog_12_method_19_code 9 = .ok (.invokestatic 74, 3) := by decide +kernel
theorem d_MD_glue_12 : decode prog_12_method_19_code 12 = .ok (.ifCond .eq 20, 3) := by decide +kernel
theorem d_MD_glue_15 : decode prog_12_method_19_code 15 = .ok (.iload 4, 2) := by decide +kernel
theorem d_MD_glue_17 : decode prog_12_method_19_code 17 = .ok (.invokestatic 74, 3) := by decide +kernel
theorem d_MD_glue_20 : decode prog_12_method_19_code 20 = .ok (.ifCond .eq 12, 3) := by decide +kernel
theorem d_MD_glue_23 : decode prog_12_method_19_code 23 = .ok (.iload_n 3, 1) := by decide +kernel
theorem d_MD_glue_24 : decode prog_12_method_19_code 24 = .ok (.ifCond .lt 8, 3) := by decide +kernel
theorem d_MD_glue_27 : decode prog_12_method_19_code 27 = .ok (.iload_n 3, 1) := by decide +kernel
theorem d_MD_glue_28 : decode prog_12_method_19_code 28 = .ok (.iconst 3, 1) := by decide +kernel
theorem d_MD_glue_29 : decode prog_12_method_19_code 29 = .ok (.if_icmp .le 7, 3) := by decide +kernel
theorem d_MD_glue_32 : decode prog_12_method_19_code 32 = .ok (.iconst 1, 1) := by decide +kernel
theorem d_MD_glue_33 : decode prog_12_method_19_code 33 = .ok (.goto 18, 3) := by decide +kernel
theorem d_MD_glue_36 : decode prog_12_method_19_code 36 = .ok (.aload_n 0, 1) := by decide +kernel
theorem d_MD_glue_37 : decode prog_12_method_19_code 37 = .ok (.getfield 124, 3) := by decide +kernel
theorem d_MD_glue_40 : decode prog_12_method_19_code 40 = .ok (.sipush 2000, 3) := by decide +kernel
theorem d_MD_glue_43 : decode prog_12_method_19_code 43 = .ok (.if_icmp .ne 7, 3) := by decide +kernel
theorem d_MD_glue_46 : decode prog_12_method_19_code 46 = .ok (.iconst 2, 1) := by decide +kernel
theorem d_MD_glue_47 : decode prog_12_method_19_code 47 = .ok (.goto 4, 3) := by decide +kernel
theorem d_MD_glue_50 : decode prog_12_method_19_code 50 = .ok (.iconst 0, 1) := by decide +kernel
theorem d_MD_glue_51 : decode prog_12_method_19_code 51 = .ok (.putfield 70, 3) := by decide +kernel
theorem d_MD_glue_54 : decode prog_12_method_19_code 54 = .ok (.aload_n 0, 1) := by decide +kernel
theorem d_MD_glue_55 : decode prog_12_method_19_code 55 = .ok (.getfield 70, 3) := by decide +kernel
theorem d_MD_glue_58 : decode prog_12_method_19_code 58 = .ok (.ifCond .le 7, 3) := by decide +kernel
theorem d_MD_glue_61 : decode prog_12_method_19_code 61 = .ok (.iconst 0, 1) := by decide +kernel
theorem d_MD_glue_62 : decode prog_12_method_19_code 62 = .ok (.goto 13, 3) := by decide +kernel
theorem d_MD_glue_65 : decode prog_12_method_19_code 65 = .ok (.aload_n 0, 1) := by decide +kernel
theorem d_MD_glue_66 : decode prog_12_method_19_code 66 = .ok (.iconst 1, 1) := by decide +kernel
theorem d_MD_glue_67 : decode prog_12_method_19_code 67 = .ok (.iload_n 1, 1) := by decide +kernel
theorem d_MD_glue_68 : decode prog_12_method_19_code 68 = .ok (.iload_n 2, 1) := by decide +kernel
theorem d_MD_glue_69 : decode prog_12_method_19_code 69 = .ok (.iload 4, 2) := by decide +kernel
theorem d_MD_glue_71 : decode prog_12_method_19_code 71 = .ok (.iload_n 3, 1) := by decide +kernel
theorem d_MD_glue_72 : decode prog_12_method_19_code 72 = .ok (.invokevirtual 154, 3) := by decide +kernel
theorem d_MD_glue_75 : decode prog_12_method_19_code 75 = .ok (.ireturn, 1) := by decide +kernel
def y_MD_kern : MethodName := ⟨"PageMakerModel", "kern", "(I)I"⟩
def w_MD_kern : List Cond := .code y_MD_kern prog_12_method_20_code 2 (some .int) :: TB
theorem d_MD_kern_0 : decode prog_12_method_20_code 0 = .ok (.aload_n 0, 1) := by decide +kernel
theorem d_MD_kern_1 : decode prog_12_method_20_code 1 = .ok (.iload_n 1, 1) := by decide +kernel
theorem d_MD_kern_2 : decode prog_12_method_20_code 2 = .ok (.invokestatic 78, 3) := by decide +kernel
theorem d_MD_kern_5 : decode prog_12_method_20_code 5 = .ok (.ifCond .ne 7, 3) := by decide +kernel
theorem d_MD_kern_8 : decode prog_12_method_20_code 8 = .ok (.iconst 1, 1) := by decide +kernel
theorem d_MD_kern_9 : decode prog_12_method_20_code 9 = .ok (.goto 18, 3) := by decide +kernel
theorem d_MD_kern_12 : decode prog_12_method_20_code 12 = .ok (.aload_n 0, 1) := by decide +kernel
theorem d_MD_kern_13 : decode prog_12_method_20_code 13 = .ok (.getfield 124, 3) := by decide +kernel
theorem d_MD_kern_16 : decode prog_12_method_20_code 16 = .ok (.sipush 2000, 3) := by decide +kernel
theorem d_MD_kern_19 : decode prog_12_method_20_code 19 = .ok (.if_icmp .ne 7, 3) := by decide +kernel
theorem d_MD_kern_22 : decode prog_12_method_20_code 22 = .ok (.iconst 2, 1) := by decide +kernel
theorem d_MD_kern_23 : decode prog_12_method_20_code 23 = .ok (.goto 4, 3) := by decide +kernel
theorem d_MD_kern_26 : decode prog_12_method_20_code 26 = .ok (.iconst 0, 1) := by decide +kernel
theorem d_MD_kern_27 : decode prog_12_method_20_code 27 = .ok (.putfield 70, 3) := by decide +kernel
theorem d_MD_kern_30 : decode prog_12_method_20_code 30 = .ok (.aload_n 0, 1) := by decide +kernel
theorem d_MD_kern_31 : decode prog_12_method_20_code 31 = .ok (.getfield 70, 3) := by decide +kernel
theorem d_MD_kern_34 : decode prog_12_method_20_code 34 = .ok (.ifCond .le 7, 3) := by decide +kernel
theorem d_MD_kern_37 : decode prog_12_method_20_code 37 = .ok (.iconst 0, 1) := by decide +kernel
theorem d_MD_kern_38 : decode prog_12_method_20_code 38 = .ok (.goto 12, 3) := by decide +kernel
theorem d_MD_kern_41 : decode prog_12_method_20_code 41 = .ok (.aload_n 0, 1) := by decide +kernel
theorem d_MD_kern_42 : decode prog_12_method_20_code 42 = .ok (.iconst 2, 1) := by decide +kernel
theorem d_MD_kern_43 : decode prog_12_method_20_code 43 = .ok (.iload_n 1, 1) := by decide +kernel
theorem d_MD_kern_44 : decode prog_12_method_20_code 44 = .ok (.iconst 0, 1) := by decide +kernel
theorem d_MD_kern_45 : decode prog_12_method_20_code 45 = .ok (.iconst 0, 1) := by decide +kernel
theorem d_MD_kern_46 : decode prog_12_method_20_code 46 = .ok (.iconst 0, 1) := by decide +kernel
theorem d_MD_kern_47 : decode prog_12_method_20_code 47 = .ok (.invokevirtual 154, 3) := by decide +kernel
theorem d_MD_kern_50 : decode prog_12_method_20_code 50 = .ok (.ireturn, 1) := by decide +kernel
def y_MD_penalty : MethodName := ⟨"PageMakerModel", "penalty", "(I)I"⟩
def w_MD_penalty : List Cond := .code y_MD_penalty prog_12_method_21_code 2 (some .int) :: TB
theorem d_MD_penalty_0 : decode prog_12_method_21_code 0 = .ok (.aload_n 0, 1) := by decide +kernel
theorem d_MD_penalty_1 : decode prog_12_method_21_code 1 = .ok (.iload_n 1, 1) := by decide +kernel
theorem d_MD_penalty_2 : decode prog_12_method_21_code 2 = .ok (.ldc 158, 2) := by decide +kernel
theorem d_MD_penalty_4 : decode prog_12_method_21_code 4 = .ok (.if_icmp .lt 9, 3) := by decide +kernel
theorem d_MD_penalty_7 : decode prog_12_method_21_code 7 = .ok (.iload_n 1, 1) := by decide +kernel
theorem d_MD_penalty_8 : decode prog_12_method_21_code 8 = .ok (.ldc 123, 2) := by decide +kernel
theorem d_MD_penalty_10 : decode prog_12_method_21_code 10 = .ok (.if_icmp .le 7, 3) := by decide +kernel
theorem d_MD_penalty_13 : decode prog_12_method_21_code 13 = .ok (.iconst 1, 1) := by decide +kernel
theorem d_MD_penalty_14 : decode prog_12_method_21_code 14 = .ok (.goto 18, 3) := by decide +kernel
theorem d_MD_penalty_17 : decode prog_12_method_21_code 17 = .ok (.aload_n 0, 1) := by decide +kernel
theorem d_MD_penalty_18 : decode prog_12_method_21_code 18 = .ok (.getfield 124, 3) := by decide +kernel
theorem d_MD_penalty_21 : decode prog_12_method_21_code 21 = .ok (.sipush 2000, 3) := by decide +kernel
theorem d_MD_penalty_24 : decode prog_12_method_21_code 24 = .ok (.if_icmp .ne 7, 3) := by decide +kernel
theorem d_MD_penalty_27 : decode prog_12_method_21_code 27 = .ok (.iconst 2, 1) := by decide +kernel
theorem d_MD_penalty_28 : decode prog_12_method_21_code 28 = .ok (.goto 4, 3) := by decide +kernel
theorem d_MD_penalty_31 : decode prog_12_method_21_code 31 = .ok (.iconst 0, 1) := by decide +kernel
theorem d_MD_penalty_32 : decode prog_12_method_21_code 32 = .ok (.putfield 70, 3) := by decide +kernel
theorem d_MD_penalty_35 : decode prog_12_method_21_code 35 = .ok (.aload_n 0, 1) := by decide +kernel
theorem d_MD_penalty_36 : decode prog_12_method_21_code 36 = .ok (.getfield 70, 3) := by decide +kernel
theorem d_MD_penalty_39 : decode prog_12_method_21_code 39 = .ok (.ifCond .le 7, 3) := by decide +kernel
theorem d_MD_penalty_42 : decode prog_12_method_21_code 42 = .ok (.iconst 0, 1) := by decide +kernel
theorem d_MD_penalty_43 : decode prog_12_method_21_code 43 = .ok (.goto 12, 3) := by decide +kernel
theorem d_MD_penalty_46 : decode prog_12_method_21_code 46 = .ok (.aload_n 0, 1) := by decide +kernel
theorem d_MD_penalty_47 : decode prog_12_method_21_code 47 = .ok (.iconst 3, 1) := by decide +kernel
theorem d_MD_penalty_48 : decode prog_12_method_21_code 48 = .ok (.iload_n 1, 1) := by decide +kernel
theorem d_MD_penalty_49 : decode prog_12_method_21_code 49 = .ok (.iconst 0, 1) := by decide +kernel
theorem d_MD_penalty_50 : decode prog_12_method_21_code 50 = .ok (.iconst 0, 1) := by decide +kernel
theorem d_MD_penalty_51 : decode prog_12_method_21_code 51 = .ok (.iconst 0, 1) := by decide +kernel
theorem d_MD_penalty_52 : decode prog_12_method_21_code 52 = .ok (.invokevirtual 154, 3) := by decide +kernel
theorem d_MD_penalty_55 : decode prog_12_method_21_code 55 = .ok (.ireturn, 1) := by decide +kernel
def y_MD_items : MethodName := ⟨"PageMakerModel", "items", "()I"⟩
def w_MD_items : List Cond := .code y_MD_items prog_12_method_22_code 1 (some .int) :: TB
theorem d_MD_items_0 : decode prog_12_method_22_code 0 = .ok (.aload_n 0, 1) := by decide +kernel
theorem d_MD_items_1 : decode prog_12_method_22_code 1 = .ok (.iconst 0, 1) := by decide +kernel
theorem d_MD_items_2 : decode prog_12_method_22_code 2 = .ok (.putfield 70, 3) := by decide +kernel
theorem d_MD_items_5 : decode prog_12_method_22_code 5 = .ok (.aload_n 0, 1) := by decide +kernel
theorem d_MD_items_6 : decode prog_12_method_22_code 6 = .ok (.getfield 124, 3) := by decide +kernel
theorem d_MD_items_9 : decode prog_12_method_22_code 9 = .ok (.ireturn, 1) := by decide +kernel
def y_MD_pages : MethodName := ⟨"PageMakerModel", "pages", "()I"⟩
def w_MD_pages : List Cond := .code y_MD_pages prog_12_method_23_code 1 (some .int) :: TB
theorem d_MD_pages_0 : decode prog_12_method_23_code 0 = .ok (.aload_n 0, 1) := by decide +kernel
theorem d_MD_pages_1 : decode prog_12_method_23_code 1 = .ok (.iconst 0, 1) := by decide +kernel
theorem d_MD_pages_2 : decode prog_12_method_23_code 2 = .ok (.putfield 70, 3) := by decide +kernel
theorem d_MD_pages_5 : decode prog_12_method_23_code 5 = .ok (.aload_n 0, 1) := by decide +kernel
theorem d_MD_pages_6 : decode prog_12_method_23_code 6 = .ok (.getfield 134, 3) := by decide +kernel
theorem d_MD_pages_9 : decode prog_12_method_23_code 9 = .ok (.ireturn, 1) := by decide +kernel
def y_MD_orderOf : MethodName := ⟨"PageMakerModel", "orderOf", "(J)I"⟩
def w_MD_orderOf : List Cond := .code y_MD_orderOf prog_12_method_24_code 5 (some .int) :: TB
theorem d_MD_orderOf_0 : decode prog_12_method_24_code 0 = .ok (.iconst 0, 1) := by decide +kernel
theorem d_MD_orderOf_1 : decode prog_12_method_24_code 1 = .ok (.istore_n 3, 1) := by decide +kernel
theorem d_MD_orderOf_2 : decode prog_12_method_24_code 2 = .ok (.iconst 1, 1) := by decide +kernel
theorem d_MD_orderOf_3 : decode prog_12_method_24_code 3 = .ok (.istore 4, 2) := by decide +kernel
theorem d_MD_orderOf_5 : decode prog_12_method_24_code 5 = .ok (.iload 4, 2) := by decide +kernel
theorem d_MD_orderOf_7 : decode prog_12_method_24_code 7 = .ok (.iconst 4, 1) := by decide +kernel
theorem d_MD_orderOf_8 : decode prog_12_method_24_code 8 = .ok (.if_icmp .ge 34, 3) := by decide +kernel
theorem d_MD_orderOf_11 : decode prog_12_method_24_code 11 = .ok (.lload_n 1, 1) := by decide +kernel
theorem d_MD_orderOf_12 : decode prog_12_method_24_code 12 = .ok (.lconst 0, 1) := by decide +kernel
theorem d_MD_orderOf_13 : decode prog_12_method_24_code 13 = .ok (.lcmp, 1) := by decide +kernel
theorem d_MD_orderOf_14 : decode prog_12_method_24_code 14 = .ok (.ifCond .le 28, 3) := by decide +kernel
theorem d_MD_orderOf_17 : decode prog_12_method_24_code 17 = .ok (.aload_n 0, 1) := by decide +kernel
theorem d_MD_orderOf_18 : decode prog_12_method_24_code 18 = .ok (.getfield 59, 3) := by decide +kernel
theorem d_MD_orderOf_21 : decode prog_12_method_24_code 21 = .ok (.iload 4, 2) := by decide +kernel
theorem d_MD_orderOf_23 : decode prog_12_method_24_code 23 = .ok (.laload, 1) := by decide +kernel
theorem d_MD_orderOf_24 : decode prog_12_method_24_code 24 = .ok (.lconst 0, 1) := by decide +kernel
theorem d_MD_orderOf_25 : decode prog_12_method_24_code 25 = .ok (.lcmp, 1) := by decide +kernel
theorem d_MD_orderOf_26 : decode prog_12_method_24_code 26 = .ok (.ifCond .le 8, 3) := by decide +kernel
theorem d_MD_orderOf_29 : decode prog_12_method_24_code 29 = .ok (.iload 4, 2) := by decide +kernel
theorem d_MD_orderOf_31 : decode prog_12_method_24_code 31 = .ok (.goto 4, 3) := by decide +kernel
theorem d_MD_orderOf_34 : decode prog_12_method_24_code 34 = .ok (.iload_n 3, 1) := by decide +kernel
theorem d_MD_orderOf_35 : decode prog_12_method_24_code 35 = .ok (.istore_n 3, 1) := by decide +kernel
theorem d_MD_orderOf_36 : decode prog_12_method_24_code 36 = .ok (.iinc 4 1, 3) := by decide +kernel
theorem d_MD_orderOf_39 : decode prog_12_method_24_code 39 = .ok (.goto (-34), 3) := by decide +kernel
theorem d_MD_orderOf_42 : decode prog_12_method_24_code 42 = .ok (.iload_n 3, 1) := by decide +kernel
theorem d_MD_orderOf_43 : decode prog_12_method_24_code 43 = .ok (.ireturn, 1) := by decide +kernel
def y_MD_page : MethodName := ⟨"PageMakerModel", "page", "(II)J"⟩
def w_MD_page : List Cond := .code y_MD_page prog_12_method_25_code 5 (some .long) :: TB
theorem d_MD_page_0 : decode prog_12_method_25_code 0 = .ok (.aload_n 0, 1) := by decide +kernel
theorem d_MD_page_1 : decode prog_12_method_25_code 1 = .ok (.iload_n 1, 1) := by decide +kernel
theorem d_MD_page_2 : decode prog_12_method_25_code 2 = .ok (.ifCond .lt 21, 3) := by decide +kernel
theorem d_MD_page_5 : decode prog_12_method_25_code 5 = .ok (.iload_n 1, 1) := by decide +kernel
theorem d_MD_page_6 : decode prog_12_method_25_code 6 = .ok (.aload_n 0, 1) := by decide +kernel
theorem d_MD_page_7 : decode prog_12_method_25_code 7 = .ok (.getfield 134, 3) := by decide +kernel
theorem d_MD_page_10 : decode prog_12_method_25_code 10 = .ok (.if_icmp .ge 13, 3) := by decide +kernel
theorem d_MD_page_13 : decode prog_12_method_25_code 13 = .ok (.iload_n 2, 1) := by decide +kernel
theorem d_MD_page_14 : decode prog_12_method_25_code 14 = .ok (.ifCond .lt 9, 3) := by decide +kernel
theorem d_MD_page_17 : decode prog_12_method_25_code 17 = .ok (.iload_n 2, 1) := by decide +kernel
theorem d_MD_page_18 : decode prog_12_method_25_code 18 = .ok (.bipush 7, 2) := by decide +kernel
theorem d_MD_page_20 : decode prog_12_method_25_code 20 = .ok (.if_icmp .le 7, 3) := by decide +kernel
theorem d_MD_page_23 : decode prog_12_method_25_code 23 = .ok (.iconst 1, 1) := by decide +kernel
theorem d_MD_page_24 : decode prog_12_method_25_code 24 = .ok (.goto 4, 3) := by decide +kernel
theorem d_MD_page_27 : decode prog_12_method_25_code 27 = .ok (.iconst 0, 1) := by decide +kernel
theorem d_MD_page_28 : decode prog_12_method_25_code 28 = .ok (.putfield 70, 3) := by decide +kernel
theorem d_MD_page_31 : decode prog_12_method_25_code 31 = .ok (.aload_n 0, 1) := by decide +kernel
theorem d_MD_page_32 : decode prog_12_method_25_code 32 = .ok (.getfield 70, 3) := by decide +kernel
theorem d_MD_page_35 : decode prog_12_method_25_code 35 = .ok (.ifCond .le 5, 3) := by decide +kernel
theorem d_MD_page_38 : decode prog_12_method_25_code 38 = .ok (.lconst 0, 1) := by decide +kernel
theorem d_MD_page_39 : decode prog_12_method_25_code 39 = .ok (.lreturn, 1) := by decide +kernel
theorem d_MD_page_40 : decode prog_12_method_25_code 40 = .ok (.aload_n 0, 1) := by decide +kernel
theorem d_MD_page_41 : decode prog_12_method_25_code 41 = .ok (.iload_n 1, 1) := by decide +kernel
theorem d_MD_page_42 : decode prog_12_method_25_code 42 = .ok (.aload_n 0, 1) := by decide +kernel
theorem d_MD_page_43 : decode prog_12_method_25_code 43 = .ok (.getfield 50, 3) := by decide +kernel
theorem d_MD_page_46 : decode prog_12_method_25_code 46 = .ok (.iload_n 1, 1) := by decide +kernel
theorem d_MD_page_47 : decode prog_12_method_25_code 47 = .ok (.iaload, 1) := by decide +kernel
theorem d_MD_page_48 : decode prog_12_method_25_code 48 = .ok (.invokevirtual 159, 3) := by decide +kernel
theorem d_MD_page_51 : decode prog_12_method_25_code 51 = .ok (.aload_n 0, 1) := by decide +kernel
theorem d_MD_page_52 : decode prog_12_method_25_code 52 = .ok (.getfield 38, 3) := by decide +kernel
theorem d_MD_page_55 : decode prog_12_method_25_code 55 = .ok (.iload_n 1, 1) := by decide +kernel
theorem d_MD_page_56 : decode prog_12_method_25_code 56 = .ok (.iaload, 1) := by decide +kernel
theorem d_MD_page_57 : decode prog_12_method_25_code 57 = .ok (.i2l, 1) := by decide +kernel
theorem d_MD_page_58 : decode prog_12_method_25_code 58 = .ok (.aload_n 0, 1) := by decide +kernel
theorem d_MD_page_59 : decode prog_12_method_25_code 59 = .ok (.getfield 81, 3) := by decide +kernel
theorem d_MD_page_62 : decode prog_12_method_25_code 62 = .ok (.lsub, 1) := by decide +kernel
theorem d_MD_page_63 : decode prog_12_method_25_code 63 = .ok (.lstore_n 3, 1) := by decide +kernel
theorem d_MD_page_64 : decode prog_12_method_25_code 64 = .ok (.iload_n 2, 1) := by decide +kernel
theorem d_MD_page_65 : decode prog_12_method_25_code 65 = .ok (.tableswitch 117 0 6 #[43, 51, 59, 67, 69, 76, 110], 43) := by decide +kernel
theorem d_MD_page_108 : decode prog_12_method_25_code 108 = .ok (.aload_n 0, 1) := by decide +kernel
theorem d_MD_page_109 : decode prog_12_method_25_code 109 = .ok (.getfield 47, 3) := by decide +kernel
theorem d_MD_page_112 : decode prog_12_method_25_code 112 = .ok (.iload_n 1, 1) := by decide +kernel
theorem d_MD_page_113 : decode prog_12_method_25_code 113 = .ok (.iaload, 1) := by decide +kernel
theorem d_MD_page_114 : decode prog_12_method_25_code 114 = .ok (.i2l, 1) := by decide +kernel
theorem d_MD_page_115 : decode prog_12_method_25_code 115 = .ok (.lreturn, 1) := by decide +kernel
theorem d_MD_page_116 : decode prog_12_method_25_code 116 = .ok (.aload_n 0, 1) := by decide +kernel
theorem d_MD_page_117 : decode prog_12_method_25_code 117 = .ok (.getfield 50, 3) := by decide +kernel
theorem d_MD_page_120 : decode prog_12_method_25_code 120 = .ok (.iload_n 1, 1) := by decide +kernel
theorem d_MD_page_121 : decode prog_12_method_25_code 121 = .ok (.iaload, 1) := by decide +kernel
theorem d_MD_page_122 : decode prog_12_method_25_code 122 = .ok (.i2l, 1) := by decide +kernel
theorem d_MD_page_123 : decode prog_12_method_25_code 123 = .ok (.lreturn, 1) := by decide +kernel
theorem d_MD_page_124 : decode prog_12_method_25_code 124 = .ok (.aload_n 0, 1) := by decide +kernel
theorem d_MD_page_125 : decode prog_12_method_25_code 125 = .ok (.getfield 53, 3) := by decide +kernel
theorem d_MD_page_128 : decode prog_12_method_25_code 128 = .ok (.iload_n 1, 1) := by decide +kernel
theorem d_MD_page_129 : decode prog_12_method_25_code 129 = .ok (.iaload, 1) := by decide +kernel
theorem d_MD_page_130 : decode prog_12_method_25_code 130 = .ok (.i2l, 1) := by decide +kernel
theorem d_MD_page_131 : decode prog_12_method_25_code 131 = .ok (.lreturn, 1) := by decide +kernel
theorem d_MD_page_132 : decode prog_12_method_25_code 132 = .ok (.lload_n 3, 1) := by decide +kernel
theorem d_MD_page_133 : decode prog_12_method_25_code 133 = .ok (.lreturn, 1) := by decide +kernel
theorem d_MD_page_134 : decode prog_12_method_25_code 134 = .ok (.aload_n 0, 1) := by decide +kernel
theorem d_MD_page_135 : decode prog_12_method_25_code 135 = .ok (.lload_n 3, 1) := by decide +kernel
theorem d_MD_page_136 : decode prog_12_method_25_code 136 = .ok (.invokevirtual 162, 3) := by decide +kernel
theorem d_MD_page_139 : decode prog_12_method_25_code 139 = .ok (.i2l, 1) := by decide +kernel
theorem d_MD_page_140 : decode prog_12_method_25_code 140 = .ok (.lreturn, 1) := by decide +kernel
theorem d_MD_page_141 : decode prog_12_method_25_code 141 = .ok (.lload_n 3, 1) := by decide +kernel
theorem d_MD_page_142 : decode prog_12_method_25_code 142 = .ok (.lconst 0, 1) := by decide +kernel
theorem d_MD_page_143 : decode prog_12_method_25_code 143 = .ok (.lcmp, 1) := by decide +kernel
theorem d_MD_page_144 : decode prog_12_method_25_code 144 = .ok (.ifCond .le 16, 3) := by decide +kernel
theorem d_MD_page_147 : decode prog_12_method_25_code 147 = .ok (.aload_n 0, 1) := by decide +kernel
theorem d_MD_page_148 : decode prog_12_method_25_code 148 = .ok (.getfield 59, 3) := by decide +kernel
theorem d_MD_page_151 : decode prog_12_method_25_code 151 = .ok (.aload_n 0, 1) := by decide +kernel
theorem d_MD_page_152 : decode prog_12_method_25_code 152 = .ok (.lload_n 3, 1) := by decide +kernel
theorem d_MD_page_153 : decode prog_12_method_25_code 153 = .ok (.invokevirtual 162, 3) := by decide +kernel
theorem d_MD_page_156 : decode prog_12_method_25_code 156 = .ok (.laload, 1) := by decide +kernel
theorem d_MD_page_157 : decode prog_12_method_25_code 157 = .ok (.goto 17, 3) := by decide +kernel
theorem d_MD_page_160 : decode prog_12_method_25_code 160 = .ok (.lload_n 3, 1) := by decide +kernel
theorem d_MD_page_161 : decode prog_12_method_25_code 161 = .ok (.lconst 0, 1) := by decide +kernel
theorem d_MD_page_162 : decode prog_12_method_25_code 162 = .ok (.lcmp, 1) := by decide +kernel
theorem d_MD_page_163 : decode prog_12_method_25_code 163 = .ok (.ifCond .ge 10, 3) := by decide +kernel
theorem d_MD_page_166 : decode prog_12_method_25_code 166 = .ok (.aload_n 0, 1) := by decide +kernel
theorem d_MD_page_167 : decode prog_12_method_25_code 167 = .ok (.getfield 88, 3) := by decide +kernel
theorem d_MD_page_170 : decode prog_12_method_25_code 170 = .ok (.goto 4, 3) := by decide +kernel
theorem d_MD_page_173 : decode prog_12_method_25_code 173 = .ok (.lconst 0, 1) := by decide +kernel
theorem d_MD_page_174 : decode prog_12_method_25_code 174 = .ok (.lreturn, 1) := by decide +kernel
theorem d_MD_page_175 : decode prog_12_method_25_code 175 = .ok (.aload_n 0, 1) := by decide +kernel
theorem d_MD_page_176 : decode prog_12_method_25_code 176 = .ok (.iload_n 1, 1) := by decide +kernel
theorem d_MD_page_177 : decode prog_12_method_25_code 177 = .ok (.invokevirtual 119, 3) := by decide +kernel
theorem d_MD_page_180 : decode prog_12_method_25_code 180 = .ok (.i2l, 1) := by decide +kernel
theorem d_MD_page_181 : decode prog_12_method_25_code 181 = .ok (.lreturn, 1) := by decide +kernel
theorem d_MD_page_182 : decode prog_12_method_25_code 182 = .ok (.aload_n 0, 1) := by decide +kernel
theorem d_MD_page_183 : decode prog_12_method_25_code 183 = .ok (.getfield 56, 3) := by decide +kernel
theorem d_MD_page_186 : decode prog_12_method_25_code 186 = .ok (.iload_n 1, 1) := by decide +kernel
theorem d_MD_page_187 : decode prog_12_method_25_code 187 = .ok (.iaload, 1) := by decide +kernel
theorem d_MD_page_188 : decode prog_12_method_25_code 188 = .ok (.i2l, 1) := by decide +kernel
theorem d_MD_page_189 : decode prog_12_method_25_code 189 = .ok (.lreturn, 1) := by decide +kernel
def y_MD_nearest : MethodName := ⟨"PageMakerModel", "nearest", "(JJJ)J"⟩
def w_MD_nearest : List Cond := .code y_MD_nearest prog_12_method_26_code 11 (some .long) :: TB
theorem d_MD_nearest_0 : decode prog_12_method_26_code 0 = .ok (.lconst 0, 1) := by decide +kernel
theorem d_MD_nearest_1 : decode prog_12_method_26_code 1 = .ok (.lstore 6, 2) := by decide +kernel
theorem d_MD_nearest_3 : decode prog_12_method_26_code 3 = .ok (.lconst 0, 1) := by decide +kernel
theorem d_MD_nearest_4 : decode prog_12_method_26_code 4 = .ok (.lstore 8, 2) := by decide +kernel
theorem d_MD_nearest_6 : decode prog_12_method_26_code 6 = .ok (.bipush 60, 2) := by decide +kernel
theorem d_MD_nearest_8 : decode prog_12_method_26_code 8 = .ok (.istore 10, 2) := by decide +kernel
theorem d_MD_nearest_10 : decode prog_12_method_26_code 10 = .ok (.iload 10, 2) := by decide +kernel
theorem d_MD_nearest_12 : decode prog_12_method_26_code 12 = .ok (.ifCond .lt 49, 3) := by decide +kernel
theorem d_MD_nearest_15 : decode prog_12_method_26_code 15 = .ok (.lload 8, 2) := by decide +kernel
theorem d_MD_nearest_17 : decode prog_12_method_26_code 17 = .ok (.ldc2_w 166, 3) := by decide +kernel
theorem d_MD_nearest_20 : decode prog_12_method_26_code 20 = .ok (.lmul, 1) := by decide +kernel
theorem d_MD_nearest_21 : decode prog_12_method_26_code 21 = .ok (.lload_n 0, 1) := by decide +kernel
theorem d_MD_nearest_22 : decode prog_12_method_26_code 22 = .ok (.iload 10, 2) := by decide +kernel
theorem d_MD_nearest_24 : decode prog_12_method_26_code 24 = .ok (.lshr, 1) := by decide +kernel
theorem d_MD_nearest_25 : decode prog_12_method_26_code 25 = .ok (.ldc2_w 168, 3) := by decide +kernel
theorem d_MD_nearest_28 : decode prog_12_method_26_code 28 = .ok (.land, 1) := by decide +kernel
theorem d_MD_nearest_29 : decode prog_12_method_26_code 29 = .ok (.lload_n 2, 1) := by decide +kernel
theorem d_MD_nearest_30 : decode prog_12_method_26_code 30 = .ok (.lmul, 1) := by decide +kernel
theorem d_MD_nearest_31 : decode prog_12_method_26_code 31 = .ok (.ladd, 1) := by decide +kernel
theorem d_MD_nearest_32 : decode prog_12_method_26_code 32 = .ok (.lstore 8, 2) := by decide +kernel
theorem d_MD_nearest_34 : decode prog_12_method_26_code 34 = .ok (.lload 6, 2) := by decide +kernel
theorem d_MD_nearest_36 : decode prog_12_method_26_code 36 = .ok (.ldc2_w 166, 3) := by decide +kernel
theorem d_MD_nearest_39 : decode prog_12_method_26_code 39 = .ok (.lmul, 1) := by decide +kernel
theorem d_MD_nearest_40 : decode prog_12_method_26_code 40 = .ok (.lload 8, 2) := by decide +kernel
theorem d_MD_nearest_42 : decode prog_12_method_26_code 42 = .ok (.lload 4, 2) := by decide +kernel
theorem d_MD_nearest_44 : decode prog_12_method_26_code 44 = .ok (.ldiv, 1) := by decide +kernel
theorem d_MD_nearest_45 : decode prog_12_method_26_code 45 = .ok (.ladd, 1) := by decide +kernel
theorem d_MD_nearest_46 : decode prog_12_method_26_code 46 = .ok (.lstore 6, 2) := by decide +kernel
theorem d_MD_nearest_48 : decode prog_12_method_26_code 48 = .ok (.lload 8, 2) := by decide +kernel
theorem d_MD_nearest_50 : decode prog_12_method_26_code 50 = .ok (.lload 4, 2) := by decide +kernel
theorem d_MD_nearest_52 : decode prog_12_method_26_code 52 = .ok (.lrem, 1) := by decide +kernel
theorem d_MD_nearest_53 : decode prog_12_method_26_code 53 = .ok (.lstore 8, 2) := by decide +kernel
theorem d_MD_nearest_55 : decode prog_12_method_26_code 55 = .ok (.iinc 10 (-20), 3) := by decide +kernel
theorem d_MD_nearest_58 : decode prog_12_method_26_code 58 = .ok (.goto (-48), 3) := by decide +kernel
theorem d_MD_nearest_61 : decode prog_12_method_26_code 61 = .ok (.lload 8, 2) := by decide +kernel
theorem d_MD_nearest_63 : decode prog_12_method_26_code 63 = .ok (.lload 4, 2) := by decide +kernel
theorem d_MD_nearest_65 : decode prog_12_method_26_code 65 = .ok (.lload 8, 2) := by decide +kernel
theorem d_MD_nearest_67 : decode prog_12_method_26_code 67 = .ok (.lsub, 1) := by decide +kernel
theorem d_MD_nearest_68 : decode prog_12_method_26_code 68 = .ok (.lcmp, 1) := by decide +kernel
theorem d_MD_nearest_69 : decode prog_12_method_26_code 69 = .ok (.ifCond .lt 10, 3) := by decide +kernel
theorem d_MD_nearest_72 : decode prog_12_method_26_code 72 = .ok (.lload 6, 2) := by decide +kernel
theorem d_MD_nearest_74 : decode prog_12_method_26_code 74 = .ok (.lconst 1, 1) := by decide +kernel
theorem d_MD_nearest_75 : decode prog_12_method_26_code 75 = .ok (.ladd, 1) := by decide +kernel
theorem d_MD_nearest_76 : decode prog_12_method_26_code 76 = .ok (.goto 5, 3) := by decide +kernel
theorem d_MD_nearest_79 : decode prog_12_method_26_code 79 = .ok (.lload 6, 2) := by decide +kernel
theorem d_MD_nearest_81 : decode prog_12_method_26_code 81 = .ok (.lreturn, 1) := by decide +kernel
def y_MD_stands : MethodName := ⟨"PageMakerModel", "stands", "(II)J"⟩
def w_MD_stands : List Cond := .code y_MD_stands prog_12_method_27_code 11 (some .long) :: TB
theorem d_MD_stands_0 : decode prog_12_method_27_code 0 = .ok (.iload_n 1, 1) := by decide +kernel
theorem d_MD_stands_1 : decode prog_12_method_27_code 1 = .ok (.ifCond .lt 44, 3) := by decide +kernel
theorem d_MD_stands_4 : decode prog_12_method_27_code 4 = .ok (.iload_n 1, 1) := by decide +kernel
theorem d_MD_stands_5 : decode prog_12_method_27_code 5 = .ok (.aload_n 0, 1) := by decide +kernel
theorem d_MD_stands_6 : decode prog_12_method_27_code 6 = .ok (.getfield 134, 3) := by decide +kernel
theorem d_MD_stands_9 : decode prog_12_method_27_code 9 = .ok (.if_icmp .ge 36, 3) := by decide +kernel
theorem d_MD_stands_12 : decode prog_12_method_27_code 12 = .ok (.iload_n 2, 1) := by decide +kernel
theorem d_MD_stands_13 : decode prog_12_method_27_code 13 = .ok (.aload_n 0, 1) := by decide +kernel
theorem d_MD_stands_14 : decode prog_12_method_27_code 14 = .ok (.getfield 47, 3) := by decide +kernel
theorem d_MD_stands_17 : decode prog_12_method_27_code 17 = .ok (.iload_n 1, 1) := by decide +kernel
theorem d_MD_stands_18 : decode prog_12_method_27_code 18 = .ok (.iaload, 1) := by decide +kernel
theorem d_MD_stands_19 : decode prog_12_method_27_code 19 = .ok (.if_icmp .lt 26, 3) := by decide +kernel
theorem d_MD_stands_22 : decode prog_12_method_27_code 22 = .ok (.iload_n 2, 1) := by decide +kernel
theorem d_MD_stands_23 : decode prog_12_method_27_code 23 = .ok (.aload_n 0, 1) := by decide +kernel
theorem d_MD_stands_24 : decode prog_12_method_27_code 24 = .ok (.getfield 50, 3) := by decide +kernel
theorem d_MD_stands_27 : decode prog_12_method_27_code 27 = .ok (.iload_n 1, 1) := by decide +kernel
theorem d_MD_stands_28 : decode prog_12_method_27_code 28 = .ok (.iaload, 1) := by decide +kernel
theorem d_MD_stands_29 : decode prog_12_method_27_code 29 = .ok (.if_icmp .ge 16, 3) := by decide +kernel
theorem d_MD_stands_32 : decode prog_12_method_27_code 32 = .ok (.aload_n 0, 1) := by decide +kernel
theorem d_MD_stands_33 : decode prog_12_method_27_code 33 = .ok (.getfield 7, 3) := by decide +kernel
theorem d_MD_stands_36 : decode prog_12_method_27_code 36 = .ok (.iload_n 2, 1) := by decide +kernel
theorem d_MD_stands_37 : decode prog_12_method_27_code 37 = .ok (.iaload, 1) := by decide +kernel
theorem d_MD_stands_38 : decode prog_12_method_27_code 38 = .ok (.ifCond .ne 7, 3) := by decide +kernel
theorem d_MD_stands_41 : decode prog_12_method_27_code 41 = .ok (.iconst 1, 1) := by decide +kernel
theorem d_MD_stands_42 : decode prog_12_method_27_code 42 = .ok (.goto 4, 3) := by decide +kernel
theorem d_MD_stands_45 : decode prog_12_method_27_code 45 = .ok (.iconst 0, 1) := by decide +kernel
theorem d_MD_stands_46 : decode prog_12_method_27_code 46 = .ok (.istore_n 3, 1) := by decide +kernel
theorem d_MD_stands_47 : decode prog_12_method_27_code 47 = .ok (.aload_n 0, 1) := by decide +kernel
theorem d_MD_stands_48 : decode prog_12_method_27_code 48 = .ok (.iload_n 3, 1) := by decide +kernel
theorem d_MD_stands_49 : decode prog_12_method_27_code 49 = .ok (.ifCond .eq 7, 3) := by decide +kernel
theorem d_MD_stands_52 : decode prog_12_method_27_code 52 = .ok (.iconst 0, 1) := by decide +kernel
theorem d_MD_stands_53 : decode prog_12_method_27_code 53 = .ok (.goto 4, 3) := by decide +kernel
theorem d_MD_stands_56 : decode prog_12_method_27_code 56 = .ok (.iconst 1, 1) := by decide +kernel
theorem d_MD_stands_57 : decode prog_12_method_27_code 57 = .ok (.putfield 70, 3) := by decide +kernel
theorem d_MD_stands_60 : decode prog_12_method_27_code 60 = .ok (.iload_n 3, 1) := by decide +kernel
theorem d_MD_stands_61 : decode prog_12_method_27_code 61 = .ok (.ifCond .ne 5, 3) := by decide +kernel
theorem d_MD_stands_64 : decode prog_12_method_27_code 64 = .ok (.lconst 0, 1) := by decide +kernel
theorem d_MD_stands_65 : decode prog_12_method_27_code 65 = .ok (.lreturn, 1) := by decide +kernel
theorem d_MD_stands_66 : decode prog_12_method_27_code 66 = .ok (.aload_n 0, 1) := by decide +kernel
theorem d_MD_stands_67 : decode prog_12_method_27_code 67 = .ok (.iload_n 1, 1) := by decide +kernel
theorem d_MD_stands_68 : decode prog_12_method_27_code 68 = .ok (.aload_n 0, 1) := by decide +kernel
theorem d_MD_stands_69 : decode prog_12_method_27_code 69 = .ok (.getfield 50, 3) := by decide +kernel
theorem d_MD_stands_72 : decode prog_12_method_27_code 72 = .ok (.iload_n 1, 1) := by decide +kernel
theorem d_MD_stands_73 : decode prog_12_method_27_code 73 = .ok (.iaload, 1) := by decide +kernel
theorem d_MD_stands_74 : decode prog_12_method_27_code 74 = .ok (.invokevirtual 159, 3) := by decide +kernel
theorem d_MD_stands_77 : decode prog_12_method_27_code 77 = .ok (.aload_n 0, 1) := by decide +kernel
theorem d_MD_stands_78 : decode prog_12_method_27_code 78 = .ok (.getfield 38, 3) := by decide +kernel
theorem d_MD_stands_81 : decode prog_12_method_27_code 81 = .ok (.iload_n 1, 1) := by decide +kernel
theorem d_MD_stands_82 : decode prog_12_method_27_code 82 = .ok (.iaload, 1) := by decide +kernel
theorem d_MD_stands_83 : decode prog_12_method_27_code 83 = .ok (.i2l, 1) := by decide +kernel
theorem d_MD_stands_84 : decode prog_12_method_27_code 84 = .ok (.aload_n 0, 1) := by decide +kernel
theorem d_MD_stands_85 : decode prog_12_method_27_code 85 = .ok (.getfield 81, 3) := by decide +kernel
theorem d_MD_stands_88 : decode prog_12_method_27_code 88 = .ok (.lsub, 1) := by decide +kernel
theorem d_MD_stands_89 : decode prog_12_method_27_code 89 = .ok (.lstore 4, 2) := by decide +kernel
theorem d_MD_stands_91 : decode prog_12_method_27_code 91 = .ok (.aload_n 0, 1) := by decide +kernel
theorem d_MD_stands_92 : decode prog_12_method_27_code 92 = .ok (.lload 4, 2) := by decide +kernel
theorem d_MD_stands_94 : decode prog_12_method_27_code 94 = .ok (.invokevirtual 162, 3) := by decide +kernel
theorem d_MD_stands_97 : decode prog_12_method_27_code 97 = .ok (.istore 6, 2) := by decide +kernel
theorem d_MD_stands_99 : decode prog_12_method_27_code 99 = .ok (.lload 4, 2) := by decide +kernel
theorem d_MD_stands_101 : decode prog_12_method_27_code 101 = .ok (.lconst 0, 1) := by decide +kernel
theorem d_MD_stands_102 : decode prog_12_method_27_code 102 = .ok (.lcmp, 1) := by decide +kernel
theorem d_MD_stands_103 : decode prog_12_method_27_code 103 = .ok (.ifCond .le 13, 3) := by decide +kernel
theorem d_MD_stands_106 : decode prog_12_method_27_code 106 = .ok (.aload_n 0, 1) := by decide +kernel
theorem d_MD_stands_107 : decode prog_12_method_27_code 107 = .ok (.getfield 59, 3) := by decide +kernel
theorem d_MD_stands_110 : decode prog_12_method_27_code 110 = .ok (.iload 6, 2) := by decide +kernel
theorem d_MD_stands_112 : decode prog_12_method_27_code 112 = .ok (.laload, 1) := by decide +kernel
theorem d_MD_stands_113 : decode prog_12_method_27_code 113 = .ok (.goto 7, 3) := by decide +kernel
theorem d_MD_stands_116 : decode prog_12_method_27_code 116 = .ok (.aload_n 0, 1) := by decide +kernel
theorem d_MD_stands_117 : decode prog_12_method_27_code 117 = .ok (.getfield 88, 3) := by decide +kernel
theorem d_MD_stands_120 : decode prog_12_method_27_code 120 = .ok (.lstore 7, 2) := by decide +kernel
theorem d_MD_stands_122 : decode prog_12_method_27_code 122 = .ok (.aload_n 0, 1) := by decide +kernel
theorem d_MD_stands_123 : decode prog_12_method_27_code 123 = .ok (.iload_n 1, 1) := by decide +kernel
theorem d_MD_stands_124 : decode prog_12_method_27_code 124 = .ok (.iload_n 2, 1) := by decide +kernel
theorem d_MD_stands_125 : decode prog_12_method_27_code 125 = .ok (.invokevirtual 159, 3) := by decide +kernel
theorem d_MD_stands_128 : decode prog_12_method_27_code 128 = .ok (.aload_n 0, 1) := by decide +kernel
theorem d_MD_stands_129 : decode prog_12_method_27_code 129 = .ok (.getfield 81, 3) := by decide +kernel
theorem d_MD_stands_132 : decode prog_12_method_27_code 132 = .ok (.aload_n 0, 1) := by decide +kernel
theorem d_MD_stands_133 : decode prog_12_method_27_code 133 = .ok (.getfield 85, 3) := by decide +kernel
theorem d_MD_stands_136 : decode prog_12_method_27_code 136 = .ok (.ladd, 1) := by decide +kernel
theorem d_MD_stands_137 : decode prog_12_method_27_code 137 = .ok (.aload_n 0, 1) := by decide +kernel
theorem d_MD_stands_138 : decode prog_12_method_27_code 138 = .ok (.getfield 16, 3) := by decide +kernel
theorem d_MD_stands_141 : decode prog_12_method_27_code 141 = .ok (.iload_n 2, 1) := by decide +kernel
theorem d_MD_stands_142 : decode prog_12_method_27_code 142 = .ok (.iaload, 1) := by decide +kernel
theorem d_MD_stands_143 : decode prog_12_method_27_code 143 = .ok (.i2l, 1) := by decide +kernel
theorem d_MD_stands_144 : decode prog_12_method_27_code 144 = .ok (.ladd, 1) := by decide +kernel
theorem d_MD_stands_145 : decode prog_12_method_27_code 145 = .ok (.lstore 9, 2) := by decide +kernel
theorem d_MD_stands_147 : decode prog_12_method_27_code 147 = .ok (.lload 4, 2) := by decide +kernel
theorem d_MD_stands_149 : decode prog_12_method_27_code 149 = .ok (.lconst 0, 1) := by decide +kernel
theorem d_MD_stands_150 : decode prog_12_method_27_code 150 = .ok (.lcmp, 1) := by decide +kernel
theorem d_MD_stands_151 : decode prog_12_method_27_code 151 = .ok (.ifCond .eq 10, 3) := by decide +kernel
theorem d_MD_stands_154 : decode prog_12_method_27_code 154 = .ok (.lload 7, 2) := by decide +kernel
theorem d_MD_stands_156 : decode prog_12_method_27_code 156 = .ok (.lconst 0, 1) := by decide +kernel
theorem d_MD_stands_157 : decode prog_12_method_27_code 157 = .ok (.lcmp, 1) := by decide +kernel
theorem d_MD_stands_158 : decode prog_12_method_27_code 158 = .ok (.ifCond .ne 6, 3) := by decide +kernel
theorem d_MD_stands_161 : decode prog_12_method_27_code 161 = .ok (.lload 9, 2) := by decide +kernel
theorem d_MD_stands_163 : decode prog_12_method_27_code 163 = .ok (.lreturn, 1) := by decide +kernel
theorem d_MD_stands_164 : decode prog_12_method_27_code 164 = .ok (.lload 4, 2) := by decide +kernel
theorem d_MD_stands_166 : decode prog_12_method_27_code 166 = .ok (.lconst 0, 1) := by decide +kernel
theorem d_MD_stands_167 : decode prog_12_method_27_code 167 = .ok (.lcmp, 1) := by decide +kernel
theorem d_MD_stands_168 : decode prog_12_method_27_code 168 = .ok (.ifCond .le 21, 3) := by decide +kernel
theorem d_MD_stands_171 : decode prog_12_method_27_code 171 = .ok (.lload 9, 2) := by decide +kernel
theorem d_MD_stands_173 : decode prog_12_method_27_code 173 = .ok (.lload 4, 2) := by decide +kernel
theorem d_MD_stands_175 : decode prog_12_method_27_code 175 = .ok (.aload_n 0, 1) := by decide +kernel
theorem d_MD_stands_176 : decode prog_12_method_27_code 176 = .ok (.getfield 59, 3) := by decide +kernel
theorem d_MD_stands_179 : decode prog_12_method_27_code 179 = .ok (.iload 6, 2) := by decide +kernel
theorem d_MD_stands_181 : decode prog_12_method_27_code 181 = .ok (.laload, 1) := by decide +kernel
theorem d_MD_stands_182 : decode prog_12_method_27_code 182 = .ok (.lload 7, 2) := by decide +kernel
theorem d_MD_stands_184 : decode prog_12_method_27_code 184 = .ok (.invokestatic 170, 3) := by decide +kernel
theorem d_MD_stands_187 : decode prog_12_method_27_code 187 = .ok (.ladd, 1) := by decide +kernel
theorem d_MD_stands_188 : decode prog_12_method_27_code 188 = .ok (.lreturn, 1) := by decide +kernel
theorem d_MD_stands_189 : decode prog_12_method_27_code 189 = .ok (.lload 9, 2) := by decide +kernel
theorem d_MD_stands_191 : decode prog_12_method_27_code 191 = .ok (.lload 4, 2) := by decide +kernel
theorem d_MD_stands_193 : decode prog_12_method_27_code 193 = .ok (.lneg, 1) := by decide +kernel
theorem d_MD_stands_194 : decode prog_12_method_27_code 194 = .ok (.lload 7, 2) := by decide +kernel
theorem d_MD_stands_196 : decode prog_12_method_27_code 196 = .ok (.lcmp, 1) := by decide +kernel
theorem d_MD_stands_197 : decode prog_12_method_27_code 197 = .ok (.ifCond .ge 9, 3) := by decide +kernel
theorem d_MD_stands_200 : decode prog_12_method_27_code 200 = .ok (.lload 4, 2) := by decide +kernel
theorem d_MD_stands_202 : decode prog_12_method_27_code 202 = .ok (.lneg, 1) := by decide +kernel
theorem d_MD_stands_203 : decode prog_12_method_27_code 203 = .ok (.goto 5, 3) := by decide +kernel
theorem d_MD_stands_206 : decode prog_12_method_27_code 206 = .ok (.lload 7, 2) := by decide +kernel
theorem d_MD_stands_208 : decode prog_12_method_27_code 208 = .ok (.aload_n 0, 1) := by decide +kernel
theorem d_MD_stands_209 : decode prog_12_method_27_code 209 = .ok (.getfield 88, 3) := by decide +kernel
theorem d_MD_stands_212 : decode prog_12_method_27_code 212 = .ok (.lload 7, 2) := by decide +kernel
theorem d_MD_stands_214 : decode prog_12_method_27_code 214 = .ok (.invokestatic 170, 3) := by decide +kernel
theorem d_MD_stands_217 : decode prog_12_method_27_code 217 = .ok (.lsub, 1) := by decide +kernel
theorem d_MD_stands_218 : decode prog_12_method_27_code 218 = .ok (.lreturn, 1) := by decide +kernel
def y_MD_where : MethodName := ⟨"PageMakerModel", "where", "(I)I"⟩
def w_MD_where : List Cond := .code y_MD_where prog_12_method_28_code 4 (some .int) :: TB
theorem d_MD_where_0 : decode prog_12_method_28_code 0 = .ok (.aload_n 0, 1) := by decide +kernel
theorem d_MD_where_1 : decode prog_12_method_28_code 1 = .ok (.iload_n 1, 1) := by decide +kernel
theorem d_MD_where_2 : decode prog_12_method_28_code 2 = .ok (.ifCond .lt 11, 3) := by decide +kernel
theorem d_MD_where_5 : decode prog_12_method_28_code 5 = .ok (.iload_n 1, 1) := by decide +kernel
theorem d_MD_where_6 : decode prog_12_method_28_code 6 = .ok (.aload_n 0, 1) := by decide +kernel
theorem d_MD_where_7 : decode prog_12_method_28_code 7 = .ok (.getfield 124, 3) := by decide +kernel
theorem d_MD_where_10 : decode prog_12_method_28_code 10 = .ok (.if_icmp .lt 7, 3) := by decide +kernel
theorem d_MD_where_13 : decode prog_12_method_28_code 13 = .ok (.iconst 1, 1) := by decide +kernel
theorem d_MD_where_14 : decode prog_12_method_28_code 14 = .ok (.goto 4, 3) := by decide +kernel
theorem d_MD_where_17 : decode prog_12_method_28_code 17 = .ok (.iconst 0, 1) := by decide +kernel
theorem d_MD_where_18 : decode prog_12_method_28_code 18 = .ok (.putfield 70, 3) := by decide +kernel
theorem d_MD_where_21 : decode prog_12_method_28_code 21 = .ok (.iconst (-1), 1) := by decide +kernel
theorem d_MD_where_22 : decode prog_12_method_28_code 22 = .ok (.istore_n 2, 1) := by decide +kernel
theorem d_MD_where_23 : decode prog_12_method_28_code 23 = .ok (.iconst 0, 1) := by decide +kernel
theorem d_MD_where_24 : decode prog_12_method_28_code 24 = .ok (.istore_n 3, 1) := by decide +kernel
theorem d_MD_where_25 : decode prog_12_method_28_code 25 = .ok (.iload_n 3, 1) := by decide +kernel
theorem d_MD_where_26 : decode prog_12_method_28_code 26 = .ok (.aload_n 0, 1) := by decide +kernel
theorem d_MD_where_27 : decode prog_12_method_28_code 27 = .ok (.getfield 134, 3) := by decide +kernel
theorem d_MD_where_30 : decode prog_12_method_28_code 30 = .ok (.if_icmp .ge 42, 3) := by decide +kernel
theorem d_MD_where_33 : decode prog_12_method_28_code 33 = .ok (.aload_n 0, 1) := by decide +kernel
theorem d_MD_where_34 : decode prog_12_method_28_code 34 = .ok (.getfield 70, 3) := by decide +kernel
theorem d_MD_where_37 : decode prog_12_method_28_code 37 = .ok (.ifCond .ne 35, 3) := by decide +kernel
theorem d_MD_where_40 : decode prog_12_method_28_code 40 = .ok (.iload_n 1, 1) := by decide +kernel
theorem d_MD_where_41 : decode prog_12_method_28_code 41 = .ok (.aload_n 0, 1) := by decide +kernel
theorem d_MD_where_42 : decode prog_12_method_28_code 42 = .ok (.getfield 47, 3) := by decide +kernel
theorem d_MD_where_45 : decode prog_12_method_28_code 45 = .ok (.iload_n 3, 1) := by decide +kernel
theorem d_MD_where_46 : decode prog_12_method_28_code 46 = .ok (.iaload, 1) := by decide +kernel
theorem d_MD_where_47 : decode prog_12_method_28_code 47 = .ok (.if_icmp .lt 17, 3) := by decide +kernel
theorem d_MD_where_50 : decode prog_12_method_28_code 50 = .ok (.iload_n 1, 1) := by decide +kernel
theorem d_MD_where_51 : decode prog_12_method_28_code 51 = .ok (.aload_n 0, 1) := by decide +kernel
theorem d_MD_where_52 : decode prog_12_method_28_code 52 = .ok (.getfield 50, 3) := by decide +kernel
theorem d_MD_where_55 : decode prog_12_method_28_code 55 = .ok (.iload_n 3, 1) := by decide +kernel
theorem d_MD_where_56 : decode prog_12_method_28_code 56 = .ok (.iaload, 1) := by decide +kernel
theorem d_MD_where_57 : decode prog_12_method_28_code 57 = .ok (.if_icmp .ge 7, 3) := by decide +kernel
theorem d_MD_where_60 : decode prog_12_method_28_code 60 = .ok (.iload_n 3, 1) := by decide +kernel
theorem d_MD_where_61 : decode prog_12_method_28_code 61 = .ok (.goto 4, 3) := by decide +kernel
theorem d_MD_where_64 : decode prog_12_method_28_code 64 = .ok (.iload_n 2, 1) := by decide +kernel
theorem d_MD_where_65 : decode prog_12_method_28_code 65 = .ok (.istore_n 2, 1) := by decide +kernel
theorem d_MD_where_66 : decode prog_12_method_28_code 66 = .ok (.iinc 3 1, 3) := by decide +kernel
theorem d_MD_where_69 : decode prog_12_method_28_code 69 = .ok (.goto (-44), 3) := by decide +kernel
theorem d_MD_where_72 : decode prog_12_method_28_code 72 = .ok (.aload_n 0, 1) := by decide +kernel
theorem d_MD_where_73 : decode prog_12_method_28_code 73 = .ok (.getfield 70, 3) := by decide +kernel
theorem d_MD_where_76 : decode prog_12_method_28_code 76 = .ok (.ifCond .le 7, 3) := by decide +kernel
theorem d_MD_where_79 : decode prog_12_method_28_code 79 = .ok (.iconst 0, 1) := by decide +kernel
theorem d_MD_where_80 : decode prog_12_method_28_code 80 = .ok (.goto 4, 3) := by decide +kernel
theorem d_MD_where_83 : decode prog_12_method_28_code 83 = .ok (.iload_n 2, 1) := by decide +kernel
theorem d_MD_where_84 : decode prog_12_method_28_code 84 = .ok (.ireturn, 1) := by decide +kernel
def y_MD_open : MethodName := ⟨"PageMakerModel", "open", "(I)J"⟩
def w_MD_open : List Cond := .code y_MD_open prog_12_method_29_code 2 (some .long) :: TB
theorem d_MD_open_0 : decode prog_12_method_29_code 0 = .ok (.aload_n 0, 1) := by decide +kernel
theorem d_MD_open_1 : decode prog_12_method_29_code 1 = .ok (.iload_n 1, 1) := by decide +kernel
theorem d_MD_open_2 : decode prog_12_method_29_code 2 = .ok (.ifCond .lt 9, 3) := by decide +kernel
theorem d_MD_open_5 : decode prog_12_method_29_code 5 = .ok (.iload_n 1, 1) := by decide +kernel
theorem d_MD_open_6 : decode prog_12_method_29_code 6 = .ok (.bipush 9, 2) := by decide +kernel
theorem d_MD_open_8 : decode prog_12_method_29_code 8 = .ok (.if_icmp .le 7, 3) := by decide +kernel
theorem d_MD_open_11 : decode prog_12_method_29_code 11 = .ok (.iconst 1, 1) := by decide +kernel
theorem d_MD_open_12 : decode prog_12_method_29_code 12 = .ok (.goto 4, 3) := by decide +kernel
theorem d_MD_open_15 : decode prog_12_method_29_code 15 = .ok (.iconst 0, 1) := by decide +kernel
theorem d_MD_open_16 : decode prog_12_method_29_code 16 = .ok (.putfield 70, 3) := by decide +kernel
theorem d_MD_open_19 : decode prog_12_method_29_code 19 = .ok (.aload_n 0, 1) := by decide +kernel
theorem d_MD_open_20 : decode prog_12_method_29_code 20 = .ok (.getfield 70, 3) := by decide +kernel
theorem d_MD_open_23 : decode prog_12_method_29_code 23 = .ok (.ifCond .le 5, 3) := by decide +kernel
theorem d_MD_open_26 : decode prog_12_method_29_code 26 = .ok (.lconst 0, 1) := by decide +kernel
theorem d_MD_open_27 : decode prog_12_method_29_code 27 = .ok (.lreturn, 1) := by decide +kernel
theorem d_MD_open_28 : decode prog_12_method_29_code 28 = .ok (.aload_n 0, 1) := by decide +kernel
theorem d_MD_open_29 : decode prog_12_method_29_code 29 = .ok (.getfield 127, 3) := by decide +kernel
theorem d_MD_open_32 : decode prog_12_method_29_code 32 = .ok (.ifCond .ne 33, 3) := by decide +kernel
theorem d_MD_open_35 : decode prog_12_method_29_code 35 = .ok (.iload_n 1, 1) := by decide +kernel
theorem d_MD_open_36 : decode prog_12_method_29_code 36 = .ok (.ifCond .eq 9, 3) := by decide +kernel
theorem d_MD_open_39 : decode prog_12_method_29_code 39 = .ok (.iload_n 1, 1) := by decide +kernel
theorem d_MD_open_40 : decode prog_12_method_29_code 40 = .ok (.bipush 7, 2) := by decide +kernel
theorem d_MD_open_42 : decode prog_12_method_29_code 42 = .ok (.if_icmp .ne 9, 3) := by decide +kernel
theorem d_MD_open_45 : decode prog_12_method_29_code 45 = .ok (.ldc2_w 174, 3) := by decide +kernel
theorem d_MD_open_48 : decode prog_12_method_29_code 48 = .ok (.goto 16, 3) := by decide +kernel
theorem d_MD_open_51 : decode prog_12_method_29_code 51 = .ok (.iload_n 1, 1) := by decide +kernel
theorem d_MD_open_52 : decode prog_12_method_29_code 52 = .ok (.bipush 8, 2) := by decide +kernel
theorem d_MD_open_54 : decode prog_12_method_29_code 54 = .ok (.if_icmp .ne 9, 3) := by decide +kernel
theorem d_MD_open_57 : decode prog_12_method_29_code 57 = .ok (.ldc2_w 176, 3) := by decide +kernel
theorem d_MD_open_60 : decode prog_12_method_29_code 60 = .ok (.goto 4, 3) := by decide +kernel
theorem d_MD_open_63 : decode prog_12_method_29_code 63 = .ok (.lconst 0, 1) := by decide +kernel
theorem d_MD_open_64 : decode prog_12_method_29_code 64 = .ok (.lreturn, 1) := by decide +kernel
theorem d_MD_open_65 : decode prog_12_method_29_code 65 = .ok (.aload_n 0, 1) := by decide +kernel
theorem d_MD_open_66 : decode prog_12_method_29_code 66 = .ok (.aload_n 0, 1) := by decide +kernel
theorem d_MD_open_67 : decode prog_12_method_29_code 67 = .ok (.getfield 134, 3) := by decide +kernel
theorem d_MD_open_70 : decode prog_12_method_29_code 70 = .ok (.aload_n 0, 1) := by decide +kernel
theorem d_MD_open_71 : decode prog_12_method_29_code 71 = .ok (.getfield 124, 3) := by decide +kernel
theorem d_MD_open_74 : decode prog_12_method_29_code 74 = .ok (.invokevirtual 159, 3) := by decide +kernel
theorem d_MD_open_77 : decode prog_12_method_29_code 77 = .ok (.iload_n 1, 1) := by decide +kernel
theorem d_MD_open_78 : decode prog_12_method_29_code 78 = .ok (.tableswitch 87 0 9 #[54, 60, 65, 87, 87, 87, 87, 70, 76, 82], 54) := by decide +kernel
theorem d_MD_open_132 : decode prog_12_method_29_code 132 = .ok (.aload_n 0, 1) := by decide +kernel
theorem d_MD_open_133 : decode prog_12_method_29_code 133 = .ok (.getfield 131, 3) := by decide +kernel
theorem d_MD_open_136 : decode prog_12_method_29_code 136 = .ok (.i2l, 1) := by decide +kernel
theorem d_MD_open_137 : decode prog_12_method_29_code 137 = .ok (.lreturn, 1) := by decide +kernel
theorem d_MD_open_138 : decode prog_12_method_29_code 138 = .ok (.aload_n 0, 1) := by decide +kernel
theorem d_MD_open_139 : decode prog_12_method_29_code 139 = .ok (.getfield 81, 3) := by decide +kernel
theorem d_MD_open_142 : decode prog_12_method_29_code 142 = .ok (.lreturn, 1) := by decide +kernel
theorem d_MD_open_143 : decode prog_12_method_29_code 143 = .ok (.aload_n 0, 1) := by decide +kernel
theorem d_MD_open_144 : decode prog_12_method_29_code 144 = .ok (.getfield 85, 3) := by decide +kernel
theorem d_MD_open_147 : decode prog_12_method_29_code 147 = .ok (.lreturn, 1) := by decide +kernel
theorem d_MD_open_148 : decode prog_12_method_29_code 148 = .ok (.aload_n 0, 1) := by decide +kernel
theorem d_MD_open_149 : decode prog_12_method_29_code 149 = .ok (.getfield 63, 3) := by decide +kernel
theorem d_MD_open_152 : decode prog_12_method_29_code 152 = .ok (.i2l, 1) := by decide +kernel
theorem d_MD_open_153 : decode prog_12_method_29_code 153 = .ok (.lreturn, 1) := by decide +kernel
theorem d_MD_open_154 : decode prog_12_method_29_code 154 = .ok (.aload_n 0, 1) := by decide +kernel
theorem d_MD_open_155 : decode prog_12_method_29_code 155 = .ok (.getfield 67, 3) := by decide +kernel
theorem d_MD_open_158 : decode prog_12_method_29_code 158 = .ok (.i2l, 1) := by decide +kernel
theorem d_MD_open_159 : decode prog_12_method_29_code 159 = .ok (.lreturn, 1) := by decide +kernel
theorem d_MD_open_160 : decode prog_12_method_29_code 160 = .ok (.aload_n 0, 1) := by decide +kernel
theorem d_MD_open_161 : decode prog_12_method_29_code 161 = .ok (.getfield 88, 3) := by decide +kernel
theorem d_MD_open_164 : decode prog_12_method_29_code 164 = .ok (.lreturn, 1) := by decide +kernel
theorem d_MD_open_165 : decode prog_12_method_29_code 165 = .ok (.aload_n 0, 1) := by decide +kernel
theorem d_MD_open_166 : decode prog_12_method_29_code 166 = .ok (.getfield 59, 3) := by decide +kernel
theorem d_MD_open_169 : decode prog_12_method_29_code 169 = .ok (.iload_n 1, 1) := by decide +kernel
theorem d_MD_open_170 : decode prog_12_method_29_code 170 = .ok (.iconst 3, 1) := by decide +kernel
theorem d_MD_open_171 : decode prog_12_method_29_code 171 = .ok (.isub, 1) := by decide +kernel
theorem d_MD_open_172 : decode prog_12_method_29_code 172 = .ok (.laload, 1) := by decide +kernel
theorem d_MD_open_173 : decode prog_12_method_29_code 173 = .ok (.lreturn, 1) := by decide +kernel
