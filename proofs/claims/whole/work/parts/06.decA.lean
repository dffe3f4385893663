/-! methods of the class: names, words, decode rows -/
def y_BX_init : MethodName := ⟨"PageMaker$Box", "<init>", "(II)V"⟩
def w_BX_init : List Cond := .code y_BX_init prog_2_method_1_code 3 none :: TB
theorem d_BX_init_0 : decode prog_2_method_1_code 0 = .ok (.aload_n 0, 1) := by decide +kernel
theorem d_BX_init_1 : decode prog_2_method_1_code 1 = .ok (.invokespecial 1, 3) := by decide +kernel
theorem d_BX_init_4 : decode prog_2_method_1_code 4 = .ok (.aload_n 0, 1) := by decide +kernel
theorem d_BX_init_5 : decode prog_2_method_1_code 5 = .ok (.iload_n 1, 1) := by decide +kernel
theorem d_BX_init_6 : decode prog_2_method_1_code 6 = .ok (.putfield 7, 3) := by decide +kernel
theorem d_BX_init_9 : decode prog_2_method_1_code 9 = .ok (.aload_n 0, 1) := by decide +kernel
theorem d_BX_init_10 : decode prog_2_method_1_code 10 = .ok (.iload_n 2, 1) := by decide +kernel
theorem d_BX_init_11 : decode prog_2_method_1_code 11 = .ok (.putfield 13, 3) := by decide +kernel
theorem d_BX_init_14 : decode prog_2_method_1_code 14 = .ok (.return_, 1) := by decide +kernel
def y_BX_addTo : MethodName := ⟨"PageMaker$Box", "addTo", "(LPageMaker$Totals;LPageMaker$Frame;)V"⟩
def w_BX_addTo : List Cond := .code y_BX_addTo prog_2_method_2_code 3 none :: TB
theorem d_BX_addTo_0 : decode prog_2_method_2_code 0 = .ok (.aload_n 1, 1) := by decide +kernel
theorem d_BX_addTo_1 : decode prog_2_method_2_code 1 = .ok (.dup, 1) := by decide +kernel
theorem d_BX_addTo_2 : decode prog_2_method_2_code 2 = .ok (.getfield 16, 3) := by decide +kernel
theorem d_BX_addTo_5 : decode prog_2_method_2_code 5 = .ok (.aload_n 1, 1) := by decide +kernel
theorem d_BX_addTo_6 : decode prog_2_method_2_code 6 = .ok (.getfield 22, 3) := by decide +kernel
theorem d_BX_addTo_9 : decode prog_2_method_2_code 9 = .ok (.aload_n 0, 1) := by decide +kernel
theorem d_BX_addTo_10 : decode prog_2_method_2_code 10 = .ok (.getfield 7, 3) := by decide +kernel
theorem d_BX_addTo_13 : decode prog_2_method_2_code 13 = .ok (.i2l, 1) := by decide +kernel
theorem d_BX_addTo_14 : decode prog_2_method_2_code 14 = .ok (.ladd, 1) := by decide +kernel
theorem d_BX_addTo_15 : decode prog_2_method_2_code 15 = .ok (.ladd, 1) := by decide +kernel
theorem d_BX_addTo_16 : decode prog_2_method_2_code 16 = .ok (.putfield 16, 3) := by decide +kernel
theorem d_BX_addTo_19 : decode prog_2_method_2_code 19 = .ok (.aload_n 1, 1) := by decide +kernel
theorem d_BX_addTo_20 : decode prog_2_method_2_code 20 = .ok (.aload_n 0, 1) := by decide +kernel
theorem d_BX_addTo_21 : decode prog_2_method_2_code 21 = .ok (.getfield 13, 3) := by decide +kernel
theorem d_BX_addTo_24 : decode prog_2_method_2_code 24 = .ok (.aload_n 2, 1) := by decide +kernel
theorem d_BX_addTo_25 : decode prog_2_method_2_code 25 = .ok (.getfield 24, 3) := by decide +kernel
theorem d_BX_addTo_28 : decode prog_2_method_2_code 28 = .ok (.invokestatic 29, 3) := by decide +kernel
theorem d_BX_addTo_31 : decode prog_2_method_2_code 31 = .ok (.i2l, 1) := by decide +kernel
theorem d_BX_addTo_32 : decode prog_2_method_2_code 32 = .ok (.putfield 22, 3) := by decide +kernel
theorem d_BX_addTo_35 : decode prog_2_method_2_code 35 = .ok (.aload_n 1, 1) := by decide +kernel
theorem d_BX_addTo_36 : decode prog_2_method_2_code 36 = .ok (.dup, 1) := by decide +kernel
theorem d_BX_addTo_37 : decode prog_2_method_2_code 37 = .ok (.getfield 16, 3) := by decide +kernel
theorem d_BX_addTo_40 : decode prog_2_method_2_code 40 = .ok (.aload_n 0, 1) := by decide +kernel
theorem d_BX_addTo_41 : decode prog_2_method_2_code 41 = .ok (.getfield 13, 3) := by decide +kernel
theorem d_BX_addTo_44 : decode prog_2_method_2_code 44 = .ok (.i2l, 1) := by decide +kernel
theorem d_BX_addTo_45 : decode prog_2_method_2_code 45 = .ok (.aload_n 1, 1) := by decide +kernel
theorem d_BX_addTo_46 : decode prog_2_method_2_code 46 = .ok (.getfield 22, 3) := by decide +kernel
theorem d_BX_addTo_49 : decode prog_2_method_2_code 49 = .ok (.lsub, 1) := by decide +kernel
theorem d_BX_addTo_50 : decode prog_2_method_2_code 50 = .ok (.ladd, 1) := by decide +kernel
theorem d_BX_addTo_51 : decode prog_2_method_2_code 51 = .ok (.putfield 16, 3) := by decide +kernel
theorem d_BX_addTo_54 : decode prog_2_method_2_code 54 = .ok (.return_, 1) := by decide +kernel
def y_EP_init : MethodName := ⟨"PageMaker$EndedPage", "<init>", "(LPageMaker$OpenPage;LPageMaker$Totals;)V"⟩
def w_EP_init : List Cond := .code y_EP_init prog_3_method_1_code 3 none :: TB
theorem d_EP_init_0 : decode prog_3_method_1_code 0 = .ok (.aload_n 0, 1) := by decide +kernel
theorem d_EP_init_1 : decode prog_3_method_1_code 1 = .ok (.invokespecial 1, 3) := by decide +kernel
theorem d_EP_init_4 : decode prog_3_method_1_code 4 = .ok (.aload_n 0, 1) := by decide +kernel
theorem d_EP_init_5 : decode prog_3_method_1_code 5 = .ok (.aload_n 1, 1) := by decide +kernel
theorem d_EP_init_6 : decode prog_3_method_1_code 6 = .ok (.getfield 7, 3) := by decide +kernel
theorem d_EP_init_9 : decode prog_3_method_1_code 9 = .ok (.putfield 13, 3) := by decide +kernel
theorem d_EP_init_12 : decode prog_3_method_1_code 12 = .ok (.aload_n 0, 1) := by decide +kernel
theorem d_EP_init_13 : decode prog_3_method_1_code 13 = .ok (.aload_n 1, 1) := by decide +kernel
theorem d_EP_init_14 : decode prog_3_method_1_code 14 = .ok (.getfield 16, 3) := by decide +kernel
theorem d_EP_init_17 : decode prog_3_method_1_code 17 = .ok (.putfield 20, 3) := by decide +kernel
theorem d_EP_init_20 : decode prog_3_method_1_code 20 = .ok (.aload_n 0, 1) := by decide +kernel
theorem d_EP_init_21 : decode prog_3_method_1_code 21 = .ok (.aload_n 1, 1) := by decide +kernel
theorem d_EP_init_22 : decode prog_3_method_1_code 22 = .ok (.getfield 21, 3) := by decide +kernel
theorem d_EP_init_25 : decode prog_3_method_1_code 25 = .ok (.putfield 24, 3) := by decide +kernel
theorem d_EP_init_28 : decode prog_3_method_1_code 28 = .ok (.aload_n 0, 1) := by decide +kernel
theorem d_EP_init_29 : decode prog_3_method_1_code 29 = .ok (.aload_n 1, 1) := by decide +kernel
theorem d_EP_init_30 : decode prog_3_method_1_code 30 = .ok (.getfield 25, 3) := by decide +kernel
theorem d_EP_init_33 : decode prog_3_method_1_code 33 = .ok (.putfield 28, 3) := by decide +kernel
theorem d_EP_init_36 : decode prog_3_method_1_code 36 = .ok (.aload_n 0, 1) := by decide +kernel
theorem d_EP_init_37 : decode prog_3_method_1_code 37 = .ok (.aload_n 1, 1) := by decide +kernel
theorem d_EP_init_38 : decode prog_3_method_1_code 38 = .ok (.getfield 31, 3) := by decide +kernel
theorem d_EP_init_41 : decode prog_3_method_1_code 41 = .ok (.putfield 34, 3) := by decide +kernel
theorem d_EP_init_44 : decode prog_3_method_1_code 44 = .ok (.aload_n 0, 1) := by decide +kernel
theorem d_EP_init_45 : decode prog_3_method_1_code 45 = .ok (.aload_n 1, 1) := by decide +kernel
theorem d_EP_init_46 : decode prog_3_method_1_code 46 = .ok (.getfield 37, 3) := by decide +kernel
theorem d_EP_init_49 : decode prog_3_method_1_code 49 = .ok (.putfield 40, 3) := by decide +kernel
theorem d_EP_init_52 : decode prog_3_method_1_code 52 = .ok (.aload_n 0, 1) := by decide +kernel
theorem d_EP_init_53 : decode prog_3_method_1_code 53 = .ok (.aload_n 1, 1) := by decide +kernel
theorem d_EP_init_54 : decode prog_3_method_1_code 54 = .ok (.getfield 7, 3) := by decide +kernel
theorem d_EP_init_57 : decode prog_3_method_1_code 57 = .ok (.getfield 41, 3) := by decide +kernel
theorem d_EP_init_60 : decode prog_3_method_1_code 60 = .ok (.i2l, 1) := by decide +kernel
theorem d_EP_init_61 : decode prog_3_method_1_code 61 = .ok (.aload_n 2, 1) := by decide +kernel
theorem d_EP_init_62 : decode prog_3_method_1_code 62 = .ok (.getfield 46, 3) := by decide +kernel
theorem d_EP_init_65 : decode prog_3_method_1_code 65 = .ok (.lsub, 1) := by decide +kernel
theorem d_EP_init_66 : decode prog_3_method_1_code 66 = .ok (.putfield 52, 3) := by decide +kernel
theorem d_EP_init_69 : decode prog_3_method_1_code 69 = .ok (.aload_n 0, 1) := by decide +kernel
theorem d_EP_init_70 : decode prog_3_method_1_code 70 = .ok (.aload_n 0, 1) := by decide +kernel
theorem d_EP_init_71 : decode prog_3_method_1_code 71 = .ok (.getfield 52, 3) := by decide +kernel
theorem d_EP_init_74 : decode prog_3_method_1_code 74 = .ok (.lconst 0, 1) := by decide +kernel
theorem d_EP_init_75 : decode prog_3_method_1_code 75 = .ok (.lcmp, 1) := by decide +kernel
theorem d_EP_init_76 : decode prog_3_method_1_code 76 = .ok (.ifCond .le 10, 3) := by decide +kernel
theorem d_EP_init_79 : decode prog_3_method_1_code 79 = .ok (.aload_n 2, 1) := by decide +kernel
theorem d_EP_init_80 : decode prog_3_method_1_code 80 = .ok (.invokevirtual 55, 3) := by decide +kernel
theorem d_EP_init_83 : decode prog_3_method_1_code 83 = .ok (.goto 4, 3) := by decide +kernel
theorem d_EP_init_86 : decode prog_3_method_1_code 86 = .ok (.iconst 0, 1) := by decide +kernel
theorem d_EP_init_87 : decode prog_3_method_1_code 87 = .ok (.putfield 59, 3) := by decide +kernel
theorem d_EP_init_90 : decode prog_3_method_1_code 90 = .ok (.aload_n 0, 1) := by decide +kernel
theorem d_EP_init_91 : decode prog_3_method_1_code 91 = .ok (.getfield 52, 3) := by decide +kernel
theorem d_EP_init_94 : decode prog_3_method_1_code 94 = .ok (.lconst 0, 1) := by decide +kernel
theorem d_EP_init_95 : decode prog_3_method_1_code 95 = .ok (.lcmp, 1) := by decide +kernel
theorem d_EP_init_96 : decode prog_3_method_1_code 96 = .ok (.ifCond .le 19, 3) := by decide +kernel
theorem d_EP_init_99 : decode prog_3_method_1_code 99 = .ok (.aload_n 0, 1) := by decide +kernel
theorem d_EP_init_100 : decode prog_3_method_1_code 100 = .ok (.aload_n 2, 1) := by decide +kernel
theorem d_EP_init_101 : decode prog_3_method_1_code 101 = .ok (.getfield 62, 3) := by decide +kernel
theorem d_EP_init_104 : decode prog_3_method_1_code 104 = .ok (.aload_n 0, 1) := by decide +kernel
theorem d_EP_init_105 : decode prog_3_method_1_code 105 = .ok (.getfield 59, 3) := by decide +kernel
theorem d_EP_init_108 : decode prog_3_method_1_code 108 = .ok (.laload, 1) := by decide +kernel
theorem d_EP_init_109 : decode prog_3_method_1_code 109 = .ok (.putfield 66, 3) := by decide +kernel
theorem d_EP_init_112 : decode prog_3_method_1_code 112 = .ok (.goto 24, 3) := by decide +kernel
theorem d_EP_init_115 : decode prog_3_method_1_code 115 = .ok (.aload_n 0, 1) := by decide +kernel
theorem d_EP_init_116 : decode prog_3_method_1_code 116 = .ok (.aload_n 0, 1) := by decide +kernel
theorem d_EP_init_117 : decode prog_3_method_1_code 117 = .ok (.getfield 52, 3) := by decide +kernel
theorem d_EP_init_120 : decode prog_3_method_1_code 120 = .ok (.lconst 0, 1) := by decide +kernel
theorem d_EP_init_121 : decode prog_3_method_1_code 121 = .ok (.lcmp, 1) := by decide +kernel
theorem d_EP_init_122 : decode prog_3_method_1_code 122 = .ok (.ifCond .ge 10, 3) := by decide +kernel
theorem d_EP_init_125 : decode prog_3_method_1_code 125 = .ok (.aload_n 2, 1) := by decide +kernel
theorem d_EP_init_126 : decode prog_3_method_1_code 126 = .ok (.getfield 69, 3) := by decide +kernel
theorem d_EP_init_129 : decode prog_3_method_1_code 129 = .ok (.goto 4, 3) := by decide +kernel
theorem d_EP_init_132 : decode prog_3_method_1_code 132 = .ok (.lconst 0, 1) := by decide +kernel
theorem d_EP_init_133 : decode prog_3_method_1_code 133 = .ok (.putfield 66, 3) := by decide +kernel
theorem d_EP_init_136 : decode prog_3_method_1_code 136 = .ok (.return_, 1) := by decide +kernel
def y_EP_holds : MethodName := ⟨"PageMaker$EndedPage", "holds", "(I)Z"⟩
def w_EP_holds : List Cond := .code y_EP_holds prog_3_method_2_code 2 (some .boolean) :: TB
theorem d_EP_holds_0 : decode prog_3_method_2_code 0 = .ok (.iload_n 1, 1) := by decide +kernel
theorem d_EP_holds_1 : decode prog_3_method_2_code 1 = .ok (.aload_n 0, 1) := by decide +kernel
theorem d_EP_holds_2 : decode prog_3_method_2_code 2 = .ok (.getfield 20, 3) := by decide +kernel
theorem d_EP_holds_5 : decode prog_3_method_2_code 5 = .ok (.if_icmp .lt 15, 3) := by decide +kernel
theorem d_EP_holds_8 : decode prog_3_method_2_code 8 = .ok (.iload_n 1, 1) := by decide +kernel
theorem d_EP_holds_9 : decode prog_3_method_2_code 9 = .ok (.aload_n 0, 1) := by decide +kernel
theorem d_EP_holds_10 : decode prog_3_method_2_code 10 = .ok (.getfield 24, 3) := by decide +kernel
theorem d_EP_holds_13 : decode prog_3_method_2_code 13 = .ok (.if_icmp .ge 7, 3) := by decide +kernel
theorem d_EP_holds_16 : decode prog_3_method_2_code 16 = .ok (.iconst 1, 1) := by decide +kernel
theorem d_EP_holds_17 : decode prog_3_method_2_code 17 = .ok (.goto 4, 3) := by decide +kernel
theorem d_EP_holds_20 : decode prog_3_method_2_code 20 = .ok (.iconst 0, 1) := by decide +kernel
theorem d_EP_holds_21 : decode prog_3_method_2_code 21 = .ok (.ireturn, 1) := by decide +kernel
def y_EP_shareOf : MethodName := ⟨"PageMaker$EndedPage", "shareOf", "(LPageMaker$Totals;)J"⟩
def w_EP_shareOf : List Cond := .code y_EP_shareOf prog_3_method_3_code 2 (some .long) :: TB
theorem d_EP_shareOf_0 : decode prog_3_method_3_code 0 = .ok (.aload_n 0, 1) := by decide +kernel
theorem d_EP_shareOf_1 : decode prog_3_method_3_code 1 = .ok (.getfield 52, 3) := by decide +kernel
theorem d_EP_shareOf_4 : decode prog_3_method_3_code 4 = .ok (.lconst 0, 1) := by decide +kernel
theorem d_EP_shareOf_5 : decode prog_3_method_3_code 5 = .ok (.lcmp, 1) := by decide +kernel
theorem d_EP_shareOf_6 : decode prog_3_method_3_code 6 = .ok (.ifCond .le 24, 3) := by decide +kernel
theorem d_EP_shareOf_9 : decode prog_3_method_3_code 9 = .ok (.aload_n 1, 1) := by decide +kernel
theorem d_EP_shareOf_10 : decode prog_3_method_3_code 10 = .ok (.getfield 62, 3) := by decide +kernel
theorem d_EP_shareOf_13 : decode prog_3_method_3_code 13 = .ok (.aload_n 0, 1) := by decide +kernel
theorem d_EP_shareOf_14 : decode prog_3_method_3_code 14 = .ok (.getfield 59, 3) := by decide +kernel
theorem d_EP_shareOf_17 : decode prog_3_method_3_code 17 = .ok (.laload, 1) := by decide +kernel
theorem d_EP_shareOf_18 : decode prog_3_method_3_code 18 = .ok (.aload_n 0, 1) := by decide +kernel
theorem d_EP_shareOf_19 : decode prog_3_method_3_code 19 = .ok (.getfield 52, 3) := by decide +kernel
theorem d_EP_shareOf_22 : decode prog_3_method_3_code 22 = .ok (.aload_n 0, 1) := by decide +kernel
theorem d_EP_shareOf_23 : decode prog_3_method_3_code 23 = .ok (.getfield 66, 3) := by decide +kernel
theorem d_EP_shareOf_26 : decode prog_3_method_3_code 26 = .ok (.invokestatic 72, 3) := by decide +kernel
theorem d_EP_shareOf_29 : decode prog_3_method_3_code 29 = .ok (.lreturn, 1) := by decide +kernel
theorem d_EP_shareOf_30 : decode prog_3_method_3_code 30 = .ok (.aload_n 1, 1) := by decide +kernel
theorem d_EP_shareOf_31 : decode prog_3_method_3_code 31 = .ok (.getfield 69, 3) := by decide +kernel
theorem d_EP_shareOf_34 : decode prog_3_method_3_code 34 = .ok (.aload_n 0, 1) := by decide +kernel
theorem d_EP_shareOf_35 : decode prog_3_method_3_code 35 = .ok (.getfield 52, 3) := by decide +kernel
theorem d_EP_shareOf_38 : decode prog_3_method_3_code 38 = .ok (.lneg, 1) := by decide +kernel
theorem d_EP_shareOf_39 : decode prog_3_method_3_code 39 = .ok (.aload_n 0, 1) := by decide +kernel
theorem d_EP_shareOf_40 : decode prog_3_method_3_code 40 = .ok (.getfield 66, 3) := by decide +kernel
theorem d_EP_shareOf_43 : decode prog_3_method_3_code 43 = .ok (.invokestatic 78, 3) := by decide +kernel
theorem d_EP_shareOf_46 : decode prog_3_method_3_code 46 = .ok (.aload_n 0, 1) := by decide +kernel
theorem d_EP_shareOf_47 : decode prog_3_method_3_code 47 = .ok (.getfield 66, 3) := by decide +kernel
theorem d_EP_shareOf_50 : decode prog_3_method_3_code 50 = .ok (.invokestatic 72, 3) := by decide +kernel
theorem d_EP_shareOf_53 : decode prog_3_method_3_code 53 = .ok (.lneg, 1) := by decide +kernel
theorem d_EP_shareOf_54 : decode prog_3_method_3_code 54 = .ok (.lreturn, 1) := by decide +kernel
def y_FR_init : MethodName := ⟨"PageMaker$Frame", "<init>", "(III)V"⟩
def w_FR_init : List Cond := .code y_FR_init prog_4_method_1_code 4 none :: TB
theorem d_FR_init_0 : decode prog_4_method_1_code 0 = .ok (.aload_n 0, 1) := by decide +kernel
theorem d_FR_init_1 : decode prog_4_method_1_code 1 = .ok (.invokespecial 1, 3) := by decide +kernel
theorem d_FR_init_4 : decode prog_4_method_1_code 4 = .ok (.aload_n 0, 1) := by decide +kernel
theorem d_FR_init_5 : decode prog_4_method_1_code 5 = .ok (.iload_n 1, 1) := by decide +kernel
theorem d_FR_init_6 : decode prog_4_method_1_code 6 = .ok (.putfield 7, 3) := by decide +kernel
theorem d_FR_init_9 : decode prog_4_method_1_code 9 = .ok (.aload_n 0, 1) := by decide +kernel
theorem d_FR_init_10 : decode prog_4_method_1_code 10 = .ok (.iload_n 2, 1) := by decide +kernel
theorem d_FR_init_11 : decode prog_4_method_1_code 11 = .ok (.putfield 13, 3) := by decide +kernel
theorem d_FR_init_14 : decode prog_4_method_1_code 14 = .ok (.aload_n 0, 1) := by decide +kernel
theorem d_FR_init_15 : decode prog_4_method_1_code 15 = .ok (.iload_n 3, 1) := by decide +kernel
theorem d_FR_init_16 : decode prog_4_method_1_code 16 = .ok (.putfield 16, 3) := by decide +kernel
theorem d_FR_init_19 : decode prog_4_method_1_code 19 = .ok (.return_, 1) := by decide +kernel
def y_GL_init : MethodName := ⟨"PageMaker$Glue", "<init>", "(IIII)V"⟩
def w_GL_init : List Cond := .code y_GL_init prog_5_method_1_code 5 none :: TB
theorem d_GL_init_0 : decode prog_5_method_1_code 0 = .ok (.aload_n 0, 1) := by decide +kernel
theorem d_GL_init_1 : decode prog_5_method_1_code 1 = .ok (.invokespecial 3, 3) := by decide +kernel
theorem d_GL_init_4 : decode prog_5_method_1_code 4 = .ok (.aload_n 0, 1) := by decide +kernel
theorem d_GL_init_5 : decode prog_5_method_1_code 5 = .ok (.iload_n 1, 1) := by decide +kernel
theorem d_GL_init_6 : decode prog_5_method_1_code 6 = .ok (.putfield 9, 3) := by decide +kernel
theorem d_GL_init_9 : decode prog_5_method_1_code 9 = .ok (.aload_n 0, 1) := by decide +kernel
theorem d_GL_init_10 : decode prog_5_method_1_code 10 = .ok (.iload_n 2, 1) := by decide +kernel
theorem d_GL_init_11 : decode prog_5_method_1_code 11 = .ok (.putfield 15, 3) := by decide +kernel
theorem d_GL_init_14 : decode prog_5_method_1_code 14 = .ok (.aload_n 0, 1) := by decide +kernel
theorem d_GL_init_15 : decode prog_5_method_1_code 15 = .ok (.iload_n 3, 1) := by decide +kernel
theorem d_GL_init_16 : decode prog_5_method_1_code 16 = .ok (.putfield 18, 3) := by decide +kernel
theorem d_GL_init_19 : decode prog_5_method_1_code 19 = .ok (.aload_n 0, 1) := by decide +kernel
theorem d_GL_init_20 : decode prog_5_method_1_code 20 = .ok (.iload 4, 2) := by decide +kernel
theorem d_GL_init_22 : decode prog_5_method_1_code 22 = .ok (.putfield 21, 3) := by decide +kernel
theorem d_GL_init_25 : decode prog_5_method_1_code 25 = .ok (.return_, 1) := by decide +kernel
def y_GL_addTo : MethodName := ⟨"PageMaker$Glue", "addTo", "(LPageMaker$Totals;LPageMaker$Frame;)V"⟩
def w_GL_addTo : List Cond := .code y_GL_addTo prog_5_method_2_code 3 none :: TB
theorem d_GL_addTo_0 : decode prog_5_method_2_code 0 = .ok (.aload_n 1, 1) := by decide +kernel
theorem d_GL_addTo_1 : decode prog_5_method_2_code 1 = .ok (.aload_n 0, 1) := by decide +kernel
theorem d_GL_addTo_2 : decode prog_5_method_2_code 2 = .ok (.getfield 9, 3) := by decide +kernel
theorem d_GL_addTo_5 : decode prog_5_method_2_code 5 = .ok (.i2l, 1) := by decide +kernel
theorem d_GL_addTo_6 : decode prog_5_method_2_code 6 = .ok (.invokevirtual 24, 3) := by decide +kernel
theorem d_GL_addTo_9 : decode prog_5_method_2_code 9 = .ok (.aload_n 1, 1) := by decide +kernel
theorem d_GL_addTo_10 : decode prog_5_method_2_code 10 = .ok (.dup, 1) := by decide +kernel
theorem d_GL_addTo_11 : decode prog_5_method_2_code 11 = .ok (.getfield 30, 3) := by decide +kernel
theorem d_GL_addTo_14 : decode prog_5_method_2_code 14 = .ok (.aload_n 0, 1) := by decide +kernel
theorem d_GL_addTo_15 : decode prog_5_method_2_code 15 = .ok (.getfield 21, 3) := by decide +kernel
theorem d_GL_addTo_18 : decode prog_5_method_2_code 18 = .ok (.i2l, 1) := by decide +kernel
theorem d_GL_addTo_19 : decode prog_5_method_2_code 19 = .ok (.ladd, 1) := by decide +kernel
theorem d_GL_addTo_20 : decode prog_5_method_2_code 20 = .ok (.putfield 30, 3) := by decide +kernel
theorem d_GL_addTo_23 : decode prog_5_method_2_code 23 = .ok (.aload_n 0, 1) := by decide +kernel
theorem d_GL_addTo_24 : decode prog_5_method_2_code 24 = .ok (.getfield 18, 3) := by decide +kernel
theorem d_GL_addTo_27 : decode prog_5_method_2_code 27 = .ok (.ifCond .lt 28, 3) := by decide +kernel
theorem d_GL_addTo_30 : decode prog_5_method_2_code 30 = .ok (.aload_n 0, 1) := by decide +kernel
theorem d_GL_addTo_31 : decode prog_5_method_2_code 31 = .ok (.getfield 18, 3) := by decide +kernel
theorem d_GL_addTo_34 : decode prog_5_method_2_code 34 = .ok (.iconst 4, 1) := by decide +kernel
theorem d_GL_addTo_35 : decode prog_5_method_2_code 35 = .ok (.if_icmp .ge 20, 3) := by decide +kernel
theorem d_GL_addTo_38 : decode prog_5_method_2_code 38 = .ok (.aload_n 1, 1) := by decide +kernel
theorem d_GL_addTo_39 : decode prog_5_method_2_code 39 = .ok (.getfield 33, 3) := by decide +kernel
theorem d_GL_addTo_42 : decode prog_5_method_2_code 42 = .ok (.aload_n 0, 1) := by decide +kernel
theorem d_GL_addTo_43 : decode prog_5_method_2_code 43 = .ok (.getfield 18, 3) := by decide +kernel
theorem d_GL_addTo_46 : decode prog_5_method_2_code 46 = .ok (.dup2, 1) := by decide +kernel
theorem d_GL_addTo_47 : decode prog_5_method_2_code 47 = .ok (.laload, 1) := by decide +kernel
theorem d_GL_addTo_48 : decode prog_5_method_2_code 48 = .ok (.aload_n 0, 1) := by decide +kernel
theorem d_GL_addTo_49 : decode prog_5_method_2_code 49 = .ok (.getfield 15, 3) := by decide +kernel
theorem d_GL_addTo_52 : decode prog_5_method_2_code 52 = .ok (.i2l, 1) := by decide +kernel
theorem d_GL_addTo_53 : decode prog_5_method_2_code 53 = .ok (.ladd, 1) := by decide +kernel
theorem d_GL_addTo_54 : decode prog_5_method_2_code 54 = .ok (.lastore, 1) := by decide +kernel
theorem d_GL_addTo_55 : decode prog_5_method_2_code 55 = .ok (.return_, 1) := by decide +kernel
def y_IT_init : MethodName := ⟨"PageMaker$Item", "<init>", "()V"⟩
def w_IT_init : List Cond := .code y_IT_init prog_6_method_1_code 1 none :: TB
theorem d_IT_init_0 : decode prog_6_method_1_code 0 = .ok (.aload_n 0, 1) := by decide +kernel
theorem d_IT_init_1 : decode prog_6_method_1_code 1 = .ok (.invokespecial 1, 3) := by decide +kernel
theorem d_IT_init_4 : decode prog_6_method_1_code 4 = .ok (.return_, 1) := by decide +kernel
def y_KE_init : MethodName := ⟨"PageMaker$Kern", "<init>", "(I)V"⟩
def w_KE_init : List Cond := .code y_KE_init prog_7_method_1_code 2 none :: TB
theorem d_KE_init_0 : decode prog_7_method_1_code 0 = .ok (.aload_n 0, 1) := by decide +kernel
theorem d_KE_init_1 : decode prog_7_method_1_code 1 = .ok (.invokespecial 1, 3) := by decide +kernel
theorem d_KE_init_4 : decode prog_7_method_1_code 4 = .ok (.aload_n 0, 1) := by decide +kernel
theorem d_KE_init_5 : decode prog_7_method_1_code 5 = .ok (.iload_n 1, 1) := by decide +kernel
theorem d_KE_init_6 : decode prog_7_method_1_code 6 = .ok (.putfield 7, 3) := by decide +kernel
theorem d_KE_init_9 : decode prog_7_method_1_code 9 = .ok (.return_, 1) := by decide +kernel
def y_KE_addTo : MethodName := ⟨"PageMaker$Kern", "addTo", "(LPageMaker$Totals;LPageMaker$Frame;)V"⟩
def w_KE_addTo : List Cond := .code y_KE_addTo prog_7_method_2_code 3 none :: TB
theorem d_KE_addTo_0 : decode prog_7_method_2_code 0 = .ok (.aload_n 1, 1) := by decide +kernel
theorem d_KE_addTo_1 : decode prog_7_method_2_code 1 = .ok (.aload_n 0, 1) := by decide +kernel
theorem d_KE_addTo_2 : decode prog_7_method_2_code 2 = .ok (.getfield 7, 3) := by decide +kernel
theorem d_KE_addTo_5 : decode prog_7_method_2_code 5 = .ok (.i2l, 1) := by decide +kernel
theorem d_KE_addTo_6 : decode prog_7_method_2_code 6 = .ok (.invokevirtual 13, 3) := by decide +kernel
theorem d_KE_addTo_9 : decode prog_7_method_2_code 9 = .ok (.return_, 1) := by decide +kernel
def y_OP_init : MethodName := ⟨"PageMaker$OpenPage", "<init>", "(LPageMaker$Frame;)V"⟩
def w_OP_init : List Cond := .code y_OP_init prog_8_method_1_code 2 none :: TB
theorem d_OP_init_0 : decode prog_8_method_1_code 0 = .ok (.aload_n 0, 1) := by decide +kernel
theorem d_OP_init_1 : decode prog_8_method_1_code 1 = .ok (.invokespecial 3, 3) := by decide +kernel
theorem d_OP_init_4 : decode prog_8_method_1_code 4 = .ok (.aload_n 0, 1) := by decide +kernel
theorem d_OP_init_5 : decode prog_8_method_1_code 5 = .ok (.new 9, 3) := by decide +kernel
theorem d_OP_init_8 : decode prog_8_method_1_code 8 = .ok (.dup, 1) := by decide +kernel
theorem d_OP_init_9 : decode prog_8_method_1_code 9 = .ok (.invokespecial 11, 3) := by decide +kernel
theorem d_OP_init_12 : decode prog_8_method_1_code 12 = .ok (.putfield 12, 3) := by decide +kernel
theorem d_OP_init_15 : decode prog_8_method_1_code 15 = .ok (.aload_n 0, 1) := by decide +kernel
theorem d_OP_init_16 : decode prog_8_method_1_code 16 = .ok (.iconst (-1), 1) := by decide +kernel
theorem d_OP_init_17 : decode prog_8_method_1_code 17 = .ok (.putfield 18, 3) := by decide +kernel
theorem d_OP_init_20 : decode prog_8_method_1_code 20 = .ok (.aload_n 0, 1) := by decide +kernel
theorem d_OP_init_21 : decode prog_8_method_1_code 21 = .ok (.lconst 0, 1) := by decide +kernel
theorem d_OP_init_22 : decode prog_8_method_1_code 22 = .ok (.putfield 22, 3) := by decide +kernel
theorem d_OP_init_25 : decode prog_8_method_1_code 25 = .ok (.aload_n 0, 1) := by decide +kernel
theorem d_OP_init_26 : decode prog_8_method_1_code 26 = .ok (.iconst (-1), 1) := by decide +kernel
theorem d_OP_init_27 : decode prog_8_method_1_code 27 = .ok (.putfield 26, 3) := by decide +kernel
theorem d_OP_init_30 : decode prog_8_method_1_code 30 = .ok (.aload_n 0, 1) := by decide +kernel
theorem d_OP_init_31 : decode prog_8_method_1_code 31 = .ok (.ldc 29, 2) := by decide +kernel
theorem d_OP_init_33 : decode prog_8_method_1_code 33 = .ok (.putfield 30, 3) := by decide +kernel
theorem d_OP_init_36 : decode prog_8_method_1_code 36 = .ok (.aload_n 0, 1) := by decide +kernel
theorem d_OP_init_37 : decode prog_8_method_1_code 37 = .ok (.ldc 29, 2) := by decide +kernel
theorem d_OP_init_39 : decode prog_8_method_1_code 39 = .ok (.putfield 33, 3) := by decide +kernel
theorem d_OP_init_42 : decode prog_8_method_1_code 42 = .ok (.aload_n 0, 1) := by decide +kernel
theorem d_OP_init_43 : decode prog_8_method_1_code 43 = .ok (.iconst (-1), 1) := by decide +kernel
theorem d_OP_init_44 : decode prog_8_method_1_code 44 = .ok (.putfield 36, 3) := by decide +kernel
theorem d_OP_init_47 : decode prog_8_method_1_code 47 = .ok (.aload_n 0, 1) := by decide +kernel
theorem d_OP_init_48 : decode prog_8_method_1_code 48 = .ok (.aload_n 1, 1) := by decide +kernel
theorem d_OP_init_49 : decode prog_8_method_1_code 49 = .ok (.putfield 39, 3) := by decide +kernel
theorem d_OP_init_52 : decode prog_8_method_1_code 52 = .ok (.return_, 1) := by decide +kernel
def y_OP_hasBegun : MethodName := ⟨"PageMaker$OpenPage", "hasBegun", "()Z"⟩
def w_OP_hasBegun : List Cond := .code y_OP_hasBegun prog_8_method_2_code 1 (some .boolean) :: TB
theorem d_OP_hasBegun_0 : decode prog_8_method_2_code 0 = .ok (.aload_n 0, 1) := by decide +kernel
theorem d_OP_hasBegun_1 : decode prog_8_method_2_code 1 = .ok (.getfield 18, 3) := by decide +kernel
theorem d_OP_hasBegun_4 : decode prog_8_method_2_code 4 = .ok (.iconst (-1), 1) := by decide +kernel
theorem d_OP_hasBegun_5 : decode prog_8_method_2_code 5 = .ok (.if_icmp .eq 7, 3) := by decide +kernel
theorem d_OP_hasBegun_8 : decode prog_8_method_2_code 8 = .ok (.iconst 1, 1) := by decide +kernel
theorem d_OP_hasBegun_9 : decode prog_8_method_2_code 9 = .ok (.goto 4, 3) := by decide +kernel
theorem d_OP_hasBegun_12 : decode prog_8_method_2_code 12 = .ok (.iconst 0, 1) := by decide +kernel
theorem d_OP_hasBegun_13 : decode prog_8_method_2_code 13 = .ok (.ireturn, 1) := by decide +kernel
def y_OP_begin : MethodName := ⟨"PageMaker$OpenPage", "begin", "(ILPageMaker$Box;LPageMaker$Frame;)V"⟩
def w_OP_begin : List Cond := .code y_OP_begin prog_8_method_3_code 4 none :: TB
theorem d_OP_begin_0 : decode prog_8_method_3_code 0 = .ok (.aload_n 0, 1) := by decide +kernel
theorem d_OP_begin_1 : decode prog_8_method_3_code 1 = .ok (.iload_n 1, 1) := by decide +kernel
theorem d_OP_begin_2 : decode prog_8_method_3_code 2 = .ok (.putfield 18, 3) := by decide +kernel
theorem d_OP_begin_5 : decode prog_8_method_3_code 5 = .ok (.aload_n 0, 1) := by decide +kernel
theorem d_OP_begin_6 : decode prog_8_method_3_code 6 = .ok (.aload_n 3, 1) := by decide +kernel
theorem d_OP_begin_7 : decode prog_8_method_3_code 7 = .ok (.putfield 39, 3) := by decide +kernel
theorem d_OP_begin_10 : decode prog_8_method_3_code 10 = .ok (.aload_n 0, 1) := by decide +kernel
theorem d_OP_begin_11 : decode prog_8_method_3_code 11 = .ok (.getfield 12, 3) := by decide +kernel
theorem d_OP_begin_14 : decode prog_8_method_3_code 14 = .ok (.aload_n 0, 1) := by decide +kernel
theorem d_OP_begin_15 : decode prog_8_method_3_code 15 = .ok (.getfield 39, 3) := by decide +kernel
theorem d_OP_begin_18 : decode prog_8_method_3_code 18 = .ok (.aload_n 2, 1) := by decide +kernel
theorem d_OP_begin_19 : decode prog_8_method_3_code 19 = .ok (.invokevirtual 43, 3) := by decide +kernel
theorem d_OP_begin_22 : decode prog_8_method_3_code 22 = .ok (.aload_n 0, 1) := by decide +kernel
theorem d_OP_begin_23 : decode prog_8_method_3_code 23 = .ok (.aload_n 2, 1) := by decide +kernel
theorem d_OP_begin_24 : decode prog_8_method_3_code 24 = .ok (.invokevirtual 47, 3) := by decide +kernel
theorem d_OP_begin_27 : decode prog_8_method_3_code 27 = .ok (.return_, 1) := by decide +kernel
def y_OP_add : MethodName := ⟨"PageMaker$OpenPage", "add", "(LPageMaker$Item;)V"⟩
def w_OP_add : List Cond := .code y_OP_add prog_8_method_4_code 2 none :: TB
theorem d_OP_add_0 : decode prog_8_method_4_code 0 = .ok (.aload_n 0, 1) := by decide +kernel
theorem d_OP_add_1 : decode prog_8_method_4_code 1 = .ok (.aload_n 0, 1) := by decide +kernel
theorem d_OP_add_2 : decode prog_8_method_4_code 2 = .ok (.getfield 12, 3) := by decide +kernel
theorem d_OP_add_5 : decode prog_8_method_4_code 5 = .ok (.getfield 51, 3) := by decide +kernel
theorem d_OP_add_8 : decode prog_8_method_4_code 8 = .ok (.putfield 22, 3) := by decide +kernel
theorem d_OP_add_11 : decode prog_8_method_4_code 11 = .ok (.aload_n 1, 1) := by decide +kernel
theorem d_OP_add_12 : decode prog_8_method_4_code 12 = .ok (.aload_n 0, 1) := by decide +kernel
theorem d_OP_add_13 : decode prog_8_method_4_code 13 = .ok (.getfield 12, 3) := by decide +kernel
theorem d_OP_add_16 : decode prog_8_method_4_code 16 = .ok (.aload_n 0, 1) := by decide +kernel
theorem d_OP_add_17 : decode prog_8_method_4_code 17 = .ok (.getfield 39, 3) := by decide +kernel
theorem d_OP_add_20 : decode prog_8_method_4_code 20 = .ok (.invokevirtual 54, 3) := by decide +kernel
theorem d_OP_add_23 : decode prog_8_method_4_code 23 = .ok (.return_, 1) := by decide +kernel
def y_OP_endsAtBreak : MethodName := ⟨"PageMaker$OpenPage", "endsAtBreak", "(IJI)Z"⟩
def w_OP_endsAtBreak : List Cond := .code y_OP_endsAtBreak prog_8_method_5_code 7 (some .boolean) :: TB
theorem d_OP_endsAtBreak_0 : decode prog_8_method_5_code 0 = .ok (.aload_n 0, 1) := by decide +kernel
theorem d_OP_endsAtBreak_1 : decode prog_8_method_5_code 1 = .ok (.getfield 12, 3) := by decide +kernel
theorem d_OP_endsAtBreak_4 : decode prog_8_method_5_code 4 = .ok (.aload_n 0, 1) := by decide +kernel
theorem d_OP_endsAtBreak_5 : decode prog_8_method_5_code 5 = .ok (.getfield 39, 3) := by decide +kernel
theorem d_OP_endsAtBreak_8 : decode prog_8_method_5_code 8 = .ok (.getfield 60, 3) := by decide +kernel
theorem d_OP_endsAtBreak_11 : decode prog_8_method_5_code 11 = .ok (.i2l, 1) := by decide +kernel
theorem d_OP_endsAtBreak_12 : decode prog_8_method_5_code 12 = .ok (.lload_n 2, 1) := by decide +kernel
theorem d_OP_endsAtBreak_13 : decode prog_8_method_5_code 13 = .ok (.lsub, 1) := by decide +kernel
theorem d_OP_endsAtBreak_14 : decode prog_8_method_5_code 14 = .ok (.invokevirtual 65, 3) := by decide +kernel
theorem d_OP_endsAtBreak_17 : decode prog_8_method_5_code 17 = .ok (.istore 5, 2) := by decide +kernel
theorem d_OP_endsAtBreak_19 : decode prog_8_method_5_code 19 = .ok (.iload 5, 2) := by decide +kernel
theorem d_OP_endsAtBreak_21 : decode prog_8_method_5_code 21 = .ok (.iload 4, 2) := by decide +kernel
theorem d_OP_endsAtBreak_23 : decode prog_8_method_5_code 23 = .ok (.invokestatic 69, 3) := by decide +kernel
theorem d_OP_endsAtBreak_26 : decode prog_8_method_5_code 26 = .ok (.istore 6, 2) := by decide +kernel
theorem d_OP_endsAtBreak_28 : decode prog_8_method_5_code 28 = .ok (.iload 6, 2) := by decide +kernel
theorem d_OP_endsAtBreak_30 : decode prog_8_method_5_code 30 = .ok (.aload_n 0, 1) := by decide +kernel
theorem d_OP_endsAtBreak_31 : decode prog_8_method_5_code 31 = .ok (.getfield 30, 3) := by decide +kernel
theorem d_OP_endsAtBreak_34 : decode prog_8_method_5_code 34 = .ok (.if_icmp .gt 20, 3) := by decide +kernel
theorem d_OP_endsAtBreak_37 : decode prog_8_method_5_code 37 = .ok (.aload_n 0, 1) := by decide +kernel
theorem d_OP_endsAtBreak_38 : decode prog_8_method_5_code 38 = .ok (.iload_n 1, 1) := by decide +kernel
theorem d_OP_endsAtBreak_39 : decode prog_8_method_5_code 39 = .ok (.putfield 26, 3) := by decide +kernel
theorem d_OP_endsAtBreak_42 : decode prog_8_method_5_code 42 = .ok (.aload_n 0, 1) := by decide +kernel
theorem d_OP_endsAtBreak_43 : decode prog_8_method_5_code 43 = .ok (.iload 6, 2) := by decide +kernel
theorem d_OP_endsAtBreak_45 : decode prog_8_method_5_code 45 = .ok (.putfield 30, 3) := by decide +kernel
theorem d_OP_endsAtBreak_48 : decode prog_8_method_5_code 48 = .ok (.aload_n 0, 1) := by decide +kernel
theorem d_OP_endsAtBreak_49 : decode prog_8_method_5_code 49 = .ok (.iload 5, 2) := by decide +kernel
theorem d_OP_endsAtBreak_51 : decode prog_8_method_5_code 51 = .ok (.putfield 33, 3) := by decide +kernel
theorem d_OP_endsAtBreak_54 : decode prog_8_method_5_code 54 = .ok (.iload 6, 2) := by decide +kernel
theorem d_OP_endsAtBreak_56 : decode prog_8_method_5_code 56 = .ok (.ldc 29, 2) := by decide +kernel
theorem d_OP_endsAtBreak_58 : decode prog_8_method_5_code 58 = .ok (.if_icmp .eq 13, 3) := by decide +kernel
theorem d_OP_endsAtBreak_61 : decode prog_8_method_5_code 61 = .ok (.iload 4, 2) := by decide +kernel
theorem d_OP_endsAtBreak_63 : decode prog_8_method_5_code 63 = .ok (.sipush (-10000), 3) := by decide +kernel
theorem d_OP_endsAtBreak_66 : decode prog_8_method_5_code 66 = .ok (.if_icmp .le 5, 3) := by decide +kernel
theorem d_OP_endsAtBreak_69 : decode prog_8_method_5_code 69 = .ok (.iconst 0, 1) := by decide +kernel
theorem d_OP_endsAtBreak_70 : decode prog_8_method_5_code 70 = .ok (.ireturn, 1) := by decide +kernel
theorem d_OP_endsAtBreak_71 : decode prog_8_method_5_code 71 = .ok (.aload_n 0, 1) := by decide +kernel
theorem d_OP_endsAtBreak_72 : decode prog_8_method_5_code 72 = .ok (.iload_n 1, 1) := by decide +kernel
theorem d_OP_endsAtBreak_73 : decode prog_8_method_5_code 73 = .ok (.putfield 36, 3) := by decide +kernel
theorem d_OP_endsAtBreak_76 : decode prog_8_method_5_code 76 = .ok (.iconst 1, 1) := by decide +kernel
theorem d_OP_endsAtBreak_77 : decode prog_8_method_5_code 77 = .ok (.ireturn, 1) := by decide +kernel
def y_PE_init : MethodName := ⟨"PageMaker$Penalty", "<init>", "(I)V"⟩
def w_PE_init : List Cond := .code y_PE_init prog_9_method_1_code 2 none :: TB
theorem d_PE_init_0 : decode prog_9_method_1_code 0 = .ok (.aload_n 0, 1) := by decide +kernel
theorem d_PE_init_1 : decode prog_9_method_1_code 1 = .ok (.invokespecial 1, 3) := by decide +kernel
theorem d_PE_init_4 : decode prog_9_method_1_code 4 = .ok (.aload_n 0, 1) := by decide +kernel
theorem d_PE_init_5 : decode prog_9_method_1_code 5 = .ok (.iload_n 1, 1) := by decide +kernel
theorem d_PE_init_6 : decode prog_9_method_1_code 6 = .ok (.putfield 7, 3) := by decide +kernel
theorem d_PE_init_9 : decode prog_9_method_1_code 9 = .ok (.return_, 1) := by decide +kernel
def y_PE_addTo : MethodName := ⟨"PageMaker$Penalty", "addTo", "(LPageMaker$Totals;LPageMaker$Frame;)V"⟩
def w_PE_addTo : List Cond := .code y_PE_addTo prog_9_method_2_code 3 none :: TB
theorem d_PE_addTo_0 : decode prog_9_method_2_code 0 = .ok (.return_, 1) := by decide +kernel
def y_TO_init : MethodName := ⟨"PageMaker$Totals", "<init>", "()V"⟩
def w_TO_init : List Cond := .code y_TO_init prog_10_method_1_code 1 none :: TB
theorem d_TO_init_0 : decode prog_10_method_1_code 0 = .ok (.aload_n 0, 1) := by decide +kernel
theorem d_TO_init_1 : decode prog_10_method_1_code 1 = .ok (.invokespecial 3, 3) := by decide +kernel
theorem d_TO_init_4 : decode prog_10_method_1_code 4 = .ok (.aload_n 0, 1) := by decide +kernel
theorem d_TO_init_5 : decode prog_10_method_1_code 5 = .ok (.iconst 4, 1) := by decide +kernel
theorem d_TO_init_6 : decode prog_10_method_1_code 6 = .ok (.newarray .long, 2) := by decide +kernel
theorem d_TO_init_8 : decode prog_10_method_1_code 8 = .ok (.putfield 9, 3) := by decide +kernel
theorem d_TO_init_11 : decode prog_10_method_1_code 11 = .ok (.aload_n 0, 1) := by decide +kernel
theorem d_TO_init_12 : decode prog_10_method_1_code 12 = .ok (.lconst 0, 1) := by decide +kernel
theorem d_TO_init_13 : decode prog_10_method_1_code 13 = .ok (.putfield 15, 3) := by decide +kernel
theorem d_TO_init_16 : decode prog_10_method_1_code 16 = .ok (.aload_n 0, 1) := by decide +kernel
theorem d_TO_init_17 : decode prog_10_method_1_code 17 = .ok (.lconst 0, 1) := by decide +kernel
theorem d_TO_init_18 : decode prog_10_method_1_code 18 = .ok (.putfield 19, 3) := by decide +kernel
theorem d_TO_init_21 : decode prog_10_method_1_code 21 = .ok (.aload_n 0, 1) := by decide +kernel
theorem d_TO_init_22 : decode prog_10_method_1_code 22 = .ok (.lconst 0, 1) := by decide +kernel
theorem d_TO_init_23 : decode prog_10_method_1_code 23 = .ok (.putfield 22, 3) := by decide +kernel
theorem d_TO_init_26 : decode prog_10_method_1_code 26 = .ok (.return_, 1) := by decide +kernel
def y_TO_addTopGlue : MethodName := ⟨"PageMaker$Totals", "addTopGlue", "(LPageMaker$Frame;LPageMaker$Box;)V"⟩
def w_TO_addTopGlue : List Cond := .code y_TO_addTopGlue prog_10_method_2_code 3 none :: TB
theorem d_TO_addTopGlue_0 : decode prog_10_method_2_code 0 = .ok (.aload_n 0, 1) := by decide +kernel
theorem d_TO_addTopGlue_1 : decode prog_10_method_2_code 1 = .ok (.aload_n 1, 1) := by decide +kernel
theorem d_TO_addTopGlue_2 : decode prog_10_method_2_code 2 = .ok (.getfield 25, 3) := by decide +kernel
theorem d_TO_addTopGlue_5 : decode prog_10_method_2_code 5 = .ok (.i2l, 1) := by decide +kernel
theorem d_TO_addTopGlue_6 : decode prog_10_method_2_code 6 = .ok (.aload_n 2, 1) := by decide +kernel
theorem d_TO_addTopGlue_7 : decode prog_10_method_2_code 7 = .ok (.getfield 31, 3) := by decide +kernel
theorem d_TO_addTopGlue_10 : decode prog_10_method_2_code 10 = .ok (.i2l, 1) := by decide +kernel
theorem d_TO_addTopGlue_11 : decode prog_10_method_2_code 11 = .ok (.lsub, 1) := by decide +kernel
theorem d_TO_addTopGlue_12 : decode prog_10_method_2_code 12 = .ok (.lconst 0, 1) := by decide +kernel
theorem d_TO_addTopGlue_13 : decode prog_10_method_2_code 13 = .ok (.invokestatic 36, 3) := by decide +kernel
theorem d_TO_addTopGlue_16 : decode prog_10_method_2_code 16 = .ok (.invokevirtual 42, 3) := by decide +kernel
theorem d_TO_addTopGlue_19 : decode prog_10_method_2_code 19 = .ok (.return_, 1) := by decide +kernel
def y_TO_addSpace : MethodName := ⟨"PageMaker$Totals", "addSpace", "(J)V"⟩
def w_TO_addSpace : List Cond := .code y_TO_addSpace prog_10_method_3_code 3 none :: TB
theorem d_TO_addSpace_0 : decode prog_10_method_3_code 0 = .ok (.aload_n 0, 1) := by decide +kernel
theorem d_TO_addSpace_1 : decode prog_10_method_3_code 1 = .ok (.dup, 1) := by decide +kernel
theorem d_TO_addSpace_2 : decode prog_10_method_3_code 2 = .ok (.getfield 15, 3) := by decide +kernel
theorem d_TO_addSpace_5 : decode prog_10_method_3_code 5 = .ok (.aload_n 0, 1) := by decide +kernel
theorem d_TO_addSpace_6 : decode prog_10_method_3_code 6 = .ok (.getfield 19, 3) := by decide +kernel
theorem d_TO_addSpace_9 : decode prog_10_method_3_code 9 = .ok (.lload_n 1, 1) := by decide +kernel
theorem d_TO_addSpace_10 : decode prog_10_method_3_code 10 = .ok (.ladd, 1) := by decide +kernel
theorem d_TO_addSpace_11 : decode prog_10_method_3_code 11 = .ok (.ladd, 1) := by decide +kernel
theorem d_TO_addSpace_12 : decode prog_10_method_3_code 12 = .ok (.putfield 15, 3) := by decide +kernel
theorem d_TO_addSpace_15 : decode prog_10_method_3_code 15 = .ok (.aload_n 0, 1) := by decide +kernel
theorem d_TO_addSpace_16 : decode prog_10_method_3_code 16 = .ok (.lconst 0, 1) := by decide +kernel
theorem d_TO_addSpace_17 : decode prog_10_method_3_code 17 = .ok (.putfield 19, 3) := by decide +kernel
theorem d_TO_addSpace_20 : decode prog_10_method_3_code 20 = .ok (.return_, 1) := by decide +kernel
def y_TO_greatestOrder : MethodName := ⟨"PageMaker$Totals", "greatestOrder", "()I"⟩
def w_TO_greatestOrder : List Cond := .code y_TO_greatestOrder prog_10_method_4_code 2 (some .int) :: TB
theorem d_TO_greatestOrder_0 : decode prog_10_method_4_code 0 = .ok (.iconst 3, 1) := by decide +kernel
theorem d_TO_greatestOrder_1 : decode prog_10_method_4_code 1 = .ok (.istore_n 1, 1) := by decide +kernel
theorem d_TO_greatestOrder_2 : decode prog_10_method_4_code 2 = .ok (.iload_n 1, 1) := by decide +kernel
theorem d_TO_greatestOrder_3 : decode prog_10_method_4_code 3 = .ok (.ifCond .le 22, 3) := by decide +kernel
theorem d_TO_greatestOrder_6 : decode prog_10_method_4_code 6 = .ok (.aload_n 0, 1) := by decide +kernel
theorem d_TO_greatestOrder_7 : decode prog_10_method_4_code 7 = .ok (.getfield 9, 3) := by decide +kernel
theorem d_TO_greatestOrder_10 : decode prog_10_method_4_code 10 = .ok (.iload_n 1, 1) := by decide +kernel
theorem d_TO_greatestOrder_11 : decode prog_10_method_4_code 11 = .ok (.laload, 1) := by decide +kernel
theorem d_TO_greatestOrder_12 : decode prog_10_method_4_code 12 = .ok (.lconst 0, 1) := by decide +kernel
theorem d_TO_greatestOrder_13 : decode prog_10_method_4_code 13 = .ok (.lcmp, 1) := by decide +kernel
theorem d_TO_greatestOrder_14 : decode prog_10_method_4_code 14 = .ok (.ifCond .le 5, 3) := by decide +kernel
theorem d_TO_greatestOrder_17 : decode prog_10_method_4_code 17 = .ok (.iload_n 1, 1) := by decide +kernel
theorem d_TO_greatestOrder_18 : decode prog_10_method_4_code 18 = .ok (.ireturn, 1) := by decide +kernel
theorem d_TO_greatestOrder_19 : decode prog_10_method_4_code 19 = .ok (.iinc 1 (-1), 3) := by decide +kernel
theorem d_TO_greatestOrder_22 : decode prog_10_method_4_code 22 = .ok (.goto (-20), 3) := by decide +kernel
theorem d_TO_greatestOrder_25 : decode prog_10_method_4_code 25 = .ok (.iconst 0, 1) := by decide +kernel
theorem d_TO_greatestOrder_26 : decode prog_10_method_4_code 26 = .ok (.ireturn, 1) := by decide +kernel
def y_TO_badnessOfExcess : MethodName := ⟨"PageMaker$Totals", "badnessOfExcess", "(J)I"⟩
def w_TO_badnessOfExcess : List Cond := .code y_TO_badnessOfExcess prog_10_method_5_code 3 (some .int) :: TB
theorem d_TO_badnessOfExcess_0 : decode prog_10_method_5_code 0 = .ok (.lload_n 1, 1) := by decide +kernel
theorem d_TO_badnessOfExcess_1 : decode prog_10_method_5_code 1 = .ok (.lconst 0, 1) := by decide +kernel
theorem d_TO_badnessOfExcess_2 : decode prog_10_method_5_code 2 = .ok (.lcmp, 1) := by decide +kernel
theorem d_TO_badnessOfExcess_3 : decode prog_10_method_5_code 3 = .ok (.ifCond .le 25, 3) := by decide +kernel
theorem d_TO_badnessOfExcess_6 : decode prog_10_method_5_code 6 = .ok (.aload_n 0, 1) := by decide +kernel
theorem d_TO_badnessOfExcess_7 : decode prog_10_method_5_code 7 = .ok (.invokevirtual 46, 3) := by decide +kernel
theorem d_TO_badnessOfExcess_10 : decode prog_10_method_5_code 10 = .ok (.ifCond .le 7, 3) := by decide +kernel
theorem d_TO_badnessOfExcess_13 : decode prog_10_method_5_code 13 = .ok (.iconst 0, 1) := by decide +kernel
theorem d_TO_badnessOfExcess_14 : decode prog_10_method_5_code 14 = .ok (.goto 13, 3) := by decide +kernel
theorem d_TO_badnessOfExcess_17 : decode prog_10_method_5_code 17 = .ok (.lload_n 1, 1) := by decide +kernel
theorem d_TO_badnessOfExcess_18 : decode prog_10_method_5_code 18 = .ok (.aload_n 0, 1) := by decide +kernel
theorem d_TO_badnessOfExcess_19 : decode prog_10_method_5_code 19 = .ok (.getfield 9, 3) := by decide +kernel
theorem d_TO_badnessOfExcess_22 : decode prog_10_method_5_code 22 = .ok (.iconst 0, 1) := by decide +kernel
theorem d_TO_badnessOfExcess_23 : decode prog_10_method_5_code 23 = .ok (.laload, 1) := by decide +kernel
theorem d_TO_badnessOfExcess_24 : decode prog_10_method_5_code 24 = .ok (.invokestatic 50, 3) := by decide +kernel
theorem d_TO_badnessOfExcess_27 : decode prog_10_method_5_code 27 = .ok (.ireturn, 1) := by decide +kernel
theorem d_TO_badnessOfExcess_28 : decode prog_10_method_5_code 28 = .ok (.lload_n 1, 1) := by decide +kernel
theorem d_TO_badnessOfExcess_29 : decode prog_10_method_5_code 29 = .ok (.lconst 0, 1) := by decide +kernel
theorem d_TO_badnessOfExcess_30 : decode prog_10_method_5_code 30 = .ok (.lcmp, 1) := by decide +kernel
theorem d_TO_badnessOfExcess_31 : decode prog_10_method_5_code 31 = .ok (.ifCond .ne 5, 3) := by decide +kernel
theorem d_TO_badnessOfExcess_34 : decode prog_10_method_5_code 34 = .ok (.iconst 0, 1) := by decide +kernel
theorem d_TO_badnessOfExcess_35 : decode prog_10_method_5_code 35 = .ok (.ireturn, 1) := by decide +kernel
theorem d_TO_badnessOfExcess_36 : decode prog_10_method_5_code 36 = .ok (.lload_n 1, 1) := by decide +kernel
theorem d_TO_badnessOfExcess_37 : decode prog_10_method_5_code 37 = .ok (.lneg, 1) := by decide +kernel
theorem d_TO_badnessOfExcess_38 : decode prog_10_method_5_code 38 = .ok (.aload_n 0, 1) := by decide +kernel
theorem d_TO_badnessOfExcess_39 : decode prog_10_method_5_code 39 = .ok (.getfield 22, 3) := by decide +kernel
theorem d_TO_badnessOfExcess_42 : decode prog_10_method_5_code 42 = .ok (.lcmp, 1) := by decide +kernel
theorem d_TO_badnessOfExcess_43 : decode prog_10_method_5_code 43 = .ok (.ifCond .le 8, 3) := by decide +kernel
theorem d_TO_badnessOfExcess_46 : decode prog_10_method_5_code 46 = .ok (.ldc 54, 2) := by decide +kernel
theorem d_TO_badnessOfExcess_48 : decode prog_10_method_5_code 48 = .ok (.goto 12, 3) := by decide +kernel
theorem d_TO_badnessOfExcess_51 : decode prog_10_method_5_code 51 = .ok (.lload_n 1, 1) := by decide +kernel
theorem d_TO_badnessOfExcess_52 : decode prog_10_method_5_code 52 = .ok (.lneg, 1) := by decide +kernel
theorem d_TO_badnessOfExcess_53 : decode prog_10_method_5_code 53 = .ok (.aload_n 0, 1) := by decide +kernel
theorem d_TO_badnessOfExcess_54 : decode prog_10_method_5_code 54 = .ok (.getfield 22, 3) := by decide +kernel
theorem d_TO_badnessOfExcess_57 : decode prog_10_method_5_code 57 = .ok (.invokestatic 50, 3) := by decide +kernel
theorem d_TO_badnessOfExcess_60 : decode prog_10_method_5_code 60 = .ok (.ireturn, 1) := by decide +kernel
