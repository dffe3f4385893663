/-! methods of PageMaker -/
def y_PM_init : MethodName := ⟨"PageMaker", "<init>", "()V"⟩
def w_PM_init : List Cond := .code y_PM_init prog_1_method_1_code 1 none :: TB
theorem d_PM_init_0 : decode prog_1_method_1_code 0 = .ok (.aload_n 0, 1) := by decide +kernel
theorem d_PM_init_1 : decode prog_1_method_1_code 1 = .ok (.invokespecial 3, 3) := by decide +kernel
theorem d_PM_init_4 : decode prog_1_method_1_code 4 = .ok (.aload_n 0, 1) := by decide +kernel
theorem d_PM_init_5 : decode prog_1_method_1_code 5 = .ok (.new 9, 3) := by decide +kernel
theorem d_PM_init_8 : decode prog_1_method_1_code 8 = .ok (.dup, 1) := by decide +kernel
theorem d_PM_init_9 : decode prog_1_method_1_code 9 = .ok (.invokespecial 11, 3) := by decide +kernel
theorem d_PM_init_12 : decode prog_1_method_1_code 12 = .ok (.putfield 12, 3) := by decide +kernel
theorem d_PM_init_15 : decode prog_1_method_1_code 15 = .ok (.aload_n 0, 1) := by decide +kernel
theorem d_PM_init_16 : decode prog_1_method_1_code 16 = .ok (.new 9, 3) := by decide +kernel
theorem d_PM_init_19 : decode prog_1_method_1_code 19 = .ok (.dup, 1) := by decide +kernel
theorem d_PM_init_20 : decode prog_1_method_1_code 20 = .ok (.invokespecial 11, 3) := by decide +kernel
theorem d_PM_init_23 : decode prog_1_method_1_code 23 = .ok (.putfield 16, 3) := by decide +kernel
theorem d_PM_init_26 : decode prog_1_method_1_code 26 = .ok (.aload_n 0, 1) := by decide +kernel
theorem d_PM_init_27 : decode prog_1_method_1_code 27 = .ok (.new 19, 3) := by decide +kernel
theorem d_PM_init_30 : decode prog_1_method_1_code 30 = .ok (.dup, 1) := by decide +kernel
theorem d_PM_init_31 : decode prog_1_method_1_code 31 = .ok (.ldc 21, 2) := by decide +kernel
theorem d_PM_init_33 : decode prog_1_method_1_code 33 = .ok (.ldc 22, 2) := by decide +kernel
theorem d_PM_init_35 : decode prog_1_method_1_code 35 = .ok (.ldc 23, 2) := by decide +kernel
theorem d_PM_init_37 : decode prog_1_method_1_code 37 = .ok (.invokespecial 24, 3) := by decide +kernel
theorem d_PM_init_40 : decode prog_1_method_1_code 40 = .ok (.putfield 27, 3) := by decide +kernel
theorem d_PM_init_43 : decode prog_1_method_1_code 43 = .ok (.aload_n 0, 1) := by decide +kernel
theorem d_PM_init_44 : decode prog_1_method_1_code 44 = .ok (.new 31, 3) := by decide +kernel
theorem d_PM_init_47 : decode prog_1_method_1_code 47 = .ok (.dup, 1) := by decide +kernel
theorem d_PM_init_48 : decode prog_1_method_1_code 48 = .ok (.aload_n 0, 1) := by decide +kernel
theorem d_PM_init_49 : decode prog_1_method_1_code 49 = .ok (.getfield 27, 3) := by decide +kernel
theorem d_PM_init_52 : decode prog_1_method_1_code 52 = .ok (.invokespecial 33, 3) := by decide +kernel
theorem d_PM_init_55 : decode prog_1_method_1_code 55 = .ok (.putfield 36, 3) := by decide +kernel
theorem d_PM_init_58 : decode prog_1_method_1_code 58 = .ok (.return_, 1) := by decide +kernel
def y_PM_frame : MethodName := ⟨"PageMaker", "frame", "(III)V"⟩
def w_PM_frame : List Cond := .code y_PM_frame prog_1_method_2_code 4 none :: TB
theorem d_PM_frame_0 : decode prog_1_method_2_code 0 = .ok (.iload_n 1, 1) := by decide +kernel
theorem d_PM_frame_1 : decode prog_1_method_2_code 1 = .ok (.invokestatic 40, 3) := by decide +kernel
theorem d_PM_frame_4 : decode prog_1_method_2_code 4 = .ok (.ifCond .eq 17, 3) := by decide +kernel
theorem d_PM_frame_7 : decode prog_1_method_2_code 7 = .ok (.iload_n 2, 1) := by decide +kernel
theorem d_PM_frame_8 : decode prog_1_method_2_code 8 = .ok (.invokestatic 44, 3) := by decide +kernel
theorem d_PM_frame_11 : decode prog_1_method_2_code 11 = .ok (.ifCond .eq 10, 3) := by decide +kernel
theorem d_PM_frame_14 : decode prog_1_method_2_code 14 = .ok (.iload_n 3, 1) := by decide +kernel
theorem d_PM_frame_15 : decode prog_1_method_2_code 15 = .ok (.invokestatic 40, 3) := by decide +kernel
theorem d_PM_frame_18 : decode prog_1_method_2_code 18 = .ok (.ifCond .ne 13, 3) := by decide +kernel
theorem d_PM_frame_21 : decode prog_1_method_2_code 21 = .ok (.new 47, 3) := by decide +kernel
theorem d_PM_frame_24 : decode prog_1_method_2_code 24 = .ok (.dup, 1) := by decide +kernel
theorem d_PM_frame_25 : decode prog_1_method_2_code 25 = .ok (.ldc 49, 2) := by decide +kernel
theorem d_PM_frame_27 : decode prog_1_method_2_code 27 = .ok (.invokespecial 51, 3) := by decide +kernel
theorem d_PM_frame_30 : decode prog_1_method_2_code 30 = .ok (.athrow, 1) := by decide +kernel
theorem d_PM_frame_31 : decode prog_1_method_2_code 31 = .ok (.aload_n 0, 1) := by decide +kernel
theorem d_PM_frame_32 : decode prog_1_method_2_code 32 = .ok (.new 19, 3) := by decide +kernel
theorem d_PM_frame_35 : decode prog_1_method_2_code 35 = .ok (.dup, 1) := by decide +kernel
theorem d_PM_frame_36 : decode prog_1_method_2_code 36 = .ok (.iload_n 1, 1) := by decide +kernel
theorem d_PM_frame_37 : decode prog_1_method_2_code 37 = .ok (.iload_n 2, 1) := by decide +kernel
theorem d_PM_frame_38 : decode prog_1_method_2_code 38 = .ok (.iload_n 3, 1) := by decide +kernel
theorem d_PM_frame_39 : decode prog_1_method_2_code 39 = .ok (.invokespecial 24, 3) := by decide +kernel
theorem d_PM_frame_42 : decode prog_1_method_2_code 42 = .ok (.putfield 27, 3) := by decide +kernel
theorem d_PM_frame_45 : decode prog_1_method_2_code 45 = .ok (.return_, 1) := by decide +kernel
def y_PM_box : MethodName := ⟨"PageMaker", "box", "(III)I"⟩
def w_PM_box : List Cond := .code y_PM_box prog_1_method_3_code 4 (some .int) :: TB
theorem d_PM_box_0 : decode prog_1_method_3_code 0 = .ok (.iload_n 1, 1) := by decide +kernel
theorem d_PM_box_1 : decode prog_1_method_3_code 1 = .ok (.ifCond .lt 17, 3) := by decide +kernel
theorem d_PM_box_4 : decode prog_1_method_3_code 4 = .ok (.iload_n 2, 1) := by decide +kernel
theorem d_PM_box_5 : decode prog_1_method_3_code 5 = .ok (.invokestatic 44, 3) := by decide +kernel
theorem d_PM_box_8 : decode prog_1_method_3_code 8 = .ok (.ifCond .eq 10, 3) := by decide +kernel
theorem d_PM_box_11 : decode prog_1_method_3_code 11 = .ok (.iload_n 3, 1) := by decide +kernel
theorem d_PM_box_12 : decode prog_1_method_3_code 12 = .ok (.invokestatic 44, 3) := by decide +kernel
theorem d_PM_box_15 : decode prog_1_method_3_code 15 = .ok (.ifCond .ne 13, 3) := by decide +kernel
theorem d_PM_box_18 : decode prog_1_method_3_code 18 = .ok (.new 47, 3) := by decide +kernel
theorem d_PM_box_21 : decode prog_1_method_3_code 21 = .ok (.dup, 1) := by decide +kernel
theorem d_PM_box_22 : decode prog_1_method_3_code 22 = .ok (.ldc 54, 2) := by decide +kernel
theorem d_PM_box_24 : decode prog_1_method_3_code 24 = .ok (.invokespecial 51, 3) := by decide +kernel
theorem d_PM_box_27 : decode prog_1_method_3_code 27 = .ok (.athrow, 1) := by decide +kernel
theorem d_PM_box_28 : decode prog_1_method_3_code 28 = .ok (.aload_n 0, 1) := by decide +kernel
theorem d_PM_box_29 : decode prog_1_method_3_code 29 = .ok (.invokevirtual 56, 3) := by decide +kernel
theorem d_PM_box_32 : decode prog_1_method_3_code 32 = .ok (.aload_n 0, 1) := by decide +kernel
theorem d_PM_box_33 : decode prog_1_method_3_code 33 = .ok (.new 59, 3) := by decide +kernel
theorem d_PM_box_36 : decode prog_1_method_3_code 36 = .ok (.dup, 1) := by decide +kernel
theorem d_PM_box_37 : decode prog_1_method_3_code 37 = .ok (.iload_n 2, 1) := by decide +kernel
theorem d_PM_box_38 : decode prog_1_method_3_code 38 = .ok (.iload_n 3, 1) := by decide +kernel
theorem d_PM_box_39 : decode prog_1_method_3_code 39 = .ok (.invokespecial 61, 3) := by decide +kernel
theorem d_PM_box_42 : decode prog_1_method_3_code 42 = .ok (.invokevirtual 64, 3) := by decide +kernel
theorem d_PM_box_45 : decode prog_1_method_3_code 45 = .ok (.ireturn, 1) := by decide +kernel
def y_PM_glue : MethodName := ⟨"PageMaker", "glue", "(IIII)I"⟩
def w_PM_glue : List Cond := .code y_PM_glue prog_1_method_4_code 5 (some .int) :: TB
theorem d_PM_glue_0 : decode prog_1_method_4_code 0 = .ok (.iload_n 1, 1) := by decide +kernel
theorem d_PM_glue_1 : decode prog_1_method_4_code 1 = .ok (.invokestatic 44, 3) := by decide +kernel
theorem d_PM_glue_4 : decode prog_1_method_4_code 4 = .ok (.ifCond .eq 18, 3) := by decide +kernel
theorem d_PM_glue_7 : decode prog_1_method_4_code 7 = .ok (.iload_n 2, 1) := by decide +kernel
theorem d_PM_glue_8 : decode prog_1_method_4_code 8 = .ok (.invokestatic 40, 3) := by decide +kernel
theorem d_PM_glue_11 : decode prog_1_method_4_code 11 = .ok (.ifCond .eq 11, 3) := by decide +kernel
theorem d_PM_glue_14 : decode prog_1_method_4_code 14 = .ok (.iload 4, 2) := by decide +kernel
theorem d_PM_glue_16 : decode prog_1_method_4_code 16 = .ok (.invokestatic 40, 3) := by decide +kernel
theorem d_PM_glue_19 : decode prog_1_method_4_code 19 = .ok (.ifCond .ne 13, 3) := by decide +kernel
theorem d_PM_glue_22 : decode prog_1_method_4_code 22 = .ok (.new 47, 3) := by decide +kernel
theorem d_PM_glue_25 : decode prog_1_method_4_code 25 = .ok (.dup, 1) := by decide +kernel
theorem d_PM_glue_26 : decode prog_1_method_4_code 26 = .ok (.ldc 68, 2) := by decide +kernel
theorem d_PM_glue_28 : decode prog_1_method_4_code 28 = .ok (.invokespecial 51, 3) := by decide +kernel
theorem d_PM_glue_31 : decode prog_1_method_4_code 31 = .ok (.athrow, 1) := by decide +kernel
theorem d_PM_glue_32 : decode prog_1_method_4_code 32 = .ok (.iload_n 3, 1) := by decide +kernel
theorem d_PM_glue_33 : decode prog_1_method_4_code 33 = .ok (.ifCond .lt 8, 3) := by decide +kernel
theorem d_PM_glue_36 : decode prog_1_method_4_code 36 = .ok (.iload_n 3, 1) := by decide +kernel
theorem d_PM_glue_37 : decode prog_1_method_4_code 37 = .ok (.iconst 4, 1) := by decide +kernel
theorem d_PM_glue_38 : decode prog_1_method_4_code 38 = .ok (.if_icmp .lt 13, 3) := by decide +kernel
theorem d_PM_glue_41 : decode prog_1_method_4_code 41 = .ok (.new 47, 3) := by decide +kernel
theorem d_PM_glue_44 : decode prog_1_method_4_code 44 = .ok (.dup, 1) := by decide +kernel
theorem d_PM_glue_45 : decode prog_1_method_4_code 45 = .ok (.ldc 70, 2) := by decide +kernel
theorem d_PM_glue_47 : decode prog_1_method_4_code 47 = .ok (.invokespecial 51, 3) := by decide +kernel
theorem d_PM_glue_50 : decode prog_1_method_4_code 50 = .ok (.athrow, 1) := by decide +kernel
theorem d_PM_glue_51 : decode prog_1_method_4_code 51 = .ok (.aload_n 0, 1) := by decide +kernel
theorem d_PM_glue_52 : decode prog_1_method_4_code 52 = .ok (.invokevirtual 56, 3) := by decide +kernel
theorem d_PM_glue_55 : decode prog_1_method_4_code 55 = .ok (.aload_n 0, 1) := by decide +kernel
theorem d_PM_glue_56 : decode prog_1_method_4_code 56 = .ok (.new 72, 3) := by decide +kernel
theorem d_PM_glue_59 : decode prog_1_method_4_code 59 = .ok (.dup, 1) := by decide +kernel
theorem d_PM_glue_60 : decode prog_1_method_4_code 60 = .ok (.iload_n 1, 1) := by decide +kernel
theorem d_PM_glue_61 : decode prog_1_method_4_code 61 = .ok (.iload_n 2, 1) := by decide +kernel
theorem d_PM_glue_62 : decode prog_1_method_4_code 62 = .ok (.iload_n 3, 1) := by decide +kernel
theorem d_PM_glue_63 : decode prog_1_method_4_code 63 = .ok (.iload 4, 2) := by decide +kernel
theorem d_PM_glue_65 : decode prog_1_method_4_code 65 = .ok (.invokespecial 74, 3) := by decide +kernel
theorem d_PM_glue_68 : decode prog_1_method_4_code 68 = .ok (.invokevirtual 64, 3) := by decide +kernel
theorem d_PM_glue_71 : decode prog_1_method_4_code 71 = .ok (.ireturn, 1) := by decide +kernel
def y_PM_kern : MethodName := ⟨"PageMaker", "kern", "(I)I"⟩
def w_PM_kern : List Cond := .code y_PM_kern prog_1_method_5_code 2 (some .int) :: TB
theorem d_PM_kern_0 : decode prog_1_method_5_code 0 = .ok (.iload_n 1, 1) := by decide +kernel
theorem d_PM_kern_1 : decode prog_1_method_5_code 1 = .ok (.invokestatic 44, 3) := by decide +kernel
theorem d_PM_kern_4 : decode prog_1_method_5_code 4 = .ok (.ifCond .ne 13, 3) := by decide +kernel
theorem d_PM_kern_7 : decode prog_1_method_5_code 7 = .ok (.new 47, 3) := by decide +kernel
theorem d_PM_kern_10 : decode prog_1_method_5_code 10 = .ok (.dup, 1) := by decide +kernel
theorem d_PM_kern_11 : decode prog_1_method_5_code 11 = .ok (.ldc 77, 2) := by decide +kernel
theorem d_PM_kern_13 : decode prog_1_method_5_code 13 = .ok (.invokespecial 51, 3) := by decide +kernel
theorem d_PM_kern_16 : decode prog_1_method_5_code 16 = .ok (.athrow, 1) := by decide +kernel
theorem d_PM_kern_17 : decode prog_1_method_5_code 17 = .ok (.aload_n 0, 1) := by decide +kernel
theorem d_PM_kern_18 : decode prog_1_method_5_code 18 = .ok (.invokevirtual 56, 3) := by decide +kernel
theorem d_PM_kern_21 : decode prog_1_method_5_code 21 = .ok (.aload_n 0, 1) := by decide +kernel
theorem d_PM_kern_22 : decode prog_1_method_5_code 22 = .ok (.new 79, 3) := by decide +kernel
theorem d_PM_kern_25 : decode prog_1_method_5_code 25 = .ok (.dup, 1) := by decide +kernel
theorem d_PM_kern_26 : decode prog_1_method_5_code 26 = .ok (.iload_n 1, 1) := by decide +kernel
theorem d_PM_kern_27 : decode prog_1_method_5_code 27 = .ok (.invokespecial 81, 3) := by decide +kernel
theorem d_PM_kern_30 : decode prog_1_method_5_code 30 = .ok (.invokevirtual 64, 3) := by decide +kernel
theorem d_PM_kern_33 : decode prog_1_method_5_code 33 = .ok (.ireturn, 1) := by decide +kernel
def y_PM_penalty : MethodName := ⟨"PageMaker", "penalty", "(I)I"⟩
def w_PM_penalty : List Cond := .code y_PM_penalty prog_1_method_6_code 2 (some .int) :: TB
theorem d_PM_penalty_0 : decode prog_1_method_6_code 0 = .ok (.iload_n 1, 1) := by decide +kernel
theorem d_PM_penalty_1 : decode prog_1_method_6_code 1 = .ok (.ldc 84, 2) := by decide +kernel
theorem d_PM_penalty_3 : decode prog_1_method_6_code 3 = .ok (.if_icmp .lt 9, 3) := by decide +kernel
theorem d_PM_penalty_6 : decode prog_1_method_6_code 6 = .ok (.iload_n 1, 1) := by decide +kernel
theorem d_PM_penalty_7 : decode prog_1_method_6_code 7 = .ok (.ldc 85, 2) := by decide +kernel
theorem d_PM_penalty_9 : decode prog_1_method_6_code 9 = .ok (.if_icmp .le 13, 3) := by decide +kernel
theorem d_PM_penalty_12 : decode prog_1_method_6_code 12 = .ok (.new 47, 3) := by decide +kernel
theorem d_PM_penalty_15 : decode prog_1_method_6_code 15 = .ok (.dup, 1) := by decide +kernel
theorem d_PM_penalty_16 : decode prog_1_method_6_code 16 = .ok (.ldc 86, 2) := by decide +kernel
theorem d_PM_penalty_18 : decode prog_1_method_6_code 18 = .ok (.invokespecial 51, 3) := by decide +kernel
theorem d_PM_penalty_21 : decode prog_1_method_6_code 21 = .ok (.athrow, 1) := by decide +kernel
theorem d_PM_penalty_22 : decode prog_1_method_6_code 22 = .ok (.aload_n 0, 1) := by decide +kernel
theorem d_PM_penalty_23 : decode prog_1_method_6_code 23 = .ok (.invokevirtual 56, 3) := by decide +kernel
theorem d_PM_penalty_26 : decode prog_1_method_6_code 26 = .ok (.aload_n 0, 1) := by decide +kernel
theorem d_PM_penalty_27 : decode prog_1_method_6_code 27 = .ok (.new 88, 3) := by decide +kernel
theorem d_PM_penalty_30 : decode prog_1_method_6_code 30 = .ok (.dup, 1) := by decide +kernel
theorem d_PM_penalty_31 : decode prog_1_method_6_code 31 = .ok (.iload_n 1, 1) := by decide +kernel
theorem d_PM_penalty_32 : decode prog_1_method_6_code 32 = .ok (.invokespecial 90, 3) := by decide +kernel
theorem d_PM_penalty_35 : decode prog_1_method_6_code 35 = .ok (.invokevirtual 64, 3) := by decide +kernel
theorem d_PM_penalty_38 : decode prog_1_method_6_code 38 = .ok (.ireturn, 1) := by decide +kernel
def y_PM_items : MethodName := ⟨"PageMaker", "items", "()I"⟩
def w_PM_items : List Cond := .code y_PM_items prog_1_method_7_code 1 (some .int) :: TB
theorem d_PM_items_0 : decode prog_1_method_7_code 0 = .ok (.aload_n 0, 1) := by decide +kernel
theorem d_PM_items_1 : decode prog_1_method_7_code 1 = .ok (.getfield 12, 3) := by decide +kernel
theorem d_PM_items_4 : decode prog_1_method_7_code 4 = .ok (.invokevirtual 91, 3) := by decide +kernel
theorem d_PM_items_7 : decode prog_1_method_7_code 7 = .ok (.ireturn, 1) := by decide +kernel
def y_PM_pages : MethodName := ⟨"PageMaker", "pages", "()I"⟩
def w_PM_pages : List Cond := .code y_PM_pages prog_1_method_8_code 1 (some .int) :: TB
theorem d_PM_pages_0 : decode prog_1_method_8_code 0 = .ok (.aload_n 0, 1) := by decide +kernel
theorem d_PM_pages_1 : decode prog_1_method_8_code 1 = .ok (.getfield 16, 3) := by decide +kernel
theorem d_PM_pages_4 : decode prog_1_method_8_code 4 = .ok (.invokevirtual 91, 3) := by decide +kernel
theorem d_PM_pages_7 : decode prog_1_method_8_code 7 = .ok (.ireturn, 1) := by decide +kernel
def y_PM_page : MethodName := ⟨"PageMaker", "page", "(II)J"⟩
def w_PM_page : List Cond := .code y_PM_page prog_1_method_9_code 4 (some .long) :: TB
theorem d_PM_page_0 : decode prog_1_method_9_code 0 = .ok (.aload_n 0, 1) := by decide +kernel
theorem d_PM_page_1 : decode prog_1_method_9_code 1 = .ok (.iload_n 1, 1) := by decide +kernel
theorem d_PM_page_2 : decode prog_1_method_9_code 2 = .ok (.invokevirtual 95, 3) := by decide +kernel
theorem d_PM_page_5 : decode prog_1_method_9_code 5 = .ok (.astore_n 3, 1) := by decide +kernel
theorem d_PM_page_6 : decode prog_1_method_9_code 6 = .ok (.iload_n 2, 1) := by decide +kernel
theorem d_PM_page_7 : decode prog_1_method_9_code 7 = .ok (.tableswitch 91 0 7 #[45, 51, 57, 63, 68, 74, 79, 85], 45) := by decide +kernel
theorem d_PM_page_52 : decode prog_1_method_9_code 52 = .ok (.aload_n 3, 1) := by decide +kernel
theorem d_PM_page_53 : decode prog_1_method_9_code 53 = .ok (.getfield 99, 3) := by decide +kernel
theorem d_PM_page_56 : decode prog_1_method_9_code 56 = .ok (.i2l, 1) := by decide +kernel
theorem d_PM_page_57 : decode prog_1_method_9_code 57 = .ok (.lreturn, 1) := by decide +kernel
theorem d_PM_page_58 : decode prog_1_method_9_code 58 = .ok (.aload_n 3, 1) := by decide +kernel
theorem d_PM_page_59 : decode prog_1_method_9_code 59 = .ok (.getfield 105, 3) := by decide +kernel
theorem d_PM_page_62 : decode prog_1_method_9_code 62 = .ok (.i2l, 1) := by decide +kernel
theorem d_PM_page_63 : decode prog_1_method_9_code 63 = .ok (.lreturn, 1) := by decide +kernel
theorem d_PM_page_64 : decode prog_1_method_9_code 64 = .ok (.aload_n 3, 1) := by decide +kernel
theorem d_PM_page_65 : decode prog_1_method_9_code 65 = .ok (.getfield 108, 3) := by decide +kernel
theorem d_PM_page_68 : decode prog_1_method_9_code 68 = .ok (.i2l, 1) := by decide +kernel
theorem d_PM_page_69 : decode prog_1_method_9_code 69 = .ok (.lreturn, 1) := by decide +kernel
theorem d_PM_page_70 : decode prog_1_method_9_code 70 = .ok (.aload_n 3, 1) := by decide +kernel
theorem d_PM_page_71 : decode prog_1_method_9_code 71 = .ok (.getfield 111, 3) := by decide +kernel
theorem d_PM_page_74 : decode prog_1_method_9_code 74 = .ok (.lreturn, 1) := by decide +kernel
theorem d_PM_page_75 : decode prog_1_method_9_code 75 = .ok (.aload_n 3, 1) := by decide +kernel
theorem d_PM_page_76 : decode prog_1_method_9_code 76 = .ok (.getfield 115, 3) := by decide +kernel
theorem d_PM_page_79 : decode prog_1_method_9_code 79 = .ok (.i2l, 1) := by decide +kernel
theorem d_PM_page_80 : decode prog_1_method_9_code 80 = .ok (.lreturn, 1) := by decide +kernel
theorem d_PM_page_81 : decode prog_1_method_9_code 81 = .ok (.aload_n 3, 1) := by decide +kernel
theorem d_PM_page_82 : decode prog_1_method_9_code 82 = .ok (.getfield 118, 3) := by decide +kernel
theorem d_PM_page_85 : decode prog_1_method_9_code 85 = .ok (.lreturn, 1) := by decide +kernel
theorem d_PM_page_86 : decode prog_1_method_9_code 86 = .ok (.aload_n 3, 1) := by decide +kernel
theorem d_PM_page_87 : decode prog_1_method_9_code 87 = .ok (.getfield 121, 3) := by decide +kernel
theorem d_PM_page_90 : decode prog_1_method_9_code 90 = .ok (.i2l, 1) := by decide +kernel
theorem d_PM_page_91 : decode prog_1_method_9_code 91 = .ok (.lreturn, 1) := by decide +kernel
theorem d_PM_page_92 : decode prog_1_method_9_code 92 = .ok (.aload_n 3, 1) := by decide +kernel
theorem d_PM_page_93 : decode prog_1_method_9_code 93 = .ok (.getfield 124, 3) := by decide +kernel
theorem d_PM_page_96 : decode prog_1_method_9_code 96 = .ok (.i2l, 1) := by decide +kernel
theorem d_PM_page_97 : decode prog_1_method_9_code 97 = .ok (.lreturn, 1) := by decide +kernel
theorem d_PM_page_98 : decode prog_1_method_9_code 98 = .ok (.new 127, 3) := by decide +kernel
theorem d_PM_page_101 : decode prog_1_method_9_code 101 = .ok (.dup, 1) := by decide +kernel
theorem d_PM_page_102 : decode prog_1_method_9_code 102 = .ok (.ldc 129, 2) := by decide +kernel
theorem d_PM_page_104 : decode prog_1_method_9_code 104 = .ok (.invokespecial 131, 3) := by decide +kernel
theorem d_PM_page_107 : decode prog_1_method_9_code 107 = .ok (.athrow, 1) := by decide +kernel
def y_PM_stands : MethodName := ⟨"PageMaker", "stands", "(II)J"⟩
def w_PM_stands : List Cond := .code y_PM_stands prog_1_method_10_code 6 (some .long) :: TB
theorem d_PM_stands_0 : decode prog_1_method_10_code 0 = .ok (.aload_n 0, 1) := by decide +kernel
theorem d_PM_stands_1 : decode prog_1_method_10_code 1 = .ok (.iload_n 1, 1) := by decide +kernel
theorem d_PM_stands_2 : decode prog_1_method_10_code 2 = .ok (.invokevirtual 95, 3) := by decide +kernel
theorem d_PM_stands_5 : decode prog_1_method_10_code 5 = .ok (.astore_n 3, 1) := by decide +kernel
theorem d_PM_stands_6 : decode prog_1_method_10_code 6 = .ok (.aload_n 0, 1) := by decide +kernel
theorem d_PM_stands_7 : decode prog_1_method_10_code 7 = .ok (.iload_n 2, 1) := by decide +kernel
theorem d_PM_stands_8 : decode prog_1_method_10_code 8 = .ok (.invokevirtual 132, 3) := by decide +kernel
theorem d_PM_stands_11 : decode prog_1_method_10_code 11 = .ok (.ifCond .eq 77, 3) := by decide +kernel
theorem d_PM_stands_14 : decode prog_1_method_10_code 14 = .ok (.aload_n 3, 1) := by decide +kernel
theorem d_PM_stands_15 : decode prog_1_method_10_code 15 = .ok (.iload_n 2, 1) := by decide +kernel
theorem d_PM_stands_16 : decode prog_1_method_10_code 16 = .ok (.invokevirtual 135, 3) := by decide +kernel
theorem d_PM_stands_19 : decode prog_1_method_10_code 19 = .ok (.ifCond .eq 69, 3) := by decide +kernel
theorem d_PM_stands_22 : decode prog_1_method_10_code 22 = .ok (.aload_n 0, 1) := by decide +kernel
theorem d_PM_stands_23 : decode prog_1_method_10_code 23 = .ok (.getfield 12, 3) := by decide +kernel
theorem d_PM_stands_26 : decode prog_1_method_10_code 26 = .ok (.iload_n 2, 1) := by decide +kernel
theorem d_PM_stands_27 : decode prog_1_method_10_code 27 = .ok (.invokevirtual 138, 3) := by decide +kernel
theorem d_PM_stands_30 : decode prog_1_method_10_code 30 = .ok (.astore 5, 2) := by decide +kernel
theorem d_PM_stands_32 : decode prog_1_method_10_code 32 = .ok (.aload 5, 2) := by decide +kernel
theorem d_PM_stands_34 : decode prog_1_method_10_code 34 = .ok (.instanceof 59, 3) := by decide +kernel
theorem d_PM_stands_37 : decode prog_1_method_10_code 37 = .ok (.ifCond .eq 51, 3) := by decide +kernel
theorem d_PM_stands_40 : decode prog_1_method_10_code 40 = .ok (.aload 5, 2) := by decide +kernel
theorem d_PM_stands_42 : decode prog_1_method_10_code 42 = .ok (.checkcast 59, 3) := by decide +kernel
theorem d_PM_stands_45 : decode prog_1_method_10_code 45 = .ok (.astore 4, 2) := by decide +kernel
theorem d_PM_stands_47 : decode prog_1_method_10_code 47 = .ok (.aload_n 0, 1) := by decide +kernel
theorem d_PM_stands_48 : decode prog_1_method_10_code 48 = .ok (.aload_n 3, 1) := by decide +kernel
theorem d_PM_stands_49 : decode prog_1_method_10_code 49 = .ok (.getfield 142, 3) := by decide +kernel
theorem d_PM_stands_52 : decode prog_1_method_10_code 52 = .ok (.aload_n 3, 1) := by decide +kernel
theorem d_PM_stands_53 : decode prog_1_method_10_code 53 = .ok (.getfield 99, 3) := by decide +kernel
theorem d_PM_stands_56 : decode prog_1_method_10_code 56 = .ok (.iload_n 2, 1) := by decide +kernel
theorem d_PM_stands_57 : decode prog_1_method_10_code 57 = .ok (.invokevirtual 145, 3) := by decide +kernel
theorem d_PM_stands_60 : decode prog_1_method_10_code 60 = .ok (.astore 5, 2) := by decide +kernel
theorem d_PM_stands_62 : decode prog_1_method_10_code 62 = .ok (.aload 5, 2) := by decide +kernel
theorem d_PM_stands_64 : decode prog_1_method_10_code 64 = .ok (.getfield 149, 3) := by decide +kernel
theorem d_PM_stands_67 : decode prog_1_method_10_code 67 = .ok (.aload 5, 2) := by decide +kernel
theorem d_PM_stands_69 : decode prog_1_method_10_code 69 = .ok (.getfield 154, 3) := by decide +kernel
theorem d_PM_stands_72 : decode prog_1_method_10_code 72 = .ok (.ladd, 1) := by decide +kernel
theorem d_PM_stands_73 : decode prog_1_method_10_code 73 = .ok (.aload 4, 2) := by decide +kernel
theorem d_PM_stands_75 : decode prog_1_method_10_code 75 = .ok (.getfield 157, 3) := by decide +kernel
theorem d_PM_stands_78 : decode prog_1_method_10_code 78 = .ok (.i2l, 1) := by decide +kernel
theorem d_PM_stands_79 : decode prog_1_method_10_code 79 = .ok (.ladd, 1) := by decide +kernel
theorem d_PM_stands_80 : decode prog_1_method_10_code 80 = .ok (.aload_n 3, 1) := by decide +kernel
theorem d_PM_stands_81 : decode prog_1_method_10_code 81 = .ok (.aload 5, 2) := by decide +kernel
theorem d_PM_stands_83 : decode prog_1_method_10_code 83 = .ok (.invokevirtual 160, 3) := by decide +kernel
theorem d_PM_stands_86 : decode prog_1_method_10_code 86 = .ok (.ladd, 1) := by decide +kernel
theorem d_PM_stands_87 : decode prog_1_method_10_code 87 = .ok (.lreturn, 1) := by decide +kernel
theorem d_PM_stands_88 : decode prog_1_method_10_code 88 = .ok (.new 127, 3) := by decide +kernel
theorem d_PM_stands_91 : decode prog_1_method_10_code 91 = .ok (.dup, 1) := by decide +kernel
theorem d_PM_stands_92 : decode prog_1_method_10_code 92 = .ok (.ldc 164, 2) := by decide +kernel
theorem d_PM_stands_94 : decode prog_1_method_10_code 94 = .ok (.invokespecial 131, 3) := by decide +kernel
theorem d_PM_stands_97 : decode prog_1_method_10_code 97 = .ok (.athrow, 1) := by decide +kernel
def y_PM_where : MethodName := ⟨"PageMaker", "where", "(I)I"⟩
def w_PM_where : List Cond := .code y_PM_where prog_1_method_11_code 3 (some .int) :: TB
theorem d_PM_where_0 : decode prog_1_method_11_code 0 = .ok (.aload_n 0, 1) := by decide +kernel
theorem d_PM_where_1 : decode prog_1_method_11_code 1 = .ok (.iload_n 1, 1) := by decide +kernel
theorem d_PM_where_2 : decode prog_1_method_11_code 2 = .ok (.invokevirtual 132, 3) := by decide +kernel
theorem d_PM_where_5 : decode prog_1_method_11_code 5 = .ok (.ifCond .ne 13, 3) := by decide +kernel
theorem d_PM_where_8 : decode prog_1_method_11_code 8 = .ok (.new 127, 3) := by decide +kernel
theorem d_PM_where_11 : decode prog_1_method_11_code 11 = .ok (.dup, 1) := by decide +kernel
theorem d_PM_where_12 : decode prog_1_method_11_code 12 = .ok (.ldc 166, 2) := by decide +kernel
theorem d_PM_where_14 : decode prog_1_method_11_code 14 = .ok (.invokespecial 131, 3) := by decide +kernel
theorem d_PM_where_17 : decode prog_1_method_11_code 17 = .ok (.athrow, 1) := by decide +kernel
theorem d_PM_where_18 : decode prog_1_method_11_code 18 = .ok (.iconst 0, 1) := by decide +kernel
theorem d_PM_where_19 : decode prog_1_method_11_code 19 = .ok (.istore_n 2, 1) := by decide +kernel
theorem d_PM_where_20 : decode prog_1_method_11_code 20 = .ok (.iload_n 2, 1) := by decide +kernel
theorem d_PM_where_21 : decode prog_1_method_11_code 21 = .ok (.aload_n 0, 1) := by decide +kernel
theorem d_PM_where_22 : decode prog_1_method_11_code 22 = .ok (.getfield 16, 3) := by decide +kernel
theorem d_PM_where_25 : decode prog_1_method_11_code 25 = .ok (.invokevirtual 91, 3) := by decide +kernel
theorem d_PM_where_28 : decode prog_1_method_11_code 28 = .ok (.if_icmp .ge 29, 3) := by decide +kernel
theorem d_PM_where_31 : decode prog_1_method_11_code 31 = .ok (.aload_n 0, 1) := by decide +kernel
theorem d_PM_where_32 : decode prog_1_method_11_code 32 = .ok (.getfield 16, 3) := by decide +kernel
theorem d_PM_where_35 : decode prog_1_method_11_code 35 = .ok (.iload_n 2, 1) := by decide +kernel
theorem d_PM_where_36 : decode prog_1_method_11_code 36 = .ok (.invokevirtual 138, 3) := by decide +kernel
theorem d_PM_where_39 : decode prog_1_method_11_code 39 = .ok (.checkcast 100, 3) := by decide +kernel
theorem d_PM_where_42 : decode prog_1_method_11_code 42 = .ok (.iload_n 1, 1) := by decide +kernel
theorem d_PM_where_43 : decode prog_1_method_11_code 43 = .ok (.invokevirtual 135, 3) := by decide +kernel
theorem d_PM_where_46 : decode prog_1_method_11_code 46 = .ok (.ifCond .eq 5, 3) := by decide +kernel
theorem d_PM_where_49 : decode prog_1_method_11_code 49 = .ok (.iload_n 2, 1) := by decide +kernel
theorem d_PM_where_50 : decode prog_1_method_11_code 50 = .ok (.ireturn, 1) := by decide +kernel
theorem d_PM_where_51 : decode prog_1_method_11_code 51 = .ok (.iinc 2 1, 3) := by decide +kernel
theorem d_PM_where_54 : decode prog_1_method_11_code 54 = .ok (.goto (-34), 3) := by decide +kernel
theorem d_PM_where_57 : decode prog_1_method_11_code 57 = .ok (.iconst (-1), 1) := by decide +kernel
theorem d_PM_where_58 : decode prog_1_method_11_code 58 = .ok (.ireturn, 1) := by decide +kernel
def y_PM_open : MethodName := ⟨"PageMaker", "open", "(I)J"⟩
def w_PM_open : List Cond := .code y_PM_open prog_1_method_12_code 2 (some .long) :: TB
theorem d_PM_open_0 : decode prog_1_method_12_code 0 = .ok (.iload_n 1, 1) := by decide +kernel
theorem d_PM_open_1 : decode prog_1_method_12_code 1 = .ok (.tableswitch 130 0 9 #[55, 64, 75, 86, 86, 86, 86, 101, 110, 119], 55) := by decide +kernel
theorem d_PM_open_56 : decode prog_1_method_12_code 56 = .ok (.aload_n 0, 1) := by decide +kernel
theorem d_PM_open_57 : decode prog_1_method_12_code 57 = .ok (.getfield 36, 3) := by decide +kernel
theorem d_PM_open_60 : decode prog_1_method_12_code 60 = .ok (.getfield 168, 3) := by decide +kernel
theorem d_PM_open_63 : decode prog_1_method_12_code 63 = .ok (.i2l, 1) := by decide +kernel
theorem d_PM_open_64 : decode prog_1_method_12_code 64 = .ok (.lreturn, 1) := by decide +kernel
theorem d_PM_open_65 : decode prog_1_method_12_code 65 = .ok (.aload_n 0, 1) := by decide +kernel
theorem d_PM_open_66 : decode prog_1_method_12_code 66 = .ok (.getfield 36, 3) := by decide +kernel
theorem d_PM_open_69 : decode prog_1_method_12_code 69 = .ok (.getfield 169, 3) := by decide +kernel
theorem d_PM_open_72 : decode prog_1_method_12_code 72 = .ok (.getfield 149, 3) := by decide +kernel
theorem d_PM_open_75 : decode prog_1_method_12_code 75 = .ok (.lreturn, 1) := by decide +kernel
theorem d_PM_open_76 : decode prog_1_method_12_code 76 = .ok (.aload_n 0, 1) := by decide +kernel
theorem d_PM_open_77 : decode prog_1_method_12_code 77 = .ok (.getfield 36, 3) := by decide +kernel
theorem d_PM_open_80 : decode prog_1_method_12_code 80 = .ok (.getfield 169, 3) := by decide +kernel
theorem d_PM_open_83 : decode prog_1_method_12_code 83 = .ok (.getfield 154, 3) := by decide +kernel
theorem d_PM_open_86 : decode prog_1_method_12_code 86 = .ok (.lreturn, 1) := by decide +kernel
theorem d_PM_open_87 : decode prog_1_method_12_code 87 = .ok (.aload_n 0, 1) := by decide +kernel
theorem d_PM_open_88 : decode prog_1_method_12_code 88 = .ok (.getfield 36, 3) := by decide +kernel
theorem d_PM_open_91 : decode prog_1_method_12_code 91 = .ok (.getfield 169, 3) := by decide +kernel
theorem d_PM_open_94 : decode prog_1_method_12_code 94 = .ok (.getfield 173, 3) := by decide +kernel
theorem d_PM_open_97 : decode prog_1_method_12_code 97 = .ok (.iload_n 1, 1) := by decide +kernel
theorem d_PM_open_98 : decode prog_1_method_12_code 98 = .ok (.iconst 3, 1) := by decide +kernel
theorem d_PM_open_99 : decode prog_1_method_12_code 99 = .ok (.isub, 1) := by decide +kernel
theorem d_PM_open_100 : decode prog_1_method_12_code 100 = .ok (.laload, 1) := by decide +kernel
theorem d_PM_open_101 : decode prog_1_method_12_code 101 = .ok (.lreturn, 1) := by decide +kernel
theorem d_PM_open_102 : decode prog_1_method_12_code 102 = .ok (.aload_n 0, 1) := by decide +kernel
theorem d_PM_open_103 : decode prog_1_method_12_code 103 = .ok (.getfield 36, 3) := by decide +kernel
theorem d_PM_open_106 : decode prog_1_method_12_code 106 = .ok (.getfield 177, 3) := by decide +kernel
theorem d_PM_open_109 : decode prog_1_method_12_code 109 = .ok (.i2l, 1) := by decide +kernel
theorem d_PM_open_110 : decode prog_1_method_12_code 110 = .ok (.lreturn, 1) := by decide +kernel
theorem d_PM_open_111 : decode prog_1_method_12_code 111 = .ok (.aload_n 0, 1) := by decide +kernel
theorem d_PM_open_112 : decode prog_1_method_12_code 112 = .ok (.getfield 36, 3) := by decide +kernel
theorem d_PM_open_115 : decode prog_1_method_12_code 115 = .ok (.getfield 178, 3) := by decide +kernel
theorem d_PM_open_118 : decode prog_1_method_12_code 118 = .ok (.i2l, 1) := by decide +kernel
theorem d_PM_open_119 : decode prog_1_method_12_code 119 = .ok (.lreturn, 1) := by decide +kernel
theorem d_PM_open_120 : decode prog_1_method_12_code 120 = .ok (.aload_n 0, 1) := by decide +kernel
theorem d_PM_open_121 : decode prog_1_method_12_code 121 = .ok (.getfield 36, 3) := by decide +kernel
theorem d_PM_open_124 : decode prog_1_method_12_code 124 = .ok (.getfield 169, 3) := by decide +kernel
theorem d_PM_open_127 : decode prog_1_method_12_code 127 = .ok (.getfield 181, 3) := by decide +kernel
theorem d_PM_open_130 : decode prog_1_method_12_code 130 = .ok (.lreturn, 1) := by decide +kernel
theorem d_PM_open_131 : decode prog_1_method_12_code 131 = .ok (.new 127, 3) := by decide +kernel
theorem d_PM_open_134 : decode prog_1_method_12_code 134 = .ok (.dup, 1) := by decide +kernel
theorem d_PM_open_135 : decode prog_1_method_12_code 135 = .ok (.ldc 184, 2) := by decide +kernel
theorem d_PM_open_137 : decode prog_1_method_12_code 137 = .ok (.invokespecial 131, 3) := by decide +kernel
theorem d_PM_open_140 : decode prog_1_method_12_code 140 = .ok (.athrow, 1) := by decide +kernel
def y_PM_isSize : MethodName := ⟨"PageMaker", "isSize", "(I)Z"⟩
def w_PM_isSize : List Cond := .code y_PM_isSize prog_1_method_13_code 1 (some .boolean) :: TB
theorem d_PM_isSize_0 : decode prog_1_method_13_code 0 = .ok (.iload_n 0, 1) := by decide +kernel
theorem d_PM_isSize_1 : decode prog_1_method_13_code 1 = .ok (.ldc 186, 2) := by decide +kernel
theorem d_PM_isSize_3 : decode prog_1_method_13_code 3 = .ok (.if_icmp .lt 13, 3) := by decide +kernel
theorem d_PM_isSize_6 : decode prog_1_method_13_code 6 = .ok (.iload_n 0, 1) := by decide +kernel
theorem d_PM_isSize_7 : decode prog_1_method_13_code 7 = .ok (.ldc 187, 2) := by decide +kernel
theorem d_PM_isSize_9 : decode prog_1_method_13_code 9 = .ok (.if_icmp .gt 7, 3) := by decide +kernel
theorem d_PM_isSize_12 : decode prog_1_method_13_code 12 = .ok (.iconst 1, 1) := by decide +kernel
theorem d_PM_isSize_13 : decode prog_1_method_13_code 13 = .ok (.goto 4, 3) := by decide +kernel
theorem d_PM_isSize_16 : decode prog_1_method_13_code 16 = .ok (.iconst 0, 1) := by decide +kernel
theorem d_PM_isSize_17 : decode prog_1_method_13_code 17 = .ok (.ireturn, 1) := by decide +kernel
def y_PM_isSizeFromZero : MethodName := ⟨"PageMaker", "isSizeFromZero", "(I)Z"⟩
def w_PM_isSizeFromZero : List Cond := .code y_PM_isSizeFromZero prog_1_method_14_code 1 (some .boolean) :: TB
theorem d_PM_isSizeFromZero_0 : decode prog_1_method_14_code 0 = .ok (.iload_n 0, 1) := by decide +kernel
theorem d_PM_isSizeFromZero_1 : decode prog_1_method_14_code 1 = .ok (.ifCond .lt 13, 3) := by decide +kernel
theorem d_PM_isSizeFromZero_4 : decode prog_1_method_14_code 4 = .ok (.iload_n 0, 1) := by decide +kernel
theorem d_PM_isSizeFromZero_5 : decode prog_1_method_14_code 5 = .ok (.ldc 187, 2) := by decide +kernel
theorem d_PM_isSizeFromZero_7 : decode prog_1_method_14_code 7 = .ok (.if_icmp .gt 7, 3) := by decide +kernel
theorem d_PM_isSizeFromZero_10 : decode prog_1_method_14_code 10 = .ok (.iconst 1, 1) := by decide +kernel
theorem d_PM_isSizeFromZero_11 : decode prog_1_method_14_code 11 = .ok (.goto 4, 3) := by decide +kernel
theorem d_PM_isSizeFromZero_14 : decode prog_1_method_14_code 14 = .ok (.iconst 0, 1) := by decide +kernel
theorem d_PM_isSizeFromZero_15 : decode prog_1_method_14_code 15 = .ok (.ireturn, 1) := by decide +kernel
def y_PM_needRoom : MethodName := ⟨"PageMaker", "needRoom", "()V"⟩
def w_PM_needRoom : List Cond := .code y_PM_needRoom prog_1_method_15_code 1 none :: TB
theorem d_PM_needRoom_0 : decode prog_1_method_15_code 0 = .ok (.aload_n 0, 1) := by decide +kernel
theorem d_PM_needRoom_1 : decode prog_1_method_15_code 1 = .ok (.getfield 12, 3) := by decide +kernel
theorem d_PM_needRoom_4 : decode prog_1_method_15_code 4 = .ok (.invokevirtual 91, 3) := by decide +kernel
theorem d_PM_needRoom_7 : decode prog_1_method_15_code 7 = .ok (.sipush 2000, 3) := by decide +kernel
theorem d_PM_needRoom_10 : decode prog_1_method_15_code 10 = .ok (.if_icmp .lt 13, 3) := by decide +kernel
theorem d_PM_needRoom_13 : decode prog_1_method_15_code 13 = .ok (.new 188, 3) := by decide +kernel
theorem d_PM_needRoom_16 : decode prog_1_method_15_code 16 = .ok (.dup, 1) := by decide +kernel
theorem d_PM_needRoom_17 : decode prog_1_method_15_code 17 = .ok (.ldc 190, 2) := by decide +kernel
theorem d_PM_needRoom_19 : decode prog_1_method_15_code 19 = .ok (.invokespecial 192, 3) := by decide +kernel
theorem d_PM_needRoom_22 : decode prog_1_method_15_code 22 = .ok (.athrow, 1) := by decide +kernel
theorem d_PM_needRoom_23 : decode prog_1_method_15_code 23 = .ok (.return_, 1) := by decide +kernel
def y_PM_endedPage : MethodName := ⟨"PageMaker", "endedPage", "(I)LPageMaker$EndedPage;"⟩
def w_PM_endedPage : List Cond := .code y_PM_endedPage prog_1_method_16_code 2 (some (.object "PageMaker$EndedPage")) :: TB
theorem d_PM_endedPage_0 : decode prog_1_method_16_code 0 = .ok (.iload_n 1, 1) := by decide +kernel
theorem d_PM_endedPage_1 : decode prog_1_method_16_code 1 = .ok (.ifCond .lt 14, 3) := by decide +kernel
theorem d_PM_endedPage_4 : decode prog_1_method_16_code 4 = .ok (.iload_n 1, 1) := by decide +kernel
theorem d_PM_endedPage_5 : decode prog_1_method_16_code 5 = .ok (.aload_n 0, 1) := by decide +kernel
theorem d_PM_endedPage_6 : decode prog_1_method_16_code 6 = .ok (.getfield 16, 3) := by decide +kernel
theorem d_PM_endedPage_9 : decode prog_1_method_16_code 9 = .ok (.invokevirtual 91, 3) := by decide +kernel
theorem d_PM_endedPage_12 : decode prog_1_method_16_code 12 = .ok (.if_icmp .lt 13, 3) := by decide +kernel
theorem d_PM_endedPage_15 : decode prog_1_method_16_code 15 = .ok (.new 127, 3) := by decide +kernel
theorem d_PM_endedPage_18 : decode prog_1_method_16_code 18 = .ok (.dup, 1) := by decide +kernel
theorem d_PM_endedPage_19 : decode prog_1_method_16_code 19 = .ok (.ldc 193, 2) := by decide +kernel
theorem d_PM_endedPage_21 : decode prog_1_method_16_code 21 = .ok (.invokespecial 131, 3) := by decide +kernel
theorem d_PM_endedPage_24 : decode prog_1_method_16_code 24 = .ok (.athrow, 1) := by decide +kernel
theorem d_PM_endedPage_25 : decode prog_1_method_16_code 25 = .ok (.aload_n 0, 1) := by decide +kernel
theorem d_PM_endedPage_26 : decode prog_1_method_16_code 26 = .ok (.getfield 16, 3) := by decide +kernel
theorem d_PM_endedPage_29 : decode prog_1_method_16_code 29 = .ok (.iload_n 1, 1) := by decide +kernel
theorem d_PM_endedPage_30 : decode prog_1_method_16_code 30 = .ok (.invokevirtual 138, 3) := by decide +kernel
theorem d_PM_endedPage_33 : decode prog_1_method_16_code 33 = .ok (.checkcast 100, 3) := by decide +kernel
theorem d_PM_endedPage_36 : decode prog_1_method_16_code 36 = .ok (.areturn, 1) := by decide +kernel
def y_PM_isItem : MethodName := ⟨"PageMaker", "isItem", "(I)Z"⟩
def w_PM_isItem : List Cond := .code y_PM_isItem prog_1_method_17_code 2 (some .boolean) :: TB
theorem d_PM_isItem_0 : decode prog_1_method_17_code 0 = .ok (.iload_n 1, 1) := by decide +kernel
theorem d_PM_isItem_1 : decode prog_1_method_17_code 1 = .ok (.ifCond .lt 18, 3) := by decide +kernel
theorem d_PM_isItem_4 : decode prog_1_method_17_code 4 = .ok (.iload_n 1, 1) := by decide +kernel
theorem d_PM_isItem_5 : decode prog_1_method_17_code 5 = .ok (.aload_n 0, 1) := by decide +kernel
theorem d_PM_isItem_6 : decode prog_1_method_17_code 6 = .ok (.getfield 12, 3) := by decide +kernel
theorem d_PM_isItem_9 : decode prog_1_method_17_code 9 = .ok (.invokevirtual 91, 3) := by decide +kernel
theorem d_PM_isItem_12 : decode prog_1_method_17_code 12 = .ok (.if_icmp .ge 7, 3) := by decide +kernel
theorem d_PM_isItem_15 : decode prog_1_method_17_code 15 = .ok (.iconst 1, 1) := by decide +kernel
theorem d_PM_isItem_16 : decode prog_1_method_17_code 16 = .ok (.goto 4, 3) := by decide +kernel
theorem d_PM_isItem_19 : decode prog_1_method_17_code 19 = .ok (.iconst 0, 1) := by decide +kernel
theorem d_PM_isItem_20 : decode prog_1_method_17_code 20 = .ok (.ireturn, 1) := by decide +kernel
def y_PM_comeIn : MethodName := ⟨"PageMaker", "comeIn", "(LPageMaker$Item;)I"⟩
def w_PM_comeIn : List Cond := .code y_PM_comeIn prog_1_method_18_code 2 (some .int) :: TB
theorem d_PM_comeIn_0 : decode prog_1_method_18_code 0 = .ok (.aload_n 0, 1) := by decide +kernel
theorem d_PM_comeIn_1 : decode prog_1_method_18_code 1 = .ok (.getfield 12, 3) := by decide +kernel
theorem d_PM_comeIn_4 : decode prog_1_method_18_code 4 = .ok (.aload_n 1, 1) := by decide +kernel
theorem d_PM_comeIn_5 : decode prog_1_method_18_code 5 = .ok (.invokevirtual 195, 3) := by decide +kernel
theorem d_PM_comeIn_8 : decode prog_1_method_18_code 8 = .ok (.pop, 1) := by decide +kernel
theorem d_PM_comeIn_9 : decode prog_1_method_18_code 9 = .ok (.aload_n 0, 1) := by decide +kernel
theorem d_PM_comeIn_10 : decode prog_1_method_18_code 10 = .ok (.aload_n 0, 1) := by decide +kernel
theorem d_PM_comeIn_11 : decode prog_1_method_18_code 11 = .ok (.getfield 12, 3) := by decide +kernel
theorem d_PM_comeIn_14 : decode prog_1_method_18_code 14 = .ok (.invokevirtual 91, 3) := by decide +kernel
theorem d_PM_comeIn_17 : decode prog_1_method_18_code 17 = .ok (.iconst 1, 1) := by decide +kernel
theorem d_PM_comeIn_18 : decode prog_1_method_18_code 18 = .ok (.isub, 1) := by decide +kernel
theorem d_PM_comeIn_19 : decode prog_1_method_18_code 19 = .ok (.invokevirtual 199, 3) := by decide +kernel
theorem d_PM_comeIn_22 : decode prog_1_method_18_code 22 = .ok (.aload_n 0, 1) := by decide +kernel
theorem d_PM_comeIn_23 : decode prog_1_method_18_code 23 = .ok (.getfield 16, 3) := by decide +kernel
theorem d_PM_comeIn_26 : decode prog_1_method_18_code 26 = .ok (.invokevirtual 91, 3) := by decide +kernel
theorem d_PM_comeIn_29 : decode prog_1_method_18_code 29 = .ok (.ireturn, 1) := by decide +kernel
def y_PM_lookFrom : MethodName := ⟨"PageMaker", "lookFrom", "(I)V"⟩
def w_PM_lookFrom : List Cond := .code y_PM_lookFrom prog_1_method_19_code 5 none :: TB
theorem d_PM_lookFrom_0 : decode prog_1_method_19_code 0 = .ok (.iload_n 1, 1) := by decide +kernel
theorem d_PM_lookFrom_1 : decode prog_1_method_19_code 1 = .ok (.istore_n 2, 1) := by decide +kernel
theorem d_PM_lookFrom_2 : decode prog_1_method_19_code 2 = .ok (.iconst 0, 1) := by decide +kernel
theorem d_PM_lookFrom_3 : decode prog_1_method_19_code 3 = .ok (.istore_n 3, 1) := by decide +kernel
theorem d_PM_lookFrom_4 : decode prog_1_method_19_code 4 = .ok (.iload_n 3, 1) := by decide +kernel
theorem d_PM_lookFrom_5 : decode prog_1_method_19_code 5 = .ok (.ldc 202, 2) := by decide +kernel
theorem d_PM_lookFrom_7 : decode prog_1_method_19_code 7 = .ok (.if_icmp .ge 58, 3) := by decide +kernel
theorem d_PM_lookFrom_10 : decode prog_1_method_19_code 10 = .ok (.aload_n 0, 1) := by decide +kernel
theorem d_PM_lookFrom_11 : decode prog_1_method_19_code 11 = .ok (.iload_n 2, 1) := by decide +kernel
theorem d_PM_lookFrom_12 : decode prog_1_method_19_code 12 = .ok (.invokevirtual 132, 3) := by decide +kernel
theorem d_PM_lookFrom_15 : decode prog_1_method_19_code 15 = .ok (.ifCond .eq 50, 3) := by decide +kernel
theorem d_PM_lookFrom_18 : decode prog_1_method_19_code 18 = .ok (.aload_n 0, 1) := by decide +kernel
theorem d_PM_lookFrom_19 : decode prog_1_method_19_code 19 = .ok (.getfield 12, 3) := by decide +kernel
theorem d_PM_lookFrom_22 : decode prog_1_method_19_code 22 = .ok (.iload_n 2, 1) := by decide +kernel
theorem d_PM_lookFrom_23 : decode prog_1_method_19_code 23 = .ok (.invokevirtual 138, 3) := by decide +kernel
theorem d_PM_lookFrom_26 : decode prog_1_method_19_code 26 = .ok (.checkcast 203, 3) := by decide +kernel
theorem d_PM_lookFrom_29 : decode prog_1_method_19_code 29 = .ok (.astore 4, 2) := by decide +kernel
theorem d_PM_lookFrom_31 : decode prog_1_method_19_code 31 = .ok (.aload_n 0, 1) := by decide +kernel
theorem d_PM_lookFrom_32 : decode prog_1_method_19_code 32 = .ok (.iload_n 2, 1) := by decide +kernel
theorem d_PM_lookFrom_33 : decode prog_1_method_19_code 33 = .ok (.aload 4, 2) := by decide +kernel
theorem d_PM_lookFrom_35 : decode prog_1_method_19_code 35 = .ok (.invokevirtual 205, 3) := by decide +kernel
theorem d_PM_lookFrom_38 : decode prog_1_method_19_code 38 = .ok (.ifCond .eq 11, 3) := by decide +kernel
theorem d_PM_lookFrom_41 : decode prog_1_method_19_code 41 = .ok (.aload_n 0, 1) := by decide +kernel
theorem d_PM_lookFrom_42 : decode prog_1_method_19_code 42 = .ok (.invokevirtual 209, 3) := by decide +kernel
theorem d_PM_lookFrom_45 : decode prog_1_method_19_code 45 = .ok (.istore_n 2, 1) := by decide +kernel
theorem d_PM_lookFrom_46 : decode prog_1_method_19_code 46 = .ok (.goto 13, 3) := by decide +kernel
theorem d_PM_lookFrom_49 : decode prog_1_method_19_code 49 = .ok (.aload_n 0, 1) := by decide +kernel
theorem d_PM_lookFrom_50 : decode prog_1_method_19_code 50 = .ok (.iload_n 2, 1) := by decide +kernel
theorem d_PM_lookFrom_51 : decode prog_1_method_19_code 51 = .ok (.aload 4, 2) := by decide +kernel
theorem d_PM_lookFrom_53 : decode prog_1_method_19_code 53 = .ok (.invokevirtual 212, 3) := by decide +kernel
theorem d_PM_lookFrom_56 : decode prog_1_method_19_code 56 = .ok (.iinc 2 1, 3) := by decide +kernel
theorem d_PM_lookFrom_59 : decode prog_1_method_19_code 59 = .ok (.iinc 3 1, 3) := by decide +kernel
theorem d_PM_lookFrom_62 : decode prog_1_method_19_code 62 = .ok (.goto (-58), 3) := by decide +kernel
theorem d_PM_lookFrom_65 : decode prog_1_method_19_code 65 = .ok (.return_, 1) := by decide +kernel
def y_PM_breakEndsPage : MethodName := ⟨"PageMaker", "breakEndsPage", "(ILPageMaker$Item;)Z"⟩
def w_PM_breakEndsPage : List Cond := .code y_PM_breakEndsPage prog_1_method_20_code 4 (some .boolean) :: TB
theorem d_PM_breakEndsPage_0 : decode prog_1_method_20_code 0 = .ok (.aload_n 0, 1) := by decide +kernel
theorem d_PM_breakEndsPage_1 : decode prog_1_method_20_code 1 = .ok (.getfield 36, 3) := by decide +kernel
theorem d_PM_breakEndsPage_4 : decode prog_1_method_20_code 4 = .ok (.invokevirtual 216, 3) := by decide +kernel
theorem d_PM_breakEndsPage_7 : decode prog_1_method_20_code 7 = .ok (.ifCond .eq 13, 3) := by decide +kernel
theorem d_PM_breakEndsPage_10 : decode prog_1_method_20_code 10 = .ok (.aload_n 0, 1) := by decide +kernel
theorem d_PM_breakEndsPage_11 : decode prog_1_method_20_code 11 = .ok (.iload_n 1, 1) := by decide +kernel
theorem d_PM_breakEndsPage_12 : decode prog_1_method_20_code 12 = .ok (.iconst 1, 1) := by decide +kernel
theorem d_PM_breakEndsPage_13 : decode prog_1_method_20_code 13 = .ok (.isub, 1) := by decide +kernel
theorem d_PM_breakEndsPage_14 : decode prog_1_method_20_code 14 = .ok (.invokevirtual 132, 3) := by decide +kernel
theorem d_PM_breakEndsPage_17 : decode prog_1_method_20_code 17 = .ok (.ifCond .ne 5, 3) := by decide +kernel
theorem d_PM_breakEndsPage_20 : decode prog_1_method_20_code 20 = .ok (.iconst 0, 1) := by decide +kernel
theorem d_PM_breakEndsPage_21 : decode prog_1_method_20_code 21 = .ok (.ireturn, 1) := by decide +kernel
theorem d_PM_breakEndsPage_22 : decode prog_1_method_20_code 22 = .ok (.aload_n 2, 1) := by decide +kernel
theorem d_PM_breakEndsPage_23 : decode prog_1_method_20_code 23 = .ok (.instanceof 88, 3) := by decide +kernel
theorem d_PM_breakEndsPage_26 : decode prog_1_method_20_code 26 = .ok (.ifCond .eq 49, 3) := by decide +kernel
theorem d_PM_breakEndsPage_29 : decode prog_1_method_20_code 29 = .ok (.aload_n 2, 1) := by decide +kernel
theorem d_PM_breakEndsPage_30 : decode prog_1_method_20_code 30 = .ok (.checkcast 88, 3) := by decide +kernel
theorem d_PM_breakEndsPage_33 : decode prog_1_method_20_code 33 = .ok (.astore_n 3, 1) := by decide +kernel
theorem d_PM_breakEndsPage_34 : decode prog_1_method_20_code 34 = .ok (.aload_n 3, 1) := by decide +kernel
theorem d_PM_breakEndsPage_35 : decode prog_1_method_20_code 35 = .ok (.getfield 220, 3) := by decide +kernel
theorem d_PM_breakEndsPage_38 : decode prog_1_method_20_code 38 = .ok (.sipush 10000, 3) := by decide +kernel
theorem d_PM_breakEndsPage_41 : decode prog_1_method_20_code 41 = .ok (.if_icmp .ge 32, 3) := by decide +kernel
theorem d_PM_breakEndsPage_44 : decode prog_1_method_20_code 44 = .ok (.aload_n 0, 1) := by decide +kernel
theorem d_PM_breakEndsPage_45 : decode prog_1_method_20_code 45 = .ok (.getfield 36, 3) := by decide +kernel
theorem d_PM_breakEndsPage_48 : decode prog_1_method_20_code 48 = .ok (.iload_n 1, 1) := by decide +kernel
theorem d_PM_breakEndsPage_49 : decode prog_1_method_20_code 49 = .ok (.aload_n 0, 1) := by decide +kernel
theorem d_PM_breakEndsPage_50 : decode prog_1_method_20_code 50 = .ok (.getfield 36, 3) := by decide +kernel
theorem d_PM_breakEndsPage_53 : decode prog_1_method_20_code 53 = .ok (.getfield 169, 3) := by decide +kernel
theorem d_PM_breakEndsPage_56 : decode prog_1_method_20_code 56 = .ok (.getfield 149, 3) := by decide +kernel
theorem d_PM_breakEndsPage_59 : decode prog_1_method_20_code 59 = .ok (.aload_n 3, 1) := by decide +kernel
theorem d_PM_breakEndsPage_60 : decode prog_1_method_20_code 60 = .ok (.getfield 220, 3) := by decide +kernel
theorem d_PM_breakEndsPage_63 : decode prog_1_method_20_code 63 = .ok (.invokevirtual 223, 3) := by decide +kernel
theorem d_PM_breakEndsPage_66 : decode prog_1_method_20_code 66 = .ok (.ifCond .eq 7, 3) := by decide +kernel
theorem d_PM_breakEndsPage_69 : decode prog_1_method_20_code 69 = .ok (.iconst 1, 1) := by decide +kernel
theorem d_PM_breakEndsPage_70 : decode prog_1_method_20_code 70 = .ok (.goto 4, 3) := by decide +kernel
theorem d_PM_breakEndsPage_73 : decode prog_1_method_20_code 73 = .ok (.iconst 0, 1) := by decide +kernel
theorem d_PM_breakEndsPage_74 : decode prog_1_method_20_code 74 = .ok (.ireturn, 1) := by decide +kernel
theorem d_PM_breakEndsPage_75 : decode prog_1_method_20_code 75 = .ok (.aload_n 2, 1) := by decide +kernel
theorem d_PM_breakEndsPage_76 : decode prog_1_method_20_code 76 = .ok (.instanceof 72, 3) := by decide +kernel
theorem d_PM_breakEndsPage_79 : decode prog_1_method_20_code 79 = .ok (.ifCond .ne 5, 3) := by decide +kernel
theorem d_PM_breakEndsPage_82 : decode prog_1_method_20_code 82 = .ok (.iconst 0, 1) := by decide +kernel
theorem d_PM_breakEndsPage_83 : decode prog_1_method_20_code 83 = .ok (.ireturn, 1) := by decide +kernel
theorem d_PM_breakEndsPage_84 : decode prog_1_method_20_code 84 = .ok (.aload_n 0, 1) := by decide +kernel
theorem d_PM_breakEndsPage_85 : decode prog_1_method_20_code 85 = .ok (.getfield 12, 3) := by decide +kernel
theorem d_PM_breakEndsPage_88 : decode prog_1_method_20_code 88 = .ok (.iload_n 1, 1) := by decide +kernel
theorem d_PM_breakEndsPage_89 : decode prog_1_method_20_code 89 = .ok (.iconst 1, 1) := by decide +kernel
theorem d_PM_breakEndsPage_90 : decode prog_1_method_20_code 90 = .ok (.isub, 1) := by decide +kernel
theorem d_PM_breakEndsPage_91 : decode prog_1_method_20_code 91 = .ok (.invokevirtual 138, 3) := by decide +kernel
theorem d_PM_breakEndsPage_94 : decode prog_1_method_20_code 94 = .ok (.checkcast 203, 3) := by decide +kernel
theorem d_PM_breakEndsPage_97 : decode prog_1_method_20_code 97 = .ok (.astore_n 3, 1) := by decide +kernel
theorem d_PM_breakEndsPage_98 : decode prog_1_method_20_code 98 = .ok (.aload_n 3, 1) := by decide +kernel
theorem d_PM_breakEndsPage_99 : decode prog_1_method_20_code 99 = .ok (.instanceof 59, 3) := by decide +kernel
theorem d_PM_breakEndsPage_102 : decode prog_1_method_20_code 102 = .ok (.ifCond .eq 23, 3) := by decide +kernel
theorem d_PM_breakEndsPage_105 : decode prog_1_method_20_code 105 = .ok (.aload_n 0, 1) := by decide +kernel
theorem d_PM_breakEndsPage_106 : decode prog_1_method_20_code 106 = .ok (.getfield 36, 3) := by decide +kernel
theorem d_PM_breakEndsPage_109 : decode prog_1_method_20_code 109 = .ok (.iload_n 1, 1) := by decide +kernel
theorem d_PM_breakEndsPage_110 : decode prog_1_method_20_code 110 = .ok (.aload_n 0, 1) := by decide +kernel
theorem d_PM_breakEndsPage_111 : decode prog_1_method_20_code 111 = .ok (.getfield 36, 3) := by decide +kernel
theorem d_PM_breakEndsPage_114 : decode prog_1_method_20_code 114 = .ok (.getfield 169, 3) := by decide +kernel
theorem d_PM_breakEndsPage_117 : decode prog_1_method_20_code 117 = .ok (.getfield 149, 3) := by decide +kernel
theorem d_PM_breakEndsPage_120 : decode prog_1_method_20_code 120 = .ok (.iconst 0, 1) := by decide +kernel
theorem d_PM_breakEndsPage_121 : decode prog_1_method_20_code 121 = .ok (.invokevirtual 223, 3) := by decide +kernel
theorem d_PM_breakEndsPage_124 : decode prog_1_method_20_code 124 = .ok (.ireturn, 1) := by decide +kernel
theorem d_PM_breakEndsPage_125 : decode prog_1_method_20_code 125 = .ok (.aload_n 3, 1) := by decide +kernel
theorem d_PM_breakEndsPage_126 : decode prog_1_method_20_code 126 = .ok (.instanceof 79, 3) := by decide +kernel
theorem d_PM_breakEndsPage_129 : decode prog_1_method_20_code 129 = .ok (.ifCond .eq 28, 3) := by decide +kernel
theorem d_PM_breakEndsPage_132 : decode prog_1_method_20_code 132 = .ok (.aload_n 0, 1) := by decide +kernel
theorem d_PM_breakEndsPage_133 : decode prog_1_method_20_code 133 = .ok (.getfield 36, 3) := by decide +kernel
theorem d_PM_breakEndsPage_136 : decode prog_1_method_20_code 136 = .ok (.iload_n 1, 1) := by decide +kernel
theorem d_PM_breakEndsPage_137 : decode prog_1_method_20_code 137 = .ok (.iconst 1, 1) := by decide +kernel
theorem d_PM_breakEndsPage_138 : decode prog_1_method_20_code 138 = .ok (.isub, 1) := by decide +kernel
theorem d_PM_breakEndsPage_139 : decode prog_1_method_20_code 139 = .ok (.aload_n 0, 1) := by decide +kernel
theorem d_PM_breakEndsPage_140 : decode prog_1_method_20_code 140 = .ok (.getfield 36, 3) := by decide +kernel
theorem d_PM_breakEndsPage_143 : decode prog_1_method_20_code 143 = .ok (.getfield 227, 3) := by decide +kernel
theorem d_PM_breakEndsPage_146 : decode prog_1_method_20_code 146 = .ok (.iconst 0, 1) := by decide +kernel
theorem d_PM_breakEndsPage_147 : decode prog_1_method_20_code 147 = .ok (.invokevirtual 223, 3) := by decide +kernel
theorem d_PM_breakEndsPage_150 : decode prog_1_method_20_code 150 = .ok (.ifCond .eq 7, 3) := by decide +kernel
theorem d_PM_breakEndsPage_153 : decode prog_1_method_20_code 153 = .ok (.iconst 1, 1) := by decide +kernel
theorem d_PM_breakEndsPage_154 : decode prog_1_method_20_code 154 = .ok (.goto 4, 3) := by decide +kernel
theorem d_PM_breakEndsPage_157 : decode prog_1_method_20_code 157 = .ok (.iconst 0, 1) := by decide +kernel
theorem d_PM_breakEndsPage_158 : decode prog_1_method_20_code 158 = .ok (.ireturn, 1) := by decide +kernel
def y_PM_takeIn : MethodName := ⟨"PageMaker", "takeIn", "(ILPageMaker$Item;)V"⟩
def w_PM_takeIn : List Cond := .code y_PM_takeIn prog_1_method_21_code 4 none :: TB
theorem d_PM_takeIn_0 : decode prog_1_method_21_code 0 = .ok (.aload_n 0, 1) := by decide +kernel
theorem d_PM_takeIn_1 : decode prog_1_method_21_code 1 = .ok (.getfield 36, 3) := by decide +kernel
theorem d_PM_takeIn_4 : decode prog_1_method_21_code 4 = .ok (.invokevirtual 216, 3) := by decide +kernel
theorem d_PM_takeIn_7 : decode prog_1_method_21_code 7 = .ok (.ifCond .eq 14, 3) := by decide +kernel
theorem d_PM_takeIn_10 : decode prog_1_method_21_code 10 = .ok (.aload_n 0, 1) := by decide +kernel
theorem d_PM_takeIn_11 : decode prog_1_method_21_code 11 = .ok (.getfield 36, 3) := by decide +kernel
theorem d_PM_takeIn_14 : decode prog_1_method_21_code 14 = .ok (.aload_n 2, 1) := by decide +kernel
theorem d_PM_takeIn_15 : decode prog_1_method_21_code 15 = .ok (.invokevirtual 230, 3) := by decide +kernel
theorem d_PM_takeIn_18 : decode prog_1_method_21_code 18 = .ok (.goto 28, 3) := by decide +kernel
theorem d_PM_takeIn_21 : decode prog_1_method_21_code 21 = .ok (.aload_n 2, 1) := by decide +kernel
theorem d_PM_takeIn_22 : decode prog_1_method_21_code 22 = .ok (.instanceof 59, 3) := by decide +kernel
theorem d_PM_takeIn_25 : decode prog_1_method_21_code 25 = .ok (.ifCond .eq 21, 3) := by decide +kernel
theorem d_PM_takeIn_28 : decode prog_1_method_21_code 28 = .ok (.aload_n 2, 1) := by decide +kernel
theorem d_PM_takeIn_29 : decode prog_1_method_21_code 29 = .ok (.checkcast 59, 3) := by decide +kernel
theorem d_PM_takeIn_32 : decode prog_1_method_21_code 32 = .ok (.astore_n 3, 1) := by decide +kernel
theorem d_PM_takeIn_33 : decode prog_1_method_21_code 33 = .ok (.aload_n 0, 1) := by decide +kernel
theorem d_PM_takeIn_34 : decode prog_1_method_21_code 34 = .ok (.getfield 36, 3) := by decide +kernel
theorem d_PM_takeIn_37 : decode prog_1_method_21_code 37 = .ok (.iload_n 1, 1) := by decide +kernel
theorem d_PM_takeIn_38 : decode prog_1_method_21_code 38 = .ok (.aload_n 3, 1) := by decide +kernel
theorem d_PM_takeIn_39 : decode prog_1_method_21_code 39 = .ok (.aload_n 0, 1) := by decide +kernel
theorem d_PM_takeIn_40 : decode prog_1_method_21_code 40 = .ok (.getfield 27, 3) := by decide +kernel
theorem d_PM_takeIn_43 : decode prog_1_method_21_code 43 = .ok (.invokevirtual 233, 3) := by decide +kernel
theorem d_PM_takeIn_46 : decode prog_1_method_21_code 46 = .ok (.return_, 1) := by decide +kernel
def y_PM_endOpenPage : MethodName := ⟨"PageMaker", "endOpenPage", "()I"⟩
def w_PM_endOpenPage : List Cond := .code y_PM_endOpenPage prog_1_method_22_code 2 (some .int) :: TB
theorem d_PM_endOpenPage_0 : decode prog_1_method_22_code 0 = .ok (.aload_n 0, 1) := by decide +kernel
theorem d_PM_endOpenPage_1 : decode prog_1_method_22_code 1 = .ok (.getfield 36, 3) := by decide +kernel
theorem d_PM_endOpenPage_4 : decode prog_1_method_22_code 4 = .ok (.astore_n 1, 1) := by decide +kernel
theorem d_PM_endOpenPage_5 : decode prog_1_method_22_code 5 = .ok (.aload_n 0, 1) := by decide +kernel
theorem d_PM_endOpenPage_6 : decode prog_1_method_22_code 6 = .ok (.getfield 16, 3) := by decide +kernel
theorem d_PM_endOpenPage_9 : decode prog_1_method_22_code 9 = .ok (.new 100, 3) := by decide +kernel
theorem d_PM_endOpenPage_12 : decode prog_1_method_22_code 12 = .ok (.dup, 1) := by decide +kernel
theorem d_PM_endOpenPage_13 : decode prog_1_method_22_code 13 = .ok (.aload_n 1, 1) := by decide +kernel
theorem d_PM_endOpenPage_14 : decode prog_1_method_22_code 14 = .ok (.aload_n 0, 1) := by decide +kernel
theorem d_PM_endOpenPage_15 : decode prog_1_method_22_code 15 = .ok (.aload_n 1, 1) := by decide +kernel
theorem d_PM_endOpenPage_16 : decode prog_1_method_22_code 16 = .ok (.getfield 237, 3) := by decide +kernel
theorem d_PM_endOpenPage_19 : decode prog_1_method_22_code 19 = .ok (.aload_n 1, 1) := by decide +kernel
theorem d_PM_endOpenPage_20 : decode prog_1_method_22_code 20 = .ok (.getfield 168, 3) := by decide +kernel
theorem d_PM_endOpenPage_23 : decode prog_1_method_22_code 23 = .ok (.aload_n 1, 1) := by decide +kernel
theorem d_PM_endOpenPage_24 : decode prog_1_method_22_code 24 = .ok (.getfield 177, 3) := by decide +kernel
theorem d_PM_endOpenPage_27 : decode prog_1_method_22_code 27 = .ok (.invokevirtual 145, 3) := by decide +kernel
theorem d_PM_endOpenPage_30 : decode prog_1_method_22_code 30 = .ok (.invokespecial 238, 3) := by decide +kernel
theorem d_PM_endOpenPage_33 : decode prog_1_method_22_code 33 = .ok (.invokevirtual 195, 3) := by decide +kernel
theorem d_PM_endOpenPage_36 : decode prog_1_method_22_code 36 = .ok (.pop, 1) := by decide +kernel
theorem d_PM_endOpenPage_37 : decode prog_1_method_22_code 37 = .ok (.aload_n 0, 1) := by decide +kernel
theorem d_PM_endOpenPage_38 : decode prog_1_method_22_code 38 = .ok (.new 31, 3) := by decide +kernel
theorem d_PM_endOpenPage_41 : decode prog_1_method_22_code 41 = .ok (.dup, 1) := by decide +kernel
theorem d_PM_endOpenPage_42 : decode prog_1_method_22_code 42 = .ok (.aload_n 0, 1) := by decide +kernel
theorem d_PM_endOpenPage_43 : decode prog_1_method_22_code 43 = .ok (.getfield 27, 3) := by decide +kernel
theorem d_PM_endOpenPage_46 : decode prog_1_method_22_code 46 = .ok (.invokespecial 33, 3) := by decide +kernel
theorem d_PM_endOpenPage_49 : decode prog_1_method_22_code 49 = .ok (.putfield 36, 3) := by decide +kernel
theorem d_PM_endOpenPage_52 : decode prog_1_method_22_code 52 = .ok (.aload_n 1, 1) := by decide +kernel
theorem d_PM_endOpenPage_53 : decode prog_1_method_22_code 53 = .ok (.getfield 177, 3) := by decide +kernel
theorem d_PM_endOpenPage_56 : decode prog_1_method_22_code 56 = .ok (.ireturn, 1) := by decide +kernel
def y_PM_totalsOf : MethodName := ⟨"PageMaker", "totalsOf", "(LPageMaker$Frame;II)LPageMaker$Totals;"⟩
def w_PM_totalsOf : List Cond := .code y_PM_totalsOf prog_1_method_23_code 7 (some (.object "PageMaker$Totals")) :: TB
theorem d_PM_totalsOf_0 : decode prog_1_method_23_code 0 = .ok (.new 150, 3) := by decide +kernel
theorem d_PM_totalsOf_3 : decode prog_1_method_23_code 3 = .ok (.dup, 1) := by decide +kernel
theorem d_PM_totalsOf_4 : decode prog_1_method_23_code 4 = .ok (.invokespecial 241, 3) := by decide +kernel
theorem d_PM_totalsOf_7 : decode prog_1_method_23_code 7 = .ok (.astore 4, 2) := by decide +kernel
theorem d_PM_totalsOf_9 : decode prog_1_method_23_code 9 = .ok (.aload_n 0, 1) := by decide +kernel
theorem d_PM_totalsOf_10 : decode prog_1_method_23_code 10 = .ok (.iload_n 2, 1) := by decide +kernel
theorem d_PM_totalsOf_11 : decode prog_1_method_23_code 11 = .ok (.invokevirtual 132, 3) := by decide +kernel
theorem d_PM_totalsOf_14 : decode prog_1_method_23_code 14 = .ok (.ifCond .eq 36, 3) := by decide +kernel
theorem d_PM_totalsOf_17 : decode prog_1_method_23_code 17 = .ok (.aload_n 0, 1) := by decide +kernel
theorem d_PM_totalsOf_18 : decode prog_1_method_23_code 18 = .ok (.getfield 12, 3) := by decide +kernel
theorem d_PM_totalsOf_21 : decode prog_1_method_23_code 21 = .ok (.iload_n 2, 1) := by decide +kernel
theorem d_PM_totalsOf_22 : decode prog_1_method_23_code 22 = .ok (.invokevirtual 138, 3) := by decide +kernel
theorem d_PM_totalsOf_25 : decode prog_1_method_23_code 25 = .ok (.astore 6, 2) := by decide +kernel
theorem d_PM_totalsOf_27 : decode prog_1_method_23_code 27 = .ok (.aload 6, 2) := by decide +kernel
theorem d_PM_totalsOf_29 : decode prog_1_method_23_code 29 = .ok (.instanceof 59, 3) := by decide +kernel
theorem d_PM_totalsOf_32 : decode prog_1_method_23_code 32 = .ok (.ifCond .eq 18, 3) := by decide +kernel
theorem d_PM_totalsOf_35 : decode prog_1_method_23_code 35 = .ok (.aload 6, 2) := by decide +kernel
theorem d_PM_totalsOf_37 : decode prog_1_method_23_code 37 = .ok (.checkcast 59, 3) := by decide +kernel
theorem d_PM_totalsOf_40 : decode prog_1_method_23_code 40 = .ok (.astore 5, 2) := by decide +kernel
theorem d_PM_totalsOf_42 : decode prog_1_method_23_code 42 = .ok (.aload 4, 2) := by decide +kernel
theorem d_PM_totalsOf_44 : decode prog_1_method_23_code 44 = .ok (.aload_n 1, 1) := by decide +kernel
theorem d_PM_totalsOf_45 : decode prog_1_method_23_code 45 = .ok (.aload 5, 2) := by decide +kernel
theorem d_PM_totalsOf_47 : decode prog_1_method_23_code 47 = .ok (.invokevirtual 242, 3) := by decide +kernel
theorem d_PM_totalsOf_50 : decode prog_1_method_23_code 50 = .ok (.iload_n 2, 1) := by decide +kernel
theorem d_PM_totalsOf_51 : decode prog_1_method_23_code 51 = .ok (.istore 5, 2) := by decide +kernel
theorem d_PM_totalsOf_53 : decode prog_1_method_23_code 53 = .ok (.iload 5, 2) := by decide +kernel
theorem d_PM_totalsOf_55 : decode prog_1_method_23_code 55 = .ok (.iload_n 3, 1) := by decide +kernel
theorem d_PM_totalsOf_56 : decode prog_1_method_23_code 56 = .ok (.if_icmp .ge 36, 3) := by decide +kernel
theorem d_PM_totalsOf_59 : decode prog_1_method_23_code 59 = .ok (.aload_n 0, 1) := by decide +kernel
theorem d_PM_totalsOf_60 : decode prog_1_method_23_code 60 = .ok (.iload 5, 2) := by decide +kernel
theorem d_PM_totalsOf_62 : decode prog_1_method_23_code 62 = .ok (.invokevirtual 132, 3) := by decide +kernel
theorem d_PM_totalsOf_65 : decode prog_1_method_23_code 65 = .ok (.ifCond .eq 27, 3) := by decide +kernel
theorem d_PM_totalsOf_68 : decode prog_1_method_23_code 68 = .ok (.aload_n 0, 1) := by decide +kernel
theorem d_PM_totalsOf_69 : decode prog_1_method_23_code 69 = .ok (.getfield 12, 3) := by decide +kernel
theorem d_PM_totalsOf_72 : decode prog_1_method_23_code 72 = .ok (.iload 5, 2) := by decide +kernel
theorem d_PM_totalsOf_74 : decode prog_1_method_23_code 74 = .ok (.invokevirtual 138, 3) := by decide +kernel
theorem d_PM_totalsOf_77 : decode prog_1_method_23_code 77 = .ok (.checkcast 203, 3) := by decide +kernel
theorem d_PM_totalsOf_80 : decode prog_1_method_23_code 80 = .ok (.aload 4, 2) := by decide +kernel
theorem d_PM_totalsOf_82 : decode prog_1_method_23_code 82 = .ok (.aload_n 1, 1) := by decide +kernel
theorem d_PM_totalsOf_83 : decode prog_1_method_23_code 83 = .ok (.invokevirtual 246, 3) := by decide +kernel
theorem d_PM_totalsOf_86 : decode prog_1_method_23_code 86 = .ok (.iinc 5 1, 3) := by decide +kernel
theorem d_PM_totalsOf_89 : decode prog_1_method_23_code 89 = .ok (.goto (-36), 3) := by decide +kernel
theorem d_PM_totalsOf_92 : decode prog_1_method_23_code 92 = .ok (.aload 4, 2) := by decide +kernel
theorem d_PM_totalsOf_94 : decode prog_1_method_23_code 94 = .ok (.areturn, 1) := by decide +kernel
def y_PM_badnessOf : MethodName := ⟨"PageMaker", "badnessOf", "(JJ)I"⟩
def w_PM_badnessOf : List Cond := .code y_PM_badnessOf prog_1_method_24_code 6 (some .int) :: TB
theorem d_PM_badnessOf_0 : decode prog_1_method_24_code 0 = .ok (.lload_n 2, 1) := by decide +kernel
theorem d_PM_badnessOf_1 : decode prog_1_method_24_code 1 = .ok (.lconst 0, 1) := by decide +kernel
theorem d_PM_badnessOf_2 : decode prog_1_method_24_code 2 = .ok (.lcmp, 1) := by decide +kernel
theorem d_PM_badnessOf_3 : decode prog_1_method_24_code 3 = .ok (.ifCond .gt 7, 3) := by decide +kernel
theorem d_PM_badnessOf_6 : decode prog_1_method_24_code 6 = .ok (.sipush 10000, 3) := by decide +kernel
theorem d_PM_badnessOf_9 : decode prog_1_method_24_code 9 = .ok (.ireturn, 1) := by decide +kernel
theorem d_PM_badnessOf_10 : decode prog_1_method_24_code 10 = .ok (.lload_n 0, 1) := by decide +kernel
theorem d_PM_badnessOf_11 : decode prog_1_method_24_code 11 = .ok (.ldc2_w 250, 3) := by decide +kernel
theorem d_PM_badnessOf_14 : decode prog_1_method_24_code 14 = .ok (.lcmp, 1) := by decide +kernel
theorem d_PM_badnessOf_15 : decode prog_1_method_24_code 15 = .ok (.ifCond .gt 15, 3) := by decide +kernel
theorem d_PM_badnessOf_18 : decode prog_1_method_24_code 18 = .ok (.ldc2_w 252, 3) := by decide +kernel
theorem d_PM_badnessOf_21 : decode prog_1_method_24_code 21 = .ok (.lload_n 0, 1) := by decide +kernel
theorem d_PM_badnessOf_22 : decode prog_1_method_24_code 22 = .ok (.lmul, 1) := by decide +kernel
theorem d_PM_badnessOf_23 : decode prog_1_method_24_code 23 = .ok (.lload_n 2, 1) := by decide +kernel
theorem d_PM_badnessOf_24 : decode prog_1_method_24_code 24 = .ok (.ldiv, 1) := by decide +kernel
theorem d_PM_badnessOf_25 : decode prog_1_method_24_code 25 = .ok (.lstore 4, 2) := by decide +kernel
theorem d_PM_badnessOf_27 : decode prog_1_method_24_code 27 = .ok (.goto 26, 3) := by decide +kernel
theorem d_PM_badnessOf_30 : decode prog_1_method_24_code 30 = .ok (.lload_n 2, 1) := by decide +kernel
theorem d_PM_badnessOf_31 : decode prog_1_method_24_code 31 = .ok (.ldc2_w 254, 3) := by decide +kernel
theorem d_PM_badnessOf_34 : decode prog_1_method_24_code 34 = .ok (.lcmp, 1) := by decide +kernel
theorem d_PM_badnessOf_35 : decode prog_1_method_24_code 35 = .ok (.ifCond .lt 15, 3) := by decide +kernel
theorem d_PM_badnessOf_38 : decode prog_1_method_24_code 38 = .ok (.lload_n 0, 1) := by decide +kernel
theorem d_PM_badnessOf_39 : decode prog_1_method_24_code 39 = .ok (.lload_n 2, 1) := by decide +kernel
theorem d_PM_badnessOf_40 : decode prog_1_method_24_code 40 = .ok (.ldc2_w 252, 3) := by decide +kernel
theorem d_PM_badnessOf_43 : decode prog_1_method_24_code 43 = .ok (.ldiv, 1) := by decide +kernel
theorem d_PM_badnessOf_44 : decode prog_1_method_24_code 44 = .ok (.ldiv, 1) := by decide +kernel
theorem d_PM_badnessOf_45 : decode prog_1_method_24_code 45 = .ok (.lstore 4, 2) := by decide +kernel
theorem d_PM_badnessOf_47 : decode prog_1_method_24_code 47 = .ok (.goto 6, 3) := by decide +kernel
theorem d_PM_badnessOf_50 : decode prog_1_method_24_code 50 = .ok (.lload_n 0, 1) := by decide +kernel
theorem d_PM_badnessOf_51 : decode prog_1_method_24_code 51 = .ok (.lstore 4, 2) := by decide +kernel
theorem d_PM_badnessOf_53 : decode prog_1_method_24_code 53 = .ok (.lload 4, 2) := by decide +kernel
theorem d_PM_badnessOf_55 : decode prog_1_method_24_code 55 = .ok (.ldc2_w 256, 3) := by decide +kernel
theorem d_PM_badnessOf_58 : decode prog_1_method_24_code 58 = .ok (.lcmp, 1) := by decide +kernel
theorem d_PM_badnessOf_59 : decode prog_1_method_24_code 59 = .ok (.ifCond .le 9, 3) := by decide +kernel
theorem d_PM_badnessOf_62 : decode prog_1_method_24_code 62 = .ok (.sipush 10000, 3) := by decide +kernel
theorem d_PM_badnessOf_65 : decode prog_1_method_24_code 65 = .ok (.goto 20, 3) := by decide +kernel
theorem d_PM_badnessOf_68 : decode prog_1_method_24_code 68 = .ok (.lload 4, 2) := by decide +kernel
theorem d_PM_badnessOf_70 : decode prog_1_method_24_code 70 = .ok (.lload 4, 2) := by decide +kernel
theorem d_PM_badnessOf_72 : decode prog_1_method_24_code 72 = .ok (.lmul, 1) := by decide +kernel
theorem d_PM_badnessOf_73 : decode prog_1_method_24_code 73 = .ok (.lload 4, 2) := by decide +kernel
theorem d_PM_badnessOf_75 : decode prog_1_method_24_code 75 = .ok (.lmul, 1) := by decide +kernel
theorem d_PM_badnessOf_76 : decode prog_1_method_24_code 76 = .ok (.ldc2_w 258, 3) := by decide +kernel
theorem d_PM_badnessOf_79 : decode prog_1_method_24_code 79 = .ok (.ladd, 1) := by decide +kernel
theorem d_PM_badnessOf_80 : decode prog_1_method_24_code 80 = .ok (.ldc2_w 260, 3) := by decide +kernel
theorem d_PM_badnessOf_83 : decode prog_1_method_24_code 83 = .ok (.ldiv, 1) := by decide +kernel
theorem d_PM_badnessOf_84 : decode prog_1_method_24_code 84 = .ok (.l2i, 1) := by decide +kernel
theorem d_PM_badnessOf_85 : decode prog_1_method_24_code 85 = .ok (.ireturn, 1) := by decide +kernel
def y_PM_costOf : MethodName := ⟨"PageMaker", "costOf", "(II)I"⟩
def w_PM_costOf : List Cond := .code y_PM_costOf prog_1_method_25_code 2 (some .int) :: TB
theorem d_PM_costOf_0 : decode prog_1_method_25_code 0 = .ok (.iload_n 0, 1) := by decide +kernel
theorem d_PM_costOf_1 : decode prog_1_method_25_code 1 = .ok (.ldc 187, 2) := by decide +kernel
theorem d_PM_costOf_3 : decode prog_1_method_25_code 3 = .ok (.if_icmp .ne 6, 3) := by decide +kernel
theorem d_PM_costOf_6 : decode prog_1_method_25_code 6 = .ok (.ldc 187, 2) := by decide +kernel
theorem d_PM_costOf_8 : decode prog_1_method_25_code 8 = .ok (.ireturn, 1) := by decide +kernel
theorem d_PM_costOf_9 : decode prog_1_method_25_code 9 = .ok (.iload_n 1, 1) := by decide +kernel
theorem d_PM_costOf_10 : decode prog_1_method_25_code 10 = .ok (.sipush (-10000), 3) := by decide +kernel
theorem d_PM_costOf_13 : decode prog_1_method_25_code 13 = .ok (.if_icmp .gt 5, 3) := by decide +kernel
theorem d_PM_costOf_16 : decode prog_1_method_25_code 16 = .ok (.iload_n 1, 1) := by decide +kernel
theorem d_PM_costOf_17 : decode prog_1_method_25_code 17 = .ok (.ireturn, 1) := by decide +kernel
theorem d_PM_costOf_18 : decode prog_1_method_25_code 18 = .ok (.iload_n 0, 1) := by decide +kernel
theorem d_PM_costOf_19 : decode prog_1_method_25_code 19 = .ok (.sipush 10000, 3) := by decide +kernel
theorem d_PM_costOf_22 : decode prog_1_method_25_code 22 = .ok (.if_icmp .ge 9, 3) := by decide +kernel
theorem d_PM_costOf_25 : decode prog_1_method_25_code 25 = .ok (.iload_n 0, 1) := by decide +kernel
theorem d_PM_costOf_26 : decode prog_1_method_25_code 26 = .ok (.iload_n 1, 1) := by decide +kernel
theorem d_PM_costOf_27 : decode prog_1_method_25_code 27 = .ok (.iadd, 1) := by decide +kernel
theorem d_PM_costOf_28 : decode prog_1_method_25_code 28 = .ok (.goto 5, 3) := by decide +kernel
theorem d_PM_costOf_31 : decode prog_1_method_25_code 31 = .ok (.ldc 85, 2) := by decide +kernel
theorem d_PM_costOf_33 : decode prog_1_method_25_code 33 = .ok (.ireturn, 1) := by decide +kernel
def y_PM_proportion : MethodName := ⟨"PageMaker", "proportion", "(JJJ)J"⟩
def w_PM_proportion : List Cond := .code y_PM_proportion prog_1_method_26_code 13 (some .long) :: TB
theorem d_PM_proportion_0 : decode prog_1_method_26_code 0 = .ok (.lload 4, 2) := by decide +kernel
theorem d_PM_proportion_2 : decode prog_1_method_26_code 2 = .ok (.lconst 0, 1) := by decide +kernel
theorem d_PM_proportion_3 : decode prog_1_method_26_code 3 = .ok (.lcmp, 1) := by decide +kernel
theorem d_PM_proportion_4 : decode prog_1_method_26_code 4 = .ok (.ifCond .gt 5, 3) := by decide +kernel
theorem d_PM_proportion_7 : decode prog_1_method_26_code 7 = .ok (.lconst 0, 1) := by decide +kernel
theorem d_PM_proportion_8 : decode prog_1_method_26_code 8 = .ok (.lreturn, 1) := by decide +kernel
theorem d_PM_proportion_9 : decode prog_1_method_26_code 9 = .ok (.lconst 0, 1) := by decide +kernel
theorem d_PM_proportion_10 : decode prog_1_method_26_code 10 = .ok (.lstore 6, 2) := by decide +kernel
theorem d_PM_proportion_12 : decode prog_1_method_26_code 12 = .ok (.lconst 0, 1) := by decide +kernel
theorem d_PM_proportion_13 : decode prog_1_method_26_code 13 = .ok (.lstore 8, 2) := by decide +kernel
theorem d_PM_proportion_15 : decode prog_1_method_26_code 15 = .ok (.bipush 48, 2) := by decide +kernel
theorem d_PM_proportion_17 : decode prog_1_method_26_code 17 = .ok (.istore 10, 2) := by decide +kernel
theorem d_PM_proportion_19 : decode prog_1_method_26_code 19 = .ok (.iload 10, 2) := by decide +kernel
theorem d_PM_proportion_21 : decode prog_1_method_26_code 21 = .ok (.ifCond .lt 47, 3) := by decide +kernel
theorem d_PM_proportion_24 : decode prog_1_method_26_code 24 = .ok (.lload 8, 2) := by decide +kernel
theorem d_PM_proportion_26 : decode prog_1_method_26_code 26 = .ok (.bipush 16, 2) := by decide +kernel
theorem d_PM_proportion_28 : decode prog_1_method_26_code 28 = .ok (.lshl, 1) := by decide +kernel
theorem d_PM_proportion_29 : decode prog_1_method_26_code 29 = .ok (.lload_n 0, 1) := by decide +kernel
theorem d_PM_proportion_30 : decode prog_1_method_26_code 30 = .ok (.lload_n 2, 1) := by decide +kernel
theorem d_PM_proportion_31 : decode prog_1_method_26_code 31 = .ok (.iload 10, 2) := by decide +kernel
theorem d_PM_proportion_33 : decode prog_1_method_26_code 33 = .ok (.lushr, 1) := by decide +kernel
theorem d_PM_proportion_34 : decode prog_1_method_26_code 34 = .ok (.ldc2_w 262, 3) := by decide +kernel
theorem d_PM_proportion_37 : decode prog_1_method_26_code 37 = .ok (.land, 1) := by decide +kernel
theorem d_PM_proportion_38 : decode prog_1_method_26_code 38 = .ok (.lmul, 1) := by decide +kernel
theorem d_PM_proportion_39 : decode prog_1_method_26_code 39 = .ok (.ladd, 1) := by decide +kernel
theorem d_PM_proportion_40 : decode prog_1_method_26_code 40 = .ok (.lstore 11, 2) := by decide +kernel
theorem d_PM_proportion_42 : decode prog_1_method_26_code 42 = .ok (.lload 6, 2) := by decide +kernel
theorem d_PM_proportion_44 : decode prog_1_method_26_code 44 = .ok (.bipush 16, 2) := by decide +kernel
theorem d_PM_proportion_46 : decode prog_1_method_26_code 46 = .ok (.lshl, 1) := by decide +kernel
theorem d_PM_proportion_47 : decode prog_1_method_26_code 47 = .ok (.lload 11, 2) := by decide +kernel
theorem d_PM_proportion_49 : decode prog_1_method_26_code 49 = .ok (.lload 4, 2) := by decide +kernel
theorem d_PM_proportion_51 : decode prog_1_method_26_code 51 = .ok (.ldiv, 1) := by decide +kernel
theorem d_PM_proportion_52 : decode prog_1_method_26_code 52 = .ok (.ladd, 1) := by decide +kernel
theorem d_PM_proportion_53 : decode prog_1_method_26_code 53 = .ok (.lstore 6, 2) := by decide +kernel
theorem d_PM_proportion_55 : decode prog_1_method_26_code 55 = .ok (.lload 11, 2) := by decide +kernel
theorem d_PM_proportion_57 : decode prog_1_method_26_code 57 = .ok (.lload 4, 2) := by decide +kernel
theorem d_PM_proportion_59 : decode prog_1_method_26_code 59 = .ok (.lrem, 1) := by decide +kernel
theorem d_PM_proportion_60 : decode prog_1_method_26_code 60 = .ok (.lstore 8, 2) := by decide +kernel
theorem d_PM_proportion_62 : decode prog_1_method_26_code 62 = .ok (.iinc 10 (-16), 3) := by decide +kernel
theorem d_PM_proportion_65 : decode prog_1_method_26_code 65 = .ok (.goto (-46), 3) := by decide +kernel
theorem d_PM_proportion_68 : decode prog_1_method_26_code 68 = .ok (.ldc2_w 264, 3) := by decide +kernel
theorem d_PM_proportion_71 : decode prog_1_method_26_code 71 = .ok (.lload 8, 2) := by decide +kernel
theorem d_PM_proportion_73 : decode prog_1_method_26_code 73 = .ok (.lmul, 1) := by decide +kernel
theorem d_PM_proportion_74 : decode prog_1_method_26_code 74 = .ok (.lload 4, 2) := by decide +kernel
theorem d_PM_proportion_76 : decode prog_1_method_26_code 76 = .ok (.lcmp, 1) := by decide +kernel
theorem d_PM_proportion_77 : decode prog_1_method_26_code 77 = .ok (.ifCond .lt 10, 3) := by decide +kernel
theorem d_PM_proportion_80 : decode prog_1_method_26_code 80 = .ok (.lload 6, 2) := by decide +kernel
theorem d_PM_proportion_82 : decode prog_1_method_26_code 82 = .ok (.lconst 1, 1) := by decide +kernel
theorem d_PM_proportion_83 : decode prog_1_method_26_code 83 = .ok (.ladd, 1) := by decide +kernel
theorem d_PM_proportion_84 : decode prog_1_method_26_code 84 = .ok (.goto 5, 3) := by decide +kernel
theorem d_PM_proportion_87 : decode prog_1_method_26_code 87 = .ok (.lload 6, 2) := by decide +kernel
theorem d_PM_proportion_89 : decode prog_1_method_26_code 89 = .ok (.lreturn, 1) := by decide +kernel
