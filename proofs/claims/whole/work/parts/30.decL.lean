/-! methods of the law -/
def y_LW_frame : MethodName := ⟨"PageMakerLaw", "frame", "(LPageMaker;III)I"⟩
def w_LW_frame : List Cond := .codeWith y_LW_frame method_3_code 5 (some .int) [(0, 7, 10, 13)] :: TB
theorem d_LW_frame_0 : decode method_3_code 0 = .ok (.aload_n 0, 1) := by decide +kernel
theorem d_LW_frame_1 : decode method_3_code 1 = .ok (.iload_n 1, 1) := by decide +kernel
theorem d_LW_frame_2 : decode method_3_code 2 = .ok (.iload_n 2, 1) := by decide +kernel
theorem d_LW_frame_3 : decode method_3_code 3 = .ok (.iload_n 3, 1) := by decide +kernel
theorem d_LW_frame_4 : decode method_3_code 4 = .ok (.invokevirtual 7, 3) := by decide +kernel
theorem d_LW_frame_7 : decode method_3_code 7 = .ok (.goto 7, 3) := by decide +kernel
theorem d_LW_frame_10 : decode method_3_code 10 = .ok (.astore 4, 2) := by decide +kernel
theorem d_LW_frame_12 : decode method_3_code 12 = .ok (.iconst 1, 1) := by decide +kernel
theorem d_LW_frame_13 : decode method_3_code 13 = .ok (.ireturn, 1) := by decide +kernel
theorem d_LW_frame_14 : decode method_3_code 14 = .ok (.iconst 0, 1) := by decide +kernel
theorem d_LW_frame_15 : decode method_3_code 15 = .ok (.ireturn, 1) := by decide +kernel
def y_LW_box : MethodName := ⟨"PageMakerLaw", "box", "(LPageMaker;III[J)I"⟩
def w_LW_box : List Cond := .codeWith y_LW_box method_4_code 6 (some .int) [(0, 12, 15, 13), (0, 12, 19, 19)] :: TB
theorem d_LW_box_0 : decode method_4_code 0 = .ok (.aload 4, 2) := by decide +kernel
theorem d_LW_box_2 : decode method_4_code 2 = .ok (.iconst 0, 1) := by decide +kernel
theorem d_LW_box_3 : decode method_4_code 3 = .ok (.aload_n 0, 1) := by decide +kernel
theorem d_LW_box_4 : decode method_4_code 4 = .ok (.iload_n 1, 1) := by decide +kernel
theorem d_LW_box_5 : decode method_4_code 5 = .ok (.iload_n 2, 1) := by decide +kernel
theorem d_LW_box_6 : decode method_4_code 6 = .ok (.iload_n 3, 1) := by decide +kernel
theorem d_LW_box_7 : decode method_4_code 7 = .ok (.invokevirtual 15, 3) := by decide +kernel
theorem d_LW_box_10 : decode method_4_code 10 = .ok (.i2l, 1) := by decide +kernel
theorem d_LW_box_11 : decode method_4_code 11 = .ok (.lastore, 1) := by decide +kernel
theorem d_LW_box_12 : decode method_4_code 12 = .ok (.goto 11, 3) := by decide +kernel
theorem d_LW_box_15 : decode method_4_code 15 = .ok (.astore 5, 2) := by decide +kernel
theorem d_LW_box_17 : decode method_4_code 17 = .ok (.iconst 1, 1) := by decide +kernel
theorem d_LW_box_18 : decode method_4_code 18 = .ok (.ireturn, 1) := by decide +kernel
theorem d_LW_box_19 : decode method_4_code 19 = .ok (.astore 5, 2) := by decide +kernel
theorem d_LW_box_21 : decode method_4_code 21 = .ok (.iconst 2, 1) := by decide +kernel
theorem d_LW_box_22 : decode method_4_code 22 = .ok (.ireturn, 1) := by decide +kernel
theorem d_LW_box_23 : decode method_4_code 23 = .ok (.iconst 0, 1) := by decide +kernel
theorem d_LW_box_24 : decode method_4_code 24 = .ok (.ireturn, 1) := by decide +kernel
def y_LW_glue : MethodName := ⟨"PageMakerLaw", "glue", "(LPageMaker;IIII[J)I"⟩
def w_LW_glue : List Cond := .codeWith y_LW_glue method_5_code 7 (some .int) [(0, 14, 17, 13), (0, 14, 21, 19)] :: TB
theorem d_LW_glue_0 : decode method_5_code 0 = .ok (.aload 5, 2) := by decide +kernel
theorem d_LW_glue_2 : decode method_5_code 2 = .ok (.iconst 0, 1) := by decide +kernel
theorem d_LW_glue_3 : decode method_5_code 3 = .ok (.aload_n 0, 1) := by decide +kernel
theorem d_LW_glue_4 : decode method_5_code 4 = .ok (.iload_n 1, 1) := by decide +kernel
theorem d_LW_glue_5 : decode method_5_code 5 = .ok (.iload_n 2, 1) := by decide +kernel
theorem d_LW_glue_6 : decode method_5_code 6 = .ok (.iload_n 3, 1) := by decide +kernel
theorem d_LW_glue_7 : decode method_5_code 7 = .ok (.iload 4, 2) := by decide +kernel
theorem d_LW_glue_9 : decode method_5_code 9 = .ok (.invokevirtual 21, 3) := by decide +kernel
theorem d_LW_glue_12 : decode method_5_code 12 = .ok (.i2l, 1) := by decide +kernel
theorem d_LW_glue_13 : decode method_5_code 13 = .ok (.lastore, 1) := by decide +kernel
theorem d_LW_glue_14 : decode method_5_code 14 = .ok (.goto 11, 3) := by decide +kernel
theorem d_LW_glue_17 : decode method_5_code 17 = .ok (.astore 6, 2) := by decide +kernel
theorem d_LW_glue_19 : decode method_5_code 19 = .ok (.iconst 1, 1) := by decide +kernel
theorem d_LW_glue_20 : decode method_5_code 20 = .ok (.ireturn, 1) := by decide +kernel
theorem d_LW_glue_21 : decode method_5_code 21 = .ok (.astore 6, 2) := by decide +kernel
theorem d_LW_glue_23 : decode method_5_code 23 = .ok (.iconst 2, 1) := by decide +kernel
theorem d_LW_glue_24 : decode method_5_code 24 = .ok (.ireturn, 1) := by decide +kernel
theorem d_LW_glue_25 : decode method_5_code 25 = .ok (.iconst 0, 1) := by decide +kernel
theorem d_LW_glue_26 : decode method_5_code 26 = .ok (.ireturn, 1) := by decide +kernel
def y_LW_kern : MethodName := ⟨"PageMakerLaw", "kern", "(LPageMaker;I[J)I"⟩
def w_LW_kern : List Cond := .codeWith y_LW_kern method_6_code 4 (some .int) [(0, 9, 12, 13), (0, 9, 15, 19)] :: TB
theorem d_LW_kern_0 : decode method_6_code 0 = .ok (.aload_n 2, 1) := by decide +kernel
theorem d_LW_kern_1 : decode method_6_code 1 = .ok (.iconst 0, 1) := by decide +kernel
theorem d_LW_kern_2 : decode method_6_code 2 = .ok (.aload_n 0, 1) := by decide +kernel
theorem d_LW_kern_3 : decode method_6_code 3 = .ok (.iload_n 1, 1) := by decide +kernel
theorem d_LW_kern_4 : decode method_6_code 4 = .ok (.invokevirtual 25, 3) := by decide +kernel
theorem d_LW_kern_7 : decode method_6_code 7 = .ok (.i2l, 1) := by decide +kernel
theorem d_LW_kern_8 : decode method_6_code 8 = .ok (.lastore, 1) := by decide +kernel
theorem d_LW_kern_9 : decode method_6_code 9 = .ok (.goto 9, 3) := by decide +kernel
theorem d_LW_kern_12 : decode method_6_code 12 = .ok (.astore_n 3, 1) := by decide +kernel
theorem d_LW_kern_13 : decode method_6_code 13 = .ok (.iconst 1, 1) := by decide +kernel
theorem d_LW_kern_14 : decode method_6_code 14 = .ok (.ireturn, 1) := by decide +kernel
theorem d_LW_kern_15 : decode method_6_code 15 = .ok (.astore_n 3, 1) := by decide +kernel
theorem d_LW_kern_16 : decode method_6_code 16 = .ok (.iconst 2, 1) := by decide +kernel
theorem d_LW_kern_17 : decode method_6_code 17 = .ok (.ireturn, 1) := by decide +kernel
theorem d_LW_kern_18 : decode method_6_code 18 = .ok (.iconst 0, 1) := by decide +kernel
theorem d_LW_kern_19 : decode method_6_code 19 = .ok (.ireturn, 1) := by decide +kernel
def y_LW_penalty : MethodName := ⟨"PageMakerLaw", "penalty", "(LPageMaker;I[J)I"⟩
def w_LW_penalty : List Cond := .codeWith y_LW_penalty method_7_code 4 (some .int) [(0, 9, 12, 13), (0, 9, 15, 19)] :: TB
theorem d_LW_penalty_0 : decode method_7_code 0 = .ok (.aload_n 2, 1) := by decide +kernel
theorem d_LW_penalty_1 : decode method_7_code 1 = .ok (.iconst 0, 1) := by decide +kernel
theorem d_LW_penalty_2 : decode method_7_code 2 = .ok (.aload_n 0, 1) := by decide +kernel
theorem d_LW_penalty_3 : decode method_7_code 3 = .ok (.iload_n 1, 1) := by decide +kernel
theorem d_LW_penalty_4 : decode method_7_code 4 = .ok (.invokevirtual 29, 3) := by decide +kernel
theorem d_LW_penalty_7 : decode method_7_code 7 = .ok (.i2l, 1) := by decide +kernel
theorem d_LW_penalty_8 : decode method_7_code 8 = .ok (.lastore, 1) := by decide +kernel
theorem d_LW_penalty_9 : decode method_7_code 9 = .ok (.goto 9, 3) := by decide +kernel
theorem d_LW_penalty_12 : decode method_7_code 12 = .ok (.astore_n 3, 1) := by decide +kernel
theorem d_LW_penalty_13 : decode method_7_code 13 = .ok (.iconst 1, 1) := by decide +kernel
theorem d_LW_penalty_14 : decode method_7_code 14 = .ok (.ireturn, 1) := by decide +kernel
theorem d_LW_penalty_15 : decode method_7_code 15 = .ok (.astore_n 3, 1) := by decide +kernel
theorem d_LW_penalty_16 : decode method_7_code 16 = .ok (.iconst 2, 1) := by decide +kernel
theorem d_LW_penalty_17 : decode method_7_code 17 = .ok (.ireturn, 1) := by decide +kernel
theorem d_LW_penalty_18 : decode method_7_code 18 = .ok (.iconst 0, 1) := by decide +kernel
theorem d_LW_penalty_19 : decode method_7_code 19 = .ok (.ireturn, 1) := by decide +kernel
def y_LW_page : MethodName := ⟨"PageMakerLaw", "page", "(LPageMaker;II[J)I"⟩
def w_LW_page : List Cond := .codeWith y_LW_page method_8_code 5 (some .int) [(0, 9, 12, 36)] :: TB
theorem d_LW_page_0 : decode method_8_code 0 = .ok (.aload_n 3, 1) := by decide +kernel
theorem d_LW_page_1 : decode method_8_code 1 = .ok (.iconst 0, 1) := by decide +kernel
theorem d_LW_page_2 : decode method_8_code 2 = .ok (.aload_n 0, 1) := by decide +kernel
theorem d_LW_page_3 : decode method_8_code 3 = .ok (.iload_n 1, 1) := by decide +kernel
theorem d_LW_page_4 : decode method_8_code 4 = .ok (.iload_n 2, 1) := by decide +kernel
theorem d_LW_page_5 : decode method_8_code 5 = .ok (.invokevirtual 32, 3) := by decide +kernel
theorem d_LW_page_8 : decode method_8_code 8 = .ok (.lastore, 1) := by decide +kernel
theorem d_LW_page_9 : decode method_8_code 9 = .ok (.goto 7, 3) := by decide +kernel
theorem d_LW_page_12 : decode method_8_code 12 = .ok (.astore 4, 2) := by decide +kernel
theorem d_LW_page_14 : decode method_8_code 14 = .ok (.iconst 1, 1) := by decide +kernel
theorem d_LW_page_15 : decode method_8_code 15 = .ok (.ireturn, 1) := by decide +kernel
theorem d_LW_page_16 : decode method_8_code 16 = .ok (.iconst 0, 1) := by decide +kernel
theorem d_LW_page_17 : decode method_8_code 17 = .ok (.ireturn, 1) := by decide +kernel
def y_LW_stands : MethodName := ⟨"PageMakerLaw", "stands", "(LPageMaker;II[J)I"⟩
def w_LW_stands : List Cond := .codeWith y_LW_stands method_9_code 5 (some .int) [(0, 9, 12, 36)] :: TB
theorem d_LW_stands_0 : decode method_9_code 0 = .ok (.aload_n 3, 1) := by decide +kernel
theorem d_LW_stands_1 : decode method_9_code 1 = .ok (.iconst 0, 1) := by decide +kernel
theorem d_LW_stands_2 : decode method_9_code 2 = .ok (.aload_n 0, 1) := by decide +kernel
theorem d_LW_stands_3 : decode method_9_code 3 = .ok (.iload_n 1, 1) := by decide +kernel
theorem d_LW_stands_4 : decode method_9_code 4 = .ok (.iload_n 2, 1) := by decide +kernel
theorem d_LW_stands_5 : decode method_9_code 5 = .ok (.invokevirtual 38, 3) := by decide +kernel
theorem d_LW_stands_8 : decode method_9_code 8 = .ok (.lastore, 1) := by decide +kernel
theorem d_LW_stands_9 : decode method_9_code 9 = .ok (.goto 7, 3) := by decide +kernel
theorem d_LW_stands_12 : decode method_9_code 12 = .ok (.astore 4, 2) := by decide +kernel
theorem d_LW_stands_14 : decode method_9_code 14 = .ok (.iconst 1, 1) := by decide +kernel
theorem d_LW_stands_15 : decode method_9_code 15 = .ok (.ireturn, 1) := by decide +kernel
theorem d_LW_stands_16 : decode method_9_code 16 = .ok (.iconst 0, 1) := by decide +kernel
theorem d_LW_stands_17 : decode method_9_code 17 = .ok (.ireturn, 1) := by decide +kernel
def y_LW_where : MethodName := ⟨"PageMakerLaw", "where", "(LPageMaker;I[J)I"⟩
def w_LW_where : List Cond := .codeWith y_LW_where method_10_code 4 (some .int) [(0, 9, 12, 36)] :: TB
theorem d_LW_where_0 : decode method_10_code 0 = .ok (.aload_n 2, 1) := by decide +kernel
theorem d_LW_where_1 : decode method_10_code 1 = .ok (.iconst 0, 1) := by decide +kernel
theorem d_LW_where_2 : decode method_10_code 2 = .ok (.aload_n 0, 1) := by decide +kernel
theorem d_LW_where_3 : decode method_10_code 3 = .ok (.iload_n 1, 1) := by decide +kernel
theorem d_LW_where_4 : decode method_10_code 4 = .ok (.invokevirtual 41, 3) := by decide +kernel
theorem d_LW_where_7 : decode method_10_code 7 = .ok (.i2l, 1) := by decide +kernel
theorem d_LW_where_8 : decode method_10_code 8 = .ok (.lastore, 1) := by decide +kernel
theorem d_LW_where_9 : decode method_10_code 9 = .ok (.goto 6, 3) := by decide +kernel
theorem d_LW_where_12 : decode method_10_code 12 = .ok (.astore_n 3, 1) := by decide +kernel
theorem d_LW_where_13 : decode method_10_code 13 = .ok (.iconst 1, 1) := by decide +kernel
theorem d_LW_where_14 : decode method_10_code 14 = .ok (.ireturn, 1) := by decide +kernel
theorem d_LW_where_15 : decode method_10_code 15 = .ok (.iconst 0, 1) := by decide +kernel
theorem d_LW_where_16 : decode method_10_code 16 = .ok (.ireturn, 1) := by decide +kernel
def y_LW_open : MethodName := ⟨"PageMakerLaw", "open", "(LPageMaker;I[J)I"⟩
def w_LW_open : List Cond := .codeWith y_LW_open method_11_code 4 (some .int) [(0, 8, 11, 36)] :: TB
theorem d_LW_open_0 : decode method_11_code 0 = .ok (.aload_n 2, 1) := by decide +kernel
theorem d_LW_open_1 : decode method_11_code 1 = .ok (.iconst 0, 1) := by decide +kernel
theorem d_LW_open_2 : decode method_11_code 2 = .ok (.aload_n 0, 1) := by decide +kernel
theorem d_LW_open_3 : decode method_11_code 3 = .ok (.iload_n 1, 1) := by decide +kernel
theorem d_LW_open_4 : decode method_11_code 4 = .ok (.invokevirtual 44, 3) := by decide +kernel
theorem d_LW_open_7 : decode method_11_code 7 = .ok (.lastore, 1) := by decide +kernel
theorem d_LW_open_8 : decode method_11_code 8 = .ok (.goto 6, 3) := by decide +kernel
theorem d_LW_open_11 : decode method_11_code 11 = .ok (.astore_n 3, 1) := by decide +kernel
theorem d_LW_open_12 : decode method_11_code 12 = .ok (.iconst 1, 1) := by decide +kernel
theorem d_LW_open_13 : decode method_11_code 13 = .ok (.ireturn, 1) := by decide +kernel
theorem d_LW_open_14 : decode method_11_code 14 = .ok (.iconst 0, 1) := by decide +kernel
theorem d_LW_open_15 : decode method_11_code 15 = .ok (.ireturn, 1) := by decide +kernel
