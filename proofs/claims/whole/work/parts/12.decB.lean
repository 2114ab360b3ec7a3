abbrev c_EK_init : ByteArray := prog_1_method_1_code
def y_EK_init : MethodName := ⟨"EventKeeper", "<init>", "()V"⟩
theorem d_EK_init_0 : decode c_EK_init 0 = .ok (.aload_n 0, 1) := by decide +kernel
theorem d_EK_init_1 : decode c_EK_init 1 = .ok (.invokespecial 1, 3) := by decide +kernel
theorem d_EK_init_4 : decode c_EK_init 4 = .ok (.aload_n 0, 1) := by decide +kernel
theorem d_EK_init_5 : decode c_EK_init 5 = .ok (.new 7, 3) := by decide +kernel
theorem d_EK_init_8 : decode c_EK_init 8 = .ok (.dup, 1) := by decide +kernel
theorem d_EK_init_9 : decode c_EK_init 9 = .ok (.invokespecial 9, 3) := by decide +kernel
theorem d_EK_init_12 : decode c_EK_init 12 = .ok (.putfield 10, 3) := by decide +kernel
theorem d_EK_init_15 : decode c_EK_init 15 = .ok (.aload_n 0, 1) := by decide +kernel
theorem d_EK_init_16 : decode c_EK_init 16 = .ok (.bipush 8, 2) := by decide +kernel
theorem d_EK_init_18 : decode c_EK_init 18 = .ok (.anewarray 16, 3) := by decide +kernel
theorem d_EK_init_21 : decode c_EK_init 21 = .ok (.putfield 18, 3) := by decide +kernel
theorem d_EK_init_24 : decode c_EK_init 24 = .ok (.iconst 0, 1) := by decide +kernel
theorem d_EK_init_25 : decode c_EK_init 25 = .ok (.istore_n 1, 1) := by decide +kernel
theorem d_EK_init_26 : decode c_EK_init 26 = .ok (.iload_n 1, 1) := by decide +kernel
theorem d_EK_init_27 : decode c_EK_init 27 = .ok (.bipush 8, 2) := by decide +kernel
theorem d_EK_init_29 : decode c_EK_init 29 = .ok (.if_icmp .ge 23, 3) := by decide +kernel
theorem d_EK_init_32 : decode c_EK_init 32 = .ok (.aload_n 0, 1) := by decide +kernel
theorem d_EK_init_33 : decode c_EK_init 33 = .ok (.getfield 18, 3) := by decide +kernel
theorem d_EK_init_36 : decode c_EK_init 36 = .ok (.iload_n 1, 1) := by decide +kernel
theorem d_EK_init_37 : decode c_EK_init 37 = .ok (.new 16, 3) := by decide +kernel
theorem d_EK_init_40 : decode c_EK_init 40 = .ok (.dup, 1) := by decide +kernel
theorem d_EK_init_41 : decode c_EK_init 41 = .ok (.iload_n 1, 1) := by decide +kernel
theorem d_EK_init_42 : decode c_EK_init 42 = .ok (.invokespecial 22, 3) := by decide +kernel
theorem d_EK_init_45 : decode c_EK_init 45 = .ok (.aastore, 1) := by decide +kernel
theorem d_EK_init_46 : decode c_EK_init 46 = .ok (.iinc 1 1, 3) := by decide +kernel
theorem d_EK_init_49 : decode c_EK_init 49 = .ok (.goto (-23), 3) := by decide +kernel
theorem d_EK_init_52 : decode c_EK_init 52 = .ok (.aload_n 0, 1) := by decide +kernel
theorem d_EK_init_53 : decode c_EK_init 53 = .ok (.bipush 8, 2) := by decide +kernel
theorem d_EK_init_55 : decode c_EK_init 55 = .ok (.anewarray 25, 3) := by decide +kernel
theorem d_EK_init_58 : decode c_EK_init 58 = .ok (.putfield 27, 3) := by decide +kernel
theorem d_EK_init_61 : decode c_EK_init 61 = .ok (.iconst 0, 1) := by decide +kernel
theorem d_EK_init_62 : decode c_EK_init 62 = .ok (.istore_n 1, 1) := by decide +kernel
theorem d_EK_init_63 : decode c_EK_init 63 = .ok (.iload_n 1, 1) := by decide +kernel
theorem d_EK_init_64 : decode c_EK_init 64 = .ok (.bipush 8, 2) := by decide +kernel
theorem d_EK_init_66 : decode c_EK_init 66 = .ok (.if_icmp .ge 22, 3) := by decide +kernel
theorem d_EK_init_69 : decode c_EK_init 69 = .ok (.aload_n 0, 1) := by decide +kernel
theorem d_EK_init_70 : decode c_EK_init 70 = .ok (.getfield 27, 3) := by decide +kernel
theorem d_EK_init_73 : decode c_EK_init 73 = .ok (.iload_n 1, 1) := by decide +kernel
theorem d_EK_init_74 : decode c_EK_init 74 = .ok (.new 25, 3) := by decide +kernel
theorem d_EK_init_77 : decode c_EK_init 77 = .ok (.dup, 1) := by decide +kernel
theorem d_EK_init_78 : decode c_EK_init 78 = .ok (.invokespecial 31, 3) := by decide +kernel
theorem d_EK_init_81 : decode c_EK_init 81 = .ok (.aastore, 1) := by decide +kernel
theorem d_EK_init_82 : decode c_EK_init 82 = .ok (.iinc 1 1, 3) := by decide +kernel
theorem d_EK_init_85 : decode c_EK_init 85 = .ok (.goto (-22), 3) := by decide +kernel
theorem d_EK_init_88 : decode c_EK_init 88 = .ok (.return_, 1) := by decide +kernel
abbrev c_EK_append : ByteArray := prog_1_method_2_code
def y_EK_append : MethodName := ⟨"EventKeeper", "append", "(IIIJ)I"⟩
theorem d_EK_append_0 : decode c_EK_append 0 = .ok (.iload_n 1, 1) := by decide +kernel
theorem d_EK_append_1 : decode c_EK_append 1 = .ok (.invokestatic 32, 3) := by decide +kernel
theorem d_EK_append_4 : decode c_EK_append 4 = .ok (.iload_n 2, 1) := by decide +kernel
theorem d_EK_append_5 : decode c_EK_append 5 = .ok (.iconst (-1), 1) := by decide +kernel
theorem d_EK_append_6 : decode c_EK_append 6 = .ok (.if_icmp .lt 7, 3) := by decide +kernel
theorem d_EK_append_9 : decode c_EK_append 9 = .ok (.iconst 1, 1) := by decide +kernel
theorem d_EK_append_10 : decode c_EK_append 10 = .ok (.goto 4, 3) := by decide +kernel
theorem d_EK_append_13 : decode c_EK_append 13 = .ok (.iconst 0, 1) := by decide +kernel
theorem d_EK_append_14 : decode c_EK_append 14 = .ok (.invokestatic 35, 3) := by decide +kernel
theorem d_EK_append_17 : decode c_EK_append 17 = .ok (.iload_n 3, 1) := by decide +kernel
theorem d_EK_append_18 : decode c_EK_append 18 = .ok (.invokestatic 39, 3) := by decide +kernel
theorem d_EK_append_21 : decode c_EK_append 21 = .ok (.iload_n 2, 1) := by decide +kernel
theorem d_EK_append_22 : decode c_EK_append 22 = .ok (.iconst (-1), 1) := by decide +kernel
theorem d_EK_append_23 : decode c_EK_append 23 = .ok (.if_icmp .eq 26, 3) := by decide +kernel
theorem d_EK_append_26 : decode c_EK_append 26 = .ok (.iload_n 2, 1) := by decide +kernel
theorem d_EK_append_27 : decode c_EK_append 27 = .ok (.aload_n 0, 1) := by decide +kernel
theorem d_EK_append_28 : decode c_EK_append 28 = .ok (.getfield 10, 3) := by decide +kernel
theorem d_EK_append_31 : decode c_EK_append 31 = .ok (.getfield 42, 3) := by decide +kernel
theorem d_EK_append_34 : decode c_EK_append 34 = .ok (.iload_n 1, 1) := by decide +kernel
theorem d_EK_append_35 : decode c_EK_append 35 = .ok (.iaload, 1) := by decide +kernel
theorem d_EK_append_36 : decode c_EK_append 36 = .ok (.if_icmp .eq 13, 3) := by decide +kernel
theorem d_EK_append_39 : decode c_EK_append 39 = .ok (.new 46, 3) := by decide +kernel
theorem d_EK_append_42 : decode c_EK_append 42 = .ok (.dup, 1) := by decide +kernel
theorem d_EK_append_43 : decode c_EK_append 43 = .ok (.ldc 48, 2) := by decide +kernel
theorem d_EK_append_45 : decode c_EK_append 45 = .ok (.invokespecial 50, 3) := by decide +kernel
theorem d_EK_append_48 : decode c_EK_append 48 = .ok (.athrow, 1) := by decide +kernel
theorem d_EK_append_49 : decode c_EK_append 49 = .ok (.aload_n 0, 1) := by decide +kernel
theorem d_EK_append_50 : decode c_EK_append 50 = .ok (.getfield 10, 3) := by decide +kernel
theorem d_EK_append_53 : decode c_EK_append 53 = .ok (.invokevirtual 53, 3) := by decide +kernel
theorem d_EK_append_56 : decode c_EK_append 56 = .ok (.ifCond .eq 13, 3) := by decide +kernel
theorem d_EK_append_59 : decode c_EK_append 59 = .ok (.new 57, 3) := by decide +kernel
theorem d_EK_append_62 : decode c_EK_append 62 = .ok (.dup, 1) := by decide +kernel
theorem d_EK_append_63 : decode c_EK_append 63 = .ok (.ldc 59, 2) := by decide +kernel
theorem d_EK_append_65 : decode c_EK_append 65 = .ok (.invokespecial 61, 3) := by decide +kernel
theorem d_EK_append_68 : decode c_EK_append 68 = .ok (.athrow, 1) := by decide +kernel
theorem d_EK_append_69 : decode c_EK_append 69 = .ok (.aload_n 0, 1) := by decide +kernel
theorem d_EK_append_70 : decode c_EK_append 70 = .ok (.getfield 10, 3) := by decide +kernel
theorem d_EK_append_73 : decode c_EK_append 73 = .ok (.iload_n 1, 1) := by decide +kernel
theorem d_EK_append_74 : decode c_EK_append 74 = .ok (.iload_n 3, 1) := by decide +kernel
theorem d_EK_append_75 : decode c_EK_append 75 = .ok (.lload 4, 2) := by decide +kernel
theorem d_EK_append_77 : decode c_EK_append 77 = .ok (.invokevirtual 62, 3) := by decide +kernel
theorem d_EK_append_80 : decode c_EK_append 80 = .ok (.ireturn, 1) := by decide +kernel
abbrev c_EK_rule : ByteArray := prog_1_method_3_code
def y_EK_rule : MethodName := ⟨"EventKeeper", "rule", "(IIII)V"⟩
theorem d_EK_rule_0 : decode c_EK_rule 0 = .ok (.iload_n 1, 1) := by decide +kernel
theorem d_EK_rule_1 : decode c_EK_rule 1 = .ok (.invokestatic 66, 3) := by decide +kernel
theorem d_EK_rule_4 : decode c_EK_rule 4 = .ok (.iload_n 2, 1) := by decide +kernel
theorem d_EK_rule_5 : decode c_EK_rule 5 = .ok (.invokestatic 39, 3) := by decide +kernel
theorem d_EK_rule_8 : decode c_EK_rule 8 = .ok (.iload_n 3, 1) := by decide +kernel
theorem d_EK_rule_9 : decode c_EK_rule 9 = .ok (.ifCond .lt 13, 3) := by decide +kernel
theorem d_EK_rule_12 : decode c_EK_rule 12 = .ok (.iload_n 3, 1) := by decide +kernel
theorem d_EK_rule_13 : decode c_EK_rule 13 = .ok (.bipush 6, 2) := by decide +kernel
theorem d_EK_rule_15 : decode c_EK_rule 15 = .ok (.if_icmp .gt 7, 3) := by decide +kernel
theorem d_EK_rule_18 : decode c_EK_rule 18 = .ok (.iconst 1, 1) := by decide +kernel
theorem d_EK_rule_19 : decode c_EK_rule 19 = .ok (.goto 4, 3) := by decide +kernel
theorem d_EK_rule_22 : decode c_EK_rule 22 = .ok (.iconst 0, 1) := by decide +kernel
theorem d_EK_rule_23 : decode c_EK_rule 23 = .ok (.invokestatic 35, 3) := by decide +kernel
theorem d_EK_rule_26 : decode c_EK_rule 26 = .ok (.iload 4, 2) := by decide +kernel
theorem d_EK_rule_28 : decode c_EK_rule 28 = .ok (.ifCond .lt 13, 3) := by decide +kernel
theorem d_EK_rule_31 : decode c_EK_rule 31 = .ok (.iload 4, 2) := by decide +kernel
theorem d_EK_rule_33 : decode c_EK_rule 33 = .ok (.iconst 2, 1) := by decide +kernel
theorem d_EK_rule_34 : decode c_EK_rule 34 = .ok (.if_icmp .gt 7, 3) := by decide +kernel
theorem d_EK_rule_37 : decode c_EK_rule 37 = .ok (.iconst 1, 1) := by decide +kernel
theorem d_EK_rule_38 : decode c_EK_rule 38 = .ok (.goto 4, 3) := by decide +kernel
theorem d_EK_rule_41 : decode c_EK_rule 41 = .ok (.iconst 0, 1) := by decide +kernel
theorem d_EK_rule_42 : decode c_EK_rule 42 = .ok (.invokestatic 35, 3) := by decide +kernel
theorem d_EK_rule_45 : decode c_EK_rule 45 = .ok (.aload_n 0, 1) := by decide +kernel
theorem d_EK_rule_46 : decode c_EK_rule 46 = .ok (.getfield 18, 3) := by decide +kernel
theorem d_EK_rule_49 : decode c_EK_rule 49 = .ok (.iload_n 1, 1) := by decide +kernel
theorem d_EK_rule_50 : decode c_EK_rule 50 = .ok (.aaload, 1) := by decide +kernel
theorem d_EK_rule_51 : decode c_EK_rule 51 = .ok (.iload_n 2, 1) := by decide +kernel
theorem d_EK_rule_52 : decode c_EK_rule 52 = .ok (.iload_n 3, 1) := by decide +kernel
theorem d_EK_rule_53 : decode c_EK_rule 53 = .ok (.iload 4, 2) := by decide +kernel
theorem d_EK_rule_55 : decode c_EK_rule 55 = .ok (.invokevirtual 69, 3) := by decide +kernel
theorem d_EK_rule_58 : decode c_EK_rule 58 = .ok (.return_, 1) := by decide +kernel
abbrev c_EK_advance : ByteArray := prog_1_method_4_code
def y_EK_advance : MethodName := ⟨"EventKeeper", "advance", "(II)I"⟩
theorem d_EK_advance_0 : decode c_EK_advance 0 = .ok (.iload_n 1, 1) := by decide +kernel
theorem d_EK_advance_1 : decode c_EK_advance 1 = .ok (.invokestatic 66, 3) := by decide +kernel
theorem d_EK_advance_4 : decode c_EK_advance 4 = .ok (.iload_n 2, 1) := by decide +kernel
theorem d_EK_advance_5 : decode c_EK_advance 5 = .ok (.ifCond .lt 14, 3) := by decide +kernel
theorem d_EK_advance_8 : decode c_EK_advance 8 = .ok (.iload_n 2, 1) := by decide +kernel
theorem d_EK_advance_9 : decode c_EK_advance 9 = .ok (.sipush 1000, 3) := by decide +kernel
theorem d_EK_advance_12 : decode c_EK_advance 12 = .ok (.if_icmp .gt 7, 3) := by decide +kernel
theorem d_EK_advance_15 : decode c_EK_advance 15 = .ok (.iconst 1, 1) := by decide +kernel
theorem d_EK_advance_16 : decode c_EK_advance 16 = .ok (.goto 4, 3) := by decide +kernel
theorem d_EK_advance_19 : decode c_EK_advance 19 = .ok (.iconst 0, 1) := by decide +kernel
theorem d_EK_advance_20 : decode c_EK_advance 20 = .ok (.invokestatic 35, 3) := by decide +kernel
theorem d_EK_advance_23 : decode c_EK_advance 23 = .ok (.iconst 0, 1) := by decide +kernel
theorem d_EK_advance_24 : decode c_EK_advance 24 = .ok (.istore_n 3, 1) := by decide +kernel
theorem d_EK_advance_25 : decode c_EK_advance 25 = .ok (.iload_n 3, 1) := by decide +kernel
theorem d_EK_advance_26 : decode c_EK_advance 26 = .ok (.iload_n 2, 1) := by decide +kernel
theorem d_EK_advance_27 : decode c_EK_advance 27 = .ok (.if_icmp .ge 27, 3) := by decide +kernel
theorem d_EK_advance_30 : decode c_EK_advance 30 = .ok (.aload_n 0, 1) := by decide +kernel
theorem d_EK_advance_31 : decode c_EK_advance 31 = .ok (.getfield 18, 3) := by decide +kernel
theorem d_EK_advance_34 : decode c_EK_advance 34 = .ok (.iload_n 1, 1) := by decide +kernel
theorem d_EK_advance_35 : decode c_EK_advance 35 = .ok (.aaload, 1) := by decide +kernel
theorem d_EK_advance_36 : decode c_EK_advance 36 = .ok (.aload_n 0, 1) := by decide +kernel
theorem d_EK_advance_37 : decode c_EK_advance 37 = .ok (.getfield 10, 3) := by decide +kernel
theorem d_EK_advance_40 : decode c_EK_advance 40 = .ok (.invokevirtual 73, 3) := by decide +kernel
theorem d_EK_advance_43 : decode c_EK_advance 43 = .ok (.ifCond .ne 5, 3) := by decide +kernel
theorem d_EK_advance_46 : decode c_EK_advance 46 = .ok (.iload_n 3, 1) := by decide +kernel
theorem d_EK_advance_47 : decode c_EK_advance 47 = .ok (.ireturn, 1) := by decide +kernel
theorem d_EK_advance_48 : decode c_EK_advance 48 = .ok (.iinc 3 1, 3) := by decide +kernel
theorem d_EK_advance_51 : decode c_EK_advance 51 = .ok (.goto (-26), 3) := by decide +kernel
theorem d_EK_advance_54 : decode c_EK_advance 54 = .ok (.iload_n 2, 1) := by decide +kernel
theorem d_EK_advance_55 : decode c_EK_advance 55 = .ok (.ireturn, 1) := by decide +kernel
abbrev c_EK_save : ByteArray := prog_1_method_5_code
def y_EK_save : MethodName := ⟨"EventKeeper", "save", "(I)I"⟩
theorem d_EK_save_0 : decode c_EK_save 0 = .ok (.iload_n 1, 1) := by decide +kernel
theorem d_EK_save_1 : decode c_EK_save 1 = .ok (.invokestatic 66, 3) := by decide +kernel
theorem d_EK_save_4 : decode c_EK_save 4 = .ok (.aload_n 0, 1) := by decide +kernel
theorem d_EK_save_5 : decode c_EK_save 5 = .ok (.getfield 18, 3) := by decide +kernel
theorem d_EK_save_8 : decode c_EK_save 8 = .ok (.iload_n 1, 1) := by decide +kernel
theorem d_EK_save_9 : decode c_EK_save 9 = .ok (.aaload, 1) := by decide +kernel
theorem d_EK_save_10 : decode c_EK_save 10 = .ok (.aload_n 0, 1) := by decide +kernel
theorem d_EK_save_11 : decode c_EK_save 11 = .ok (.getfield 10, 3) := by decide +kernel
theorem d_EK_save_14 : decode c_EK_save 14 = .ok (.getfield 77, 3) := by decide +kernel
theorem d_EK_save_17 : decode c_EK_save 17 = .ok (.invokevirtual 81, 3) := by decide +kernel
theorem d_EK_save_20 : decode c_EK_save 20 = .ok (.ireturn, 1) := by decide +kernel
abbrev c_EK_cell : ByteArray := prog_1_method_6_code
def y_EK_cell : MethodName := ⟨"EventKeeper", "cell", "(II)J"⟩
theorem d_EK_cell_0 : decode c_EK_cell 0 = .ok (.iload_n 1, 1) := by decide +kernel
theorem d_EK_cell_1 : decode c_EK_cell 1 = .ok (.invokestatic 66, 3) := by decide +kernel
theorem d_EK_cell_4 : decode c_EK_cell 4 = .ok (.iload_n 2, 1) := by decide +kernel
theorem d_EK_cell_5 : decode c_EK_cell 5 = .ok (.ifCond .lt 9, 3) := by decide +kernel
theorem d_EK_cell_8 : decode c_EK_cell 8 = .ok (.iload_n 2, 1) := by decide +kernel
theorem d_EK_cell_9 : decode c_EK_cell 9 = .ok (.bipush 16, 2) := by decide +kernel
theorem d_EK_cell_11 : decode c_EK_cell 11 = .ok (.if_icmp .lt 13, 3) := by decide +kernel
theorem d_EK_cell_14 : decode c_EK_cell 14 = .ok (.new 57, 3) := by decide +kernel
theorem d_EK_cell_17 : decode c_EK_cell 17 = .ok (.dup, 1) := by decide +kernel
theorem d_EK_cell_18 : decode c_EK_cell 18 = .ok (.ldc 85, 2) := by decide +kernel
theorem d_EK_cell_20 : decode c_EK_cell 20 = .ok (.invokespecial 61, 3) := by decide +kernel
theorem d_EK_cell_23 : decode c_EK_cell 23 = .ok (.athrow, 1) := by decide +kernel
theorem d_EK_cell_24 : decode c_EK_cell 24 = .ok (.aload_n 0, 1) := by decide +kernel
theorem d_EK_cell_25 : decode c_EK_cell 25 = .ok (.getfield 18, 3) := by decide +kernel
theorem d_EK_cell_28 : decode c_EK_cell 28 = .ok (.iload_n 1, 1) := by decide +kernel
theorem d_EK_cell_29 : decode c_EK_cell 29 = .ok (.aaload, 1) := by decide +kernel
theorem d_EK_cell_30 : decode c_EK_cell 30 = .ok (.getfield 87, 3) := by decide +kernel
theorem d_EK_cell_33 : decode c_EK_cell 33 = .ok (.iload_n 2, 1) := by decide +kernel
theorem d_EK_cell_34 : decode c_EK_cell 34 = .ok (.laload, 1) := by decide +kernel
theorem d_EK_cell_35 : decode c_EK_cell 35 = .ok (.lreturn, 1) := by decide +kernel
abbrev c_EK_filter : ByteArray := prog_1_method_7_code
def y_EK_filter : MethodName := ⟨"EventKeeper", "filter", "(III)V"⟩
theorem d_EK_filter_0 : decode c_EK_filter 0 = .ok (.iload_n 1, 1) := by decide +kernel
theorem d_EK_filter_1 : decode c_EK_filter 1 = .ok (.invokestatic 91, 3) := by decide +kernel
theorem d_EK_filter_4 : decode c_EK_filter 4 = .ok (.iload_n 2, 1) := by decide +kernel
theorem d_EK_filter_5 : decode c_EK_filter 5 = .ok (.iconst (-1), 1) := by decide +kernel
theorem d_EK_filter_6 : decode c_EK_filter 6 = .ok (.if_icmp .lt 13, 3) := by decide +kernel
theorem d_EK_filter_9 : decode c_EK_filter 9 = .ok (.iload_n 2, 1) := by decide +kernel
theorem d_EK_filter_10 : decode c_EK_filter 10 = .ok (.bipush 16, 2) := by decide +kernel
theorem d_EK_filter_12 : decode c_EK_filter 12 = .ok (.if_icmp .ge 7, 3) := by decide +kernel
theorem d_EK_filter_15 : decode c_EK_filter 15 = .ok (.iconst 1, 1) := by decide +kernel
theorem d_EK_filter_16 : decode c_EK_filter 16 = .ok (.goto 4, 3) := by decide +kernel
theorem d_EK_filter_19 : decode c_EK_filter 19 = .ok (.iconst 0, 1) := by decide +kernel
theorem d_EK_filter_20 : decode c_EK_filter 20 = .ok (.invokestatic 35, 3) := by decide +kernel
theorem d_EK_filter_23 : decode c_EK_filter 23 = .ok (.iload_n 3, 1) := by decide +kernel
theorem d_EK_filter_24 : decode c_EK_filter 24 = .ok (.ifCond .lt 14, 3) := by decide +kernel
theorem d_EK_filter_27 : decode c_EK_filter 27 = .ok (.iload_n 3, 1) := by decide +kernel
theorem d_EK_filter_28 : decode c_EK_filter 28 = .ok (.sipush 255, 3) := by decide +kernel
theorem d_EK_filter_31 : decode c_EK_filter 31 = .ok (.if_icmp .gt 7, 3) := by decide +kernel
theorem d_EK_filter_34 : decode c_EK_filter 34 = .ok (.iconst 1, 1) := by decide +kernel
theorem d_EK_filter_35 : decode c_EK_filter 35 = .ok (.goto 4, 3) := by decide +kernel
theorem d_EK_filter_38 : decode c_EK_filter 38 = .ok (.iconst 0, 1) := by decide +kernel
theorem d_EK_filter_39 : decode c_EK_filter 39 = .ok (.invokestatic 35, 3) := by decide +kernel
theorem d_EK_filter_42 : decode c_EK_filter 42 = .ok (.aload_n 0, 1) := by decide +kernel
theorem d_EK_filter_43 : decode c_EK_filter 43 = .ok (.getfield 27, 3) := by decide +kernel
theorem d_EK_filter_46 : decode c_EK_filter 46 = .ok (.iload_n 1, 1) := by decide +kernel
theorem d_EK_filter_47 : decode c_EK_filter 47 = .ok (.aaload, 1) := by decide +kernel
theorem d_EK_filter_48 : decode c_EK_filter 48 = .ok (.iload_n 2, 1) := by decide +kernel
theorem d_EK_filter_49 : decode c_EK_filter 49 = .ok (.iload_n 3, 1) := by decide +kernel
theorem d_EK_filter_50 : decode c_EK_filter 50 = .ok (.invokevirtual 94, 3) := by decide +kernel
theorem d_EK_filter_53 : decode c_EK_filter 53 = .ok (.return_, 1) := by decide +kernel
abbrev c_EK_next : ByteArray := prog_1_method_8_code
def y_EK_next : MethodName := ⟨"EventKeeper", "next", "(I)I"⟩
theorem d_EK_next_0 : decode c_EK_next 0 = .ok (.iload_n 1, 1) := by decide +kernel
theorem d_EK_next_1 : decode c_EK_next 1 = .ok (.invokestatic 91, 3) := by decide +kernel
theorem d_EK_next_4 : decode c_EK_next 4 = .ok (.aload_n 0, 1) := by decide +kernel
theorem d_EK_next_5 : decode c_EK_next 5 = .ok (.getfield 27, 3) := by decide +kernel
theorem d_EK_next_8 : decode c_EK_next 8 = .ok (.iload_n 1, 1) := by decide +kernel
theorem d_EK_next_9 : decode c_EK_next 9 = .ok (.aaload, 1) := by decide +kernel
theorem d_EK_next_10 : decode c_EK_next 10 = .ok (.aload_n 0, 1) := by decide +kernel
theorem d_EK_next_11 : decode c_EK_next 11 = .ok (.getfield 10, 3) := by decide +kernel
theorem d_EK_next_14 : decode c_EK_next 14 = .ok (.invokevirtual 98, 3) := by decide +kernel
theorem d_EK_next_17 : decode c_EK_next 17 = .ok (.ireturn, 1) := by decide +kernel
abbrev c_EK_acknowledge : ByteArray := prog_1_method_9_code
def y_EK_acknowledge : MethodName := ⟨"EventKeeper", "acknowledge", "(II)I"⟩
theorem d_EK_acknowledge_0 : decode c_EK_acknowledge 0 = .ok (.iload_n 1, 1) := by decide +kernel
theorem d_EK_acknowledge_1 : decode c_EK_acknowledge 1 = .ok (.invokestatic 91, 3) := by decide +kernel
theorem d_EK_acknowledge_4 : decode c_EK_acknowledge 4 = .ok (.aload_n 0, 1) := by decide +kernel
theorem d_EK_acknowledge_5 : decode c_EK_acknowledge 5 = .ok (.iload_n 2, 1) := by decide +kernel
theorem d_EK_acknowledge_6 : decode c_EK_acknowledge 6 = .ok (.invokevirtual 102, 3) := by decide +kernel
theorem d_EK_acknowledge_9 : decode c_EK_acknowledge 9 = .ok (.aload_n 0, 1) := by decide +kernel
theorem d_EK_acknowledge_10 : decode c_EK_acknowledge 10 = .ok (.getfield 27, 3) := by decide +kernel
theorem d_EK_acknowledge_13 : decode c_EK_acknowledge 13 = .ok (.iload_n 1, 1) := by decide +kernel
theorem d_EK_acknowledge_14 : decode c_EK_acknowledge 14 = .ok (.aaload, 1) := by decide +kernel
theorem d_EK_acknowledge_15 : decode c_EK_acknowledge 15 = .ok (.iload_n 2, 1) := by decide +kernel
theorem d_EK_acknowledge_16 : decode c_EK_acknowledge 16 = .ok (.invokevirtual 105, 3) := by decide +kernel
theorem d_EK_acknowledge_19 : decode c_EK_acknowledge 19 = .ok (.ireturn, 1) := by decide +kernel
abbrev c_EK_sync : ByteArray := prog_1_method_10_code
def y_EK_sync : MethodName := ⟨"EventKeeper", "sync", "()I"⟩
theorem d_EK_sync_0 : decode c_EK_sync 0 = .ok (.aload_n 0, 1) := by decide +kernel
theorem d_EK_sync_1 : decode c_EK_sync 1 = .ok (.getfield 10, 3) := by decide +kernel
theorem d_EK_sync_4 : decode c_EK_sync 4 = .ok (.aload_n 0, 1) := by decide +kernel
theorem d_EK_sync_5 : decode c_EK_sync 5 = .ok (.getfield 10, 3) := by decide +kernel
theorem d_EK_sync_8 : decode c_EK_sync 8 = .ok (.getfield 77, 3) := by decide +kernel
theorem d_EK_sync_11 : decode c_EK_sync 11 = .ok (.putfield 108, 3) := by decide +kernel
theorem d_EK_sync_14 : decode c_EK_sync 14 = .ok (.iconst 0, 1) := by decide +kernel
theorem d_EK_sync_15 : decode c_EK_sync 15 = .ok (.istore_n 1, 1) := by decide +kernel
theorem d_EK_sync_16 : decode c_EK_sync 16 = .ok (.iload_n 1, 1) := by decide +kernel
theorem d_EK_sync_17 : decode c_EK_sync 17 = .ok (.bipush 8, 2) := by decide +kernel
theorem d_EK_sync_19 : decode c_EK_sync 19 = .ok (.if_icmp .ge 18, 3) := by decide +kernel
theorem d_EK_sync_22 : decode c_EK_sync 22 = .ok (.aload_n 0, 1) := by decide +kernel
theorem d_EK_sync_23 : decode c_EK_sync 23 = .ok (.getfield 27, 3) := by decide +kernel
theorem d_EK_sync_26 : decode c_EK_sync 26 = .ok (.iload_n 1, 1) := by decide +kernel
theorem d_EK_sync_27 : decode c_EK_sync 27 = .ok (.aaload, 1) := by decide +kernel
theorem d_EK_sync_28 : decode c_EK_sync 28 = .ok (.invokevirtual 111, 3) := by decide +kernel
theorem d_EK_sync_31 : decode c_EK_sync 31 = .ok (.iinc 1 1, 3) := by decide +kernel
theorem d_EK_sync_34 : decode c_EK_sync 34 = .ok (.goto (-18), 3) := by decide +kernel
theorem d_EK_sync_37 : decode c_EK_sync 37 = .ok (.aload_n 0, 1) := by decide +kernel
theorem d_EK_sync_38 : decode c_EK_sync 38 = .ok (.getfield 10, 3) := by decide +kernel
theorem d_EK_sync_41 : decode c_EK_sync 41 = .ok (.getfield 77, 3) := by decide +kernel
theorem d_EK_sync_44 : decode c_EK_sync 44 = .ok (.ireturn, 1) := by decide +kernel
abbrev c_EK_crash : ByteArray := prog_1_method_11_code
def y_EK_crash : MethodName := ⟨"EventKeeper", "crash", "()I"⟩
theorem d_EK_crash_0 : decode c_EK_crash 0 = .ok (.aload_n 0, 1) := by decide +kernel
theorem d_EK_crash_1 : decode c_EK_crash 1 = .ok (.getfield 10, 3) := by decide +kernel
theorem d_EK_crash_4 : decode c_EK_crash 4 = .ok (.invokevirtual 114, 3) := by decide +kernel
theorem d_EK_crash_7 : decode c_EK_crash 7 = .ok (.iconst 0, 1) := by decide +kernel
theorem d_EK_crash_8 : decode c_EK_crash 8 = .ok (.istore_n 1, 1) := by decide +kernel
theorem d_EK_crash_9 : decode c_EK_crash 9 = .ok (.iload_n 1, 1) := by decide +kernel
theorem d_EK_crash_10 : decode c_EK_crash 10 = .ok (.bipush 8, 2) := by decide +kernel
theorem d_EK_crash_12 : decode c_EK_crash 12 = .ok (.if_icmp .ge 25, 3) := by decide +kernel
theorem d_EK_crash_15 : decode c_EK_crash 15 = .ok (.aload_n 0, 1) := by decide +kernel
theorem d_EK_crash_16 : decode c_EK_crash 16 = .ok (.getfield 18, 3) := by decide +kernel
theorem d_EK_crash_19 : decode c_EK_crash 19 = .ok (.iload_n 1, 1) := by decide +kernel
theorem d_EK_crash_20 : decode c_EK_crash 20 = .ok (.aaload, 1) := by decide +kernel
theorem d_EK_crash_21 : decode c_EK_crash 21 = .ok (.aload_n 0, 1) := by decide +kernel
theorem d_EK_crash_22 : decode c_EK_crash 22 = .ok (.getfield 10, 3) := by decide +kernel
theorem d_EK_crash_25 : decode c_EK_crash 25 = .ok (.getfield 77, 3) := by decide +kernel
theorem d_EK_crash_28 : decode c_EK_crash 28 = .ok (.invokevirtual 117, 3) := by decide +kernel
theorem d_EK_crash_31 : decode c_EK_crash 31 = .ok (.iinc 1 1, 3) := by decide +kernel
theorem d_EK_crash_34 : decode c_EK_crash 34 = .ok (.goto (-25), 3) := by decide +kernel
theorem d_EK_crash_37 : decode c_EK_crash 37 = .ok (.iconst 0, 1) := by decide +kernel
theorem d_EK_crash_38 : decode c_EK_crash 38 = .ok (.istore_n 1, 1) := by decide +kernel
theorem d_EK_crash_39 : decode c_EK_crash 39 = .ok (.iload_n 1, 1) := by decide +kernel
theorem d_EK_crash_40 : decode c_EK_crash 40 = .ok (.bipush 8, 2) := by decide +kernel
theorem d_EK_crash_42 : decode c_EK_crash 42 = .ok (.if_icmp .ge 25, 3) := by decide +kernel
theorem d_EK_crash_45 : decode c_EK_crash 45 = .ok (.aload_n 0, 1) := by decide +kernel
theorem d_EK_crash_46 : decode c_EK_crash 46 = .ok (.getfield 27, 3) := by decide +kernel
theorem d_EK_crash_49 : decode c_EK_crash 49 = .ok (.iload_n 1, 1) := by decide +kernel
theorem d_EK_crash_50 : decode c_EK_crash 50 = .ok (.aaload, 1) := by decide +kernel
theorem d_EK_crash_51 : decode c_EK_crash 51 = .ok (.aload_n 0, 1) := by decide +kernel
theorem d_EK_crash_52 : decode c_EK_crash 52 = .ok (.getfield 10, 3) := by decide +kernel
theorem d_EK_crash_55 : decode c_EK_crash 55 = .ok (.getfield 77, 3) := by decide +kernel
theorem d_EK_crash_58 : decode c_EK_crash 58 = .ok (.invokevirtual 120, 3) := by decide +kernel
theorem d_EK_crash_61 : decode c_EK_crash 61 = .ok (.iinc 1 1, 3) := by decide +kernel
theorem d_EK_crash_64 : decode c_EK_crash 64 = .ok (.goto (-25), 3) := by decide +kernel
theorem d_EK_crash_67 : decode c_EK_crash 67 = .ok (.aload_n 0, 1) := by decide +kernel
theorem d_EK_crash_68 : decode c_EK_crash 68 = .ok (.getfield 10, 3) := by decide +kernel
theorem d_EK_crash_71 : decode c_EK_crash 71 = .ok (.getfield 77, 3) := by decide +kernel
theorem d_EK_crash_74 : decode c_EK_crash 74 = .ok (.ireturn, 1) := by decide +kernel
abbrev c_EK_event : ByteArray := prog_1_method_12_code
def y_EK_event : MethodName := ⟨"EventKeeper", "event", "(II)I"⟩
theorem d_EK_event_0 : decode c_EK_event 0 = .ok (.iload_n 2, 1) := by decide +kernel
theorem d_EK_event_1 : decode c_EK_event 1 = .ok (.ifCond .lt 12, 3) := by decide +kernel
theorem d_EK_event_4 : decode c_EK_event 4 = .ok (.iload_n 2, 1) := by decide +kernel
theorem d_EK_event_5 : decode c_EK_event 5 = .ok (.iconst 4, 1) := by decide +kernel
theorem d_EK_event_6 : decode c_EK_event 6 = .ok (.if_icmp .gt 7, 3) := by decide +kernel
theorem d_EK_event_9 : decode c_EK_event 9 = .ok (.iconst 1, 1) := by decide +kernel
theorem d_EK_event_10 : decode c_EK_event 10 = .ok (.goto 4, 3) := by decide +kernel
theorem d_EK_event_13 : decode c_EK_event 13 = .ok (.iconst 0, 1) := by decide +kernel
theorem d_EK_event_14 : decode c_EK_event 14 = .ok (.invokestatic 35, 3) := by decide +kernel
theorem d_EK_event_17 : decode c_EK_event 17 = .ok (.aload_n 0, 1) := by decide +kernel
theorem d_EK_event_18 : decode c_EK_event 18 = .ok (.iload_n 1, 1) := by decide +kernel
theorem d_EK_event_19 : decode c_EK_event 19 = .ok (.invokevirtual 102, 3) := by decide +kernel
theorem d_EK_event_22 : decode c_EK_event 22 = .ok (.iload_n 2, 1) := by decide +kernel
theorem d_EK_event_23 : decode c_EK_event 23 = .ok (.tableswitch 69 0 3 #[29, 39, 49, 59], 29) := by decide +kernel
theorem d_EK_event_52 : decode c_EK_event 52 = .ok (.aload_n 0, 1) := by decide +kernel
theorem d_EK_event_53 : decode c_EK_event 53 = .ok (.getfield 10, 3) := by decide +kernel
theorem d_EK_event_56 : decode c_EK_event 56 = .ok (.getfield 121, 3) := by decide +kernel
theorem d_EK_event_59 : decode c_EK_event 59 = .ok (.iload_n 1, 1) := by decide +kernel
theorem d_EK_event_60 : decode c_EK_event 60 = .ok (.iaload, 1) := by decide +kernel
theorem d_EK_event_61 : decode c_EK_event 61 = .ok (.ireturn, 1) := by decide +kernel
theorem d_EK_event_62 : decode c_EK_event 62 = .ok (.aload_n 0, 1) := by decide +kernel
theorem d_EK_event_63 : decode c_EK_event 63 = .ok (.getfield 10, 3) := by decide +kernel
theorem d_EK_event_66 : decode c_EK_event 66 = .ok (.getfield 124, 3) := by decide +kernel
theorem d_EK_event_69 : decode c_EK_event 69 = .ok (.iload_n 1, 1) := by decide +kernel
theorem d_EK_event_70 : decode c_EK_event 70 = .ok (.iaload, 1) := by decide +kernel
theorem d_EK_event_71 : decode c_EK_event 71 = .ok (.ireturn, 1) := by decide +kernel
theorem d_EK_event_72 : decode c_EK_event 72 = .ok (.aload_n 0, 1) := by decide +kernel
theorem d_EK_event_73 : decode c_EK_event 73 = .ok (.getfield 10, 3) := by decide +kernel
theorem d_EK_event_76 : decode c_EK_event 76 = .ok (.getfield 127, 3) := by decide +kernel
theorem d_EK_event_79 : decode c_EK_event 79 = .ok (.iload_n 1, 1) := by decide +kernel
theorem d_EK_event_80 : decode c_EK_event 80 = .ok (.iaload, 1) := by decide +kernel
theorem d_EK_event_81 : decode c_EK_event 81 = .ok (.ireturn, 1) := by decide +kernel
theorem d_EK_event_82 : decode c_EK_event 82 = .ok (.aload_n 0, 1) := by decide +kernel
theorem d_EK_event_83 : decode c_EK_event 83 = .ok (.getfield 10, 3) := by decide +kernel
theorem d_EK_event_86 : decode c_EK_event 86 = .ok (.getfield 130, 3) := by decide +kernel
theorem d_EK_event_89 : decode c_EK_event 89 = .ok (.iload_n 1, 1) := by decide +kernel
theorem d_EK_event_90 : decode c_EK_event 90 = .ok (.iaload, 1) := by decide +kernel
theorem d_EK_event_91 : decode c_EK_event 91 = .ok (.ireturn, 1) := by decide +kernel
theorem d_EK_event_92 : decode c_EK_event 92 = .ok (.aload_n 0, 1) := by decide +kernel
theorem d_EK_event_93 : decode c_EK_event 93 = .ok (.getfield 10, 3) := by decide +kernel
theorem d_EK_event_96 : decode c_EK_event 96 = .ok (.getfield 133, 3) := by decide +kernel
theorem d_EK_event_99 : decode c_EK_event 99 = .ok (.iload_n 1, 1) := by decide +kernel
theorem d_EK_event_100 : decode c_EK_event 100 = .ok (.iaload, 1) := by decide +kernel
theorem d_EK_event_101 : decode c_EK_event 101 = .ok (.ireturn, 1) := by decide +kernel
abbrev c_EK_value : ByteArray := prog_1_method_13_code
def y_EK_value : MethodName := ⟨"EventKeeper", "value", "(I)J"⟩
theorem d_EK_value_0 : decode c_EK_value 0 = .ok (.aload_n 0, 1) := by decide +kernel
theorem d_EK_value_1 : decode c_EK_value 1 = .ok (.iload_n 1, 1) := by decide +kernel
theorem d_EK_value_2 : decode c_EK_value 2 = .ok (.invokevirtual 102, 3) := by decide +kernel
theorem d_EK_value_5 : decode c_EK_value 5 = .ok (.aload_n 0, 1) := by decide +kernel
theorem d_EK_value_6 : decode c_EK_value 6 = .ok (.getfield 10, 3) := by decide +kernel
theorem d_EK_value_9 : decode c_EK_value 9 = .ok (.getfield 136, 3) := by decide +kernel
theorem d_EK_value_12 : decode c_EK_value 12 = .ok (.iload_n 1, 1) := by decide +kernel
theorem d_EK_value_13 : decode c_EK_value 13 = .ok (.laload, 1) := by decide +kernel
theorem d_EK_value_14 : decode c_EK_value 14 = .ok (.lreturn, 1) := by decide +kernel
abbrev c_EK_find : ByteArray := prog_1_method_14_code
def y_EK_find : MethodName := ⟨"EventKeeper", "find", "(II)I"⟩
theorem d_EK_find_0 : decode c_EK_find 0 = .ok (.iload_n 1, 1) := by decide +kernel
theorem d_EK_find_1 : decode c_EK_find 1 = .ok (.invokestatic 32, 3) := by decide +kernel
theorem d_EK_find_4 : decode c_EK_find 4 = .ok (.aload_n 0, 1) := by decide +kernel
theorem d_EK_find_5 : decode c_EK_find 5 = .ok (.getfield 10, 3) := by decide +kernel
theorem d_EK_find_8 : decode c_EK_find 8 = .ok (.iload_n 1, 1) := by decide +kernel
theorem d_EK_find_9 : decode c_EK_find 9 = .ok (.iload_n 2, 1) := by decide +kernel
theorem d_EK_find_10 : decode c_EK_find 10 = .ok (.invokevirtual 139, 3) := by decide +kernel
theorem d_EK_find_13 : decode c_EK_find 13 = .ok (.istore_n 3, 1) := by decide +kernel
theorem d_EK_find_14 : decode c_EK_find 14 = .ok (.iload_n 3, 1) := by decide +kernel
theorem d_EK_find_15 : decode c_EK_find 15 = .ok (.iconst (-1), 1) := by decide +kernel
theorem d_EK_find_16 : decode c_EK_find 16 = .ok (.if_icmp .ne 13, 3) := by decide +kernel
theorem d_EK_find_19 : decode c_EK_find 19 = .ok (.new 57, 3) := by decide +kernel
theorem d_EK_find_22 : decode c_EK_find 22 = .ok (.dup, 1) := by decide +kernel
theorem d_EK_find_23 : decode c_EK_find 23 = .ok (.ldc 143, 2) := by decide +kernel
theorem d_EK_find_25 : decode c_EK_find 25 = .ok (.invokespecial 61, 3) := by decide +kernel
theorem d_EK_find_28 : decode c_EK_find 28 = .ok (.athrow, 1) := by decide +kernel
theorem d_EK_find_29 : decode c_EK_find 29 = .ok (.iload_n 3, 1) := by decide +kernel
theorem d_EK_find_30 : decode c_EK_find 30 = .ok (.ireturn, 1) := by decide +kernel
abbrev c_EK_count : ByteArray := prog_1_method_15_code
def y_EK_count : MethodName := ⟨"EventKeeper", "count", "(II)I"⟩
theorem d_EK_count_0 : decode c_EK_count 0 = .ok (.iload_n 1, 1) := by decide +kernel
theorem d_EK_count_1 : decode c_EK_count 1 = .ok (.tableswitch 111 0 5 #[39, 47, 55, 69, 83, 97], 39) := by decide +kernel
theorem d_EK_count_40 : decode c_EK_count 40 = .ok (.aload_n 0, 1) := by decide +kernel
theorem d_EK_count_41 : decode c_EK_count 41 = .ok (.getfield 10, 3) := by decide +kernel
theorem d_EK_count_44 : decode c_EK_count 44 = .ok (.getfield 77, 3) := by decide +kernel
theorem d_EK_count_47 : decode c_EK_count 47 = .ok (.ireturn, 1) := by decide +kernel
theorem d_EK_count_48 : decode c_EK_count 48 = .ok (.aload_n 0, 1) := by decide +kernel
theorem d_EK_count_49 : decode c_EK_count 49 = .ok (.getfield 10, 3) := by decide +kernel
theorem d_EK_count_52 : decode c_EK_count 52 = .ok (.getfield 108, 3) := by decide +kernel
theorem d_EK_count_55 : decode c_EK_count 55 = .ok (.ireturn, 1) := by decide +kernel
theorem d_EK_count_56 : decode c_EK_count 56 = .ok (.iload_n 2, 1) := by decide +kernel
theorem d_EK_count_57 : decode c_EK_count 57 = .ok (.invokestatic 32, 3) := by decide +kernel
theorem d_EK_count_60 : decode c_EK_count 60 = .ok (.aload_n 0, 1) := by decide +kernel
theorem d_EK_count_61 : decode c_EK_count 61 = .ok (.getfield 10, 3) := by decide +kernel
theorem d_EK_count_64 : decode c_EK_count 64 = .ok (.getfield 42, 3) := by decide +kernel
theorem d_EK_count_67 : decode c_EK_count 67 = .ok (.iload_n 2, 1) := by decide +kernel
theorem d_EK_count_68 : decode c_EK_count 68 = .ok (.iaload, 1) := by decide +kernel
theorem d_EK_count_69 : decode c_EK_count 69 = .ok (.ireturn, 1) := by decide +kernel
theorem d_EK_count_70 : decode c_EK_count 70 = .ok (.iload_n 2, 1) := by decide +kernel
theorem d_EK_count_71 : decode c_EK_count 71 = .ok (.invokestatic 66, 3) := by decide +kernel
theorem d_EK_count_74 : decode c_EK_count 74 = .ok (.aload_n 0, 1) := by decide +kernel
theorem d_EK_count_75 : decode c_EK_count 75 = .ok (.getfield 18, 3) := by decide +kernel
theorem d_EK_count_78 : decode c_EK_count 78 = .ok (.iload_n 2, 1) := by decide +kernel
theorem d_EK_count_79 : decode c_EK_count 79 = .ok (.aaload, 1) := by decide +kernel
theorem d_EK_count_80 : decode c_EK_count 80 = .ok (.getfield 145, 3) := by decide +kernel
theorem d_EK_count_83 : decode c_EK_count 83 = .ok (.ireturn, 1) := by decide +kernel
theorem d_EK_count_84 : decode c_EK_count 84 = .ok (.iload_n 2, 1) := by decide +kernel
theorem d_EK_count_85 : decode c_EK_count 85 = .ok (.invokestatic 91, 3) := by decide +kernel
theorem d_EK_count_88 : decode c_EK_count 88 = .ok (.aload_n 0, 1) := by decide +kernel
theorem d_EK_count_89 : decode c_EK_count 89 = .ok (.getfield 27, 3) := by decide +kernel
theorem d_EK_count_92 : decode c_EK_count 92 = .ok (.iload_n 2, 1) := by decide +kernel
theorem d_EK_count_93 : decode c_EK_count 93 = .ok (.aaload, 1) := by decide +kernel
theorem d_EK_count_94 : decode c_EK_count 94 = .ok (.getfield 148, 3) := by decide +kernel
theorem d_EK_count_97 : decode c_EK_count 97 = .ok (.ireturn, 1) := by decide +kernel
theorem d_EK_count_98 : decode c_EK_count 98 = .ok (.iload_n 2, 1) := by decide +kernel
theorem d_EK_count_99 : decode c_EK_count 99 = .ok (.invokestatic 66, 3) := by decide +kernel
theorem d_EK_count_102 : decode c_EK_count 102 = .ok (.aload_n 0, 1) := by decide +kernel
theorem d_EK_count_103 : decode c_EK_count 103 = .ok (.getfield 10, 3) := by decide +kernel
theorem d_EK_count_106 : decode c_EK_count 106 = .ok (.getfield 149, 3) := by decide +kernel
theorem d_EK_count_109 : decode c_EK_count 109 = .ok (.iload_n 2, 1) := by decide +kernel
theorem d_EK_count_110 : decode c_EK_count 110 = .ok (.iaload, 1) := by decide +kernel
theorem d_EK_count_111 : decode c_EK_count 111 = .ok (.ireturn, 1) := by decide +kernel
theorem d_EK_count_112 : decode c_EK_count 112 = .ok (.new 152, 3) := by decide +kernel
theorem d_EK_count_115 : decode c_EK_count 115 = .ok (.dup, 1) := by decide +kernel
theorem d_EK_count_116 : decode c_EK_count 116 = .ok (.ldc 154, 2) := by decide +kernel
theorem d_EK_count_118 : decode c_EK_count 118 = .ok (.invokespecial 156, 3) := by decide +kernel
theorem d_EK_count_121 : decode c_EK_count 121 = .ok (.athrow, 1) := by decide +kernel
abbrev c_EK_checkArgument : ByteArray := prog_1_method_16_code
def y_EK_checkArgument : MethodName := ⟨"EventKeeper", "checkArgument", "(Z)V"⟩
theorem d_EK_checkArgument_0 : decode c_EK_checkArgument 0 = .ok (.iload_n 0, 1) := by decide +kernel
theorem d_EK_checkArgument_1 : decode c_EK_checkArgument 1 = .ok (.ifCond .ne 13, 3) := by decide +kernel
theorem d_EK_checkArgument_4 : decode c_EK_checkArgument 4 = .ok (.new 152, 3) := by decide +kernel
theorem d_EK_checkArgument_7 : decode c_EK_checkArgument 7 = .ok (.dup, 1) := by decide +kernel
theorem d_EK_checkArgument_8 : decode c_EK_checkArgument 8 = .ok (.ldc 157, 2) := by decide +kernel
theorem d_EK_checkArgument_10 : decode c_EK_checkArgument 10 = .ok (.invokespecial 156, 3) := by decide +kernel
theorem d_EK_checkArgument_13 : decode c_EK_checkArgument 13 = .ok (.athrow, 1) := by decide +kernel
theorem d_EK_checkArgument_14 : decode c_EK_checkArgument 14 = .ok (.return_, 1) := by decide +kernel
abbrev c_EK_checkStream : ByteArray := prog_1_method_17_code
def y_EK_checkStream : MethodName := ⟨"EventKeeper", "checkStream", "(I)V"⟩
theorem d_EK_checkStream_0 : decode c_EK_checkStream 0 = .ok (.iload_n 0, 1) := by decide +kernel
theorem d_EK_checkStream_1 : decode c_EK_checkStream 1 = .ok (.ifCond .lt 13, 3) := by decide +kernel
theorem d_EK_checkStream_4 : decode c_EK_checkStream 4 = .ok (.iload_n 0, 1) := by decide +kernel
theorem d_EK_checkStream_5 : decode c_EK_checkStream 5 = .ok (.bipush 16, 2) := by decide +kernel
theorem d_EK_checkStream_7 : decode c_EK_checkStream 7 = .ok (.if_icmp .ge 7, 3) := by decide +kernel
theorem d_EK_checkStream_10 : decode c_EK_checkStream 10 = .ok (.iconst 1, 1) := by decide +kernel
theorem d_EK_checkStream_11 : decode c_EK_checkStream 11 = .ok (.goto 4, 3) := by decide +kernel
theorem d_EK_checkStream_14 : decode c_EK_checkStream 14 = .ok (.iconst 0, 1) := by decide +kernel
theorem d_EK_checkStream_15 : decode c_EK_checkStream 15 = .ok (.invokestatic 35, 3) := by decide +kernel
theorem d_EK_checkStream_18 : decode c_EK_checkStream 18 = .ok (.return_, 1) := by decide +kernel
abbrev c_EK_checkKind : ByteArray := prog_1_method_18_code
def y_EK_checkKind : MethodName := ⟨"EventKeeper", "checkKind", "(I)V"⟩
theorem d_EK_checkKind_0 : decode c_EK_checkKind 0 = .ok (.iload_n 0, 1) := by decide +kernel
theorem d_EK_checkKind_1 : decode c_EK_checkKind 1 = .ok (.ifCond .lt 13, 3) := by decide +kernel
theorem d_EK_checkKind_4 : decode c_EK_checkKind 4 = .ok (.iload_n 0, 1) := by decide +kernel
theorem d_EK_checkKind_5 : decode c_EK_checkKind 5 = .ok (.bipush 8, 2) := by decide +kernel
theorem d_EK_checkKind_7 : decode c_EK_checkKind 7 = .ok (.if_icmp .ge 7, 3) := by decide +kernel
theorem d_EK_checkKind_10 : decode c_EK_checkKind 10 = .ok (.iconst 1, 1) := by decide +kernel
theorem d_EK_checkKind_11 : decode c_EK_checkKind 11 = .ok (.goto 4, 3) := by decide +kernel
theorem d_EK_checkKind_14 : decode c_EK_checkKind 14 = .ok (.iconst 0, 1) := by decide +kernel
theorem d_EK_checkKind_15 : decode c_EK_checkKind 15 = .ok (.invokestatic 35, 3) := by decide +kernel
theorem d_EK_checkKind_18 : decode c_EK_checkKind 18 = .ok (.return_, 1) := by decide +kernel
abbrev c_EK_checkProjection : ByteArray := prog_1_method_19_code
def y_EK_checkProjection : MethodName := ⟨"EventKeeper", "checkProjection", "(I)V"⟩
theorem d_EK_checkProjection_0 : decode c_EK_checkProjection 0 = .ok (.iload_n 0, 1) := by decide +kernel
theorem d_EK_checkProjection_1 : decode c_EK_checkProjection 1 = .ok (.ifCond .lt 13, 3) := by decide +kernel
theorem d_EK_checkProjection_4 : decode c_EK_checkProjection 4 = .ok (.iload_n 0, 1) := by decide +kernel
theorem d_EK_checkProjection_5 : decode c_EK_checkProjection 5 = .ok (.bipush 8, 2) := by decide +kernel
theorem d_EK_checkProjection_7 : decode c_EK_checkProjection 7 = .ok (.if_icmp .ge 7, 3) := by decide +kernel
theorem d_EK_checkProjection_10 : decode c_EK_checkProjection 10 = .ok (.iconst 1, 1) := by decide +kernel
theorem d_EK_checkProjection_11 : decode c_EK_checkProjection 11 = .ok (.goto 4, 3) := by decide +kernel
theorem d_EK_checkProjection_14 : decode c_EK_checkProjection 14 = .ok (.iconst 0, 1) := by decide +kernel
theorem d_EK_checkProjection_15 : decode c_EK_checkProjection 15 = .ok (.invokestatic 35, 3) := by decide +kernel
theorem d_EK_checkProjection_18 : decode c_EK_checkProjection 18 = .ok (.return_, 1) := by decide +kernel
abbrev c_EK_checkSubscription : ByteArray := prog_1_method_20_code
def y_EK_checkSubscription : MethodName := ⟨"EventKeeper", "checkSubscription", "(I)V"⟩
theorem d_EK_checkSubscription_0 : decode c_EK_checkSubscription 0 = .ok (.iload_n 0, 1) := by decide +kernel
theorem d_EK_checkSubscription_1 : decode c_EK_checkSubscription 1 = .ok (.ifCond .lt 13, 3) := by decide +kernel
theorem d_EK_checkSubscription_4 : decode c_EK_checkSubscription 4 = .ok (.iload_n 0, 1) := by decide +kernel
theorem d_EK_checkSubscription_5 : decode c_EK_checkSubscription 5 = .ok (.bipush 8, 2) := by decide +kernel
theorem d_EK_checkSubscription_7 : decode c_EK_checkSubscription 7 = .ok (.if_icmp .ge 7, 3) := by decide +kernel
theorem d_EK_checkSubscription_10 : decode c_EK_checkSubscription 10 = .ok (.iconst 1, 1) := by decide +kernel
theorem d_EK_checkSubscription_11 : decode c_EK_checkSubscription 11 = .ok (.goto 4, 3) := by decide +kernel
theorem d_EK_checkSubscription_14 : decode c_EK_checkSubscription 14 = .ok (.iconst 0, 1) := by decide +kernel
theorem d_EK_checkSubscription_15 : decode c_EK_checkSubscription 15 = .ok (.invokestatic 35, 3) := by decide +kernel
theorem d_EK_checkSubscription_18 : decode c_EK_checkSubscription 18 = .ok (.return_, 1) := by decide +kernel
abbrev c_EK_checkPlace : ByteArray := prog_1_method_21_code
def y_EK_checkPlace : MethodName := ⟨"EventKeeper", "checkPlace", "(I)V"⟩
theorem d_EK_checkPlace_0 : decode c_EK_checkPlace 0 = .ok (.iload_n 1, 1) := by decide +kernel
theorem d_EK_checkPlace_1 : decode c_EK_checkPlace 1 = .ok (.ifCond .lt 14, 3) := by decide +kernel
theorem d_EK_checkPlace_4 : decode c_EK_checkPlace 4 = .ok (.iload_n 1, 1) := by decide +kernel
theorem d_EK_checkPlace_5 : decode c_EK_checkPlace 5 = .ok (.aload_n 0, 1) := by decide +kernel
theorem d_EK_checkPlace_6 : decode c_EK_checkPlace 6 = .ok (.getfield 10, 3) := by decide +kernel
theorem d_EK_checkPlace_9 : decode c_EK_checkPlace 9 = .ok (.getfield 77, 3) := by decide +kernel
theorem d_EK_checkPlace_12 : decode c_EK_checkPlace 12 = .ok (.if_icmp .lt 13, 3) := by decide +kernel
theorem d_EK_checkPlace_15 : decode c_EK_checkPlace 15 = .ok (.new 57, 3) := by decide +kernel
theorem d_EK_checkPlace_18 : decode c_EK_checkPlace 18 = .ok (.dup, 1) := by decide +kernel
theorem d_EK_checkPlace_19 : decode c_EK_checkPlace 19 = .ok (.ldc 159, 2) := by decide +kernel
theorem d_EK_checkPlace_21 : decode c_EK_checkPlace 21 = .ok (.invokespecial 61, 3) := by decide +kernel
theorem d_EK_checkPlace_24 : decode c_EK_checkPlace 24 = .ok (.athrow, 1) := by decide +kernel
theorem d_EK_checkPlace_25 : decode c_EK_checkPlace 25 = .ok (.return_, 1) := by decide +kernel
