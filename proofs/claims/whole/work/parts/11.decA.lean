abbrev c_L_init : ByteArray := prog_2_method_1_code
def y_L_init : MethodName := ⟨"EventKeeper$Log", "<init>", "()V"⟩
theorem d_L_init_0 : decode c_L_init 0 = .ok (.aload_n 0, 1) := by decide +kernel
theorem d_L_init_1 : decode c_L_init 1 = .ok (.invokespecial 3, 3) := by decide +kernel
theorem d_L_init_4 : decode c_L_init 4 = .ok (.aload_n 0, 1) := by decide +kernel
theorem d_L_init_5 : decode c_L_init 5 = .ok (.sipush 500, 3) := by decide +kernel
theorem d_L_init_8 : decode c_L_init 8 = .ok (.newarray .int, 2) := by decide +kernel
theorem d_L_init_10 : decode c_L_init 10 = .ok (.putfield 9, 3) := by decide +kernel
theorem d_L_init_13 : decode c_L_init 13 = .ok (.aload_n 0, 1) := by decide +kernel
theorem d_L_init_14 : decode c_L_init 14 = .ok (.sipush 500, 3) := by decide +kernel
theorem d_L_init_17 : decode c_L_init 17 = .ok (.newarray .int, 2) := by decide +kernel
theorem d_L_init_19 : decode c_L_init 19 = .ok (.putfield 15, 3) := by decide +kernel
theorem d_L_init_22 : decode c_L_init 22 = .ok (.aload_n 0, 1) := by decide +kernel
theorem d_L_init_23 : decode c_L_init 23 = .ok (.sipush 500, 3) := by decide +kernel
theorem d_L_init_26 : decode c_L_init 26 = .ok (.newarray .int, 2) := by decide +kernel
theorem d_L_init_28 : decode c_L_init 28 = .ok (.putfield 18, 3) := by decide +kernel
theorem d_L_init_31 : decode c_L_init 31 = .ok (.aload_n 0, 1) := by decide +kernel
theorem d_L_init_32 : decode c_L_init 32 = .ok (.sipush 500, 3) := by decide +kernel
theorem d_L_init_35 : decode c_L_init 35 = .ok (.newarray .long, 2) := by decide +kernel
theorem d_L_init_37 : decode c_L_init 37 = .ok (.putfield 21, 3) := by decide +kernel
theorem d_L_init_40 : decode c_L_init 40 = .ok (.aload_n 0, 1) := by decide +kernel
theorem d_L_init_41 : decode c_L_init 41 = .ok (.sipush 500, 3) := by decide +kernel
theorem d_L_init_44 : decode c_L_init 44 = .ok (.newarray .int, 2) := by decide +kernel
theorem d_L_init_46 : decode c_L_init 46 = .ok (.putfield 25, 3) := by decide +kernel
theorem d_L_init_49 : decode c_L_init 49 = .ok (.aload_n 0, 1) := by decide +kernel
theorem d_L_init_50 : decode c_L_init 50 = .ok (.sipush 500, 3) := by decide +kernel
theorem d_L_init_53 : decode c_L_init 53 = .ok (.newarray .int, 2) := by decide +kernel
theorem d_L_init_55 : decode c_L_init 55 = .ok (.putfield 28, 3) := by decide +kernel
theorem d_L_init_58 : decode c_L_init 58 = .ok (.aload_n 0, 1) := by decide +kernel
theorem d_L_init_59 : decode c_L_init 59 = .ok (.sipush 500, 3) := by decide +kernel
theorem d_L_init_62 : decode c_L_init 62 = .ok (.newarray .int, 2) := by decide +kernel
theorem d_L_init_64 : decode c_L_init 64 = .ok (.putfield 31, 3) := by decide +kernel
theorem d_L_init_67 : decode c_L_init 67 = .ok (.aload_n 0, 1) := by decide +kernel
theorem d_L_init_68 : decode c_L_init 68 = .ok (.bipush 16, 2) := by decide +kernel
theorem d_L_init_70 : decode c_L_init 70 = .ok (.newarray .int, 2) := by decide +kernel
theorem d_L_init_72 : decode c_L_init 72 = .ok (.putfield 34, 3) := by decide +kernel
theorem d_L_init_75 : decode c_L_init 75 = .ok (.aload_n 0, 1) := by decide +kernel
theorem d_L_init_76 : decode c_L_init 76 = .ok (.bipush 8, 2) := by decide +kernel
theorem d_L_init_78 : decode c_L_init 78 = .ok (.newarray .int, 2) := by decide +kernel
theorem d_L_init_80 : decode c_L_init 80 = .ok (.putfield 37, 3) := by decide +kernel
theorem d_L_init_83 : decode c_L_init 83 = .ok (.return_, 1) := by decide +kernel
abbrev c_L_isFull : ByteArray := prog_2_method_2_code
def y_L_isFull : MethodName := ⟨"EventKeeper$Log", "isFull", "()Z"⟩
theorem d_L_isFull_0 : decode c_L_isFull 0 = .ok (.aload_n 0, 1) := by decide +kernel
theorem d_L_isFull_1 : decode c_L_isFull 1 = .ok (.getfield 40, 3) := by decide +kernel
theorem d_L_isFull_4 : decode c_L_isFull 4 = .ok (.sipush 500, 3) := by decide +kernel
theorem d_L_isFull_7 : decode c_L_isFull 7 = .ok (.if_icmp .lt 7, 3) := by decide +kernel
theorem d_L_isFull_10 : decode c_L_isFull 10 = .ok (.iconst 1, 1) := by decide +kernel
theorem d_L_isFull_11 : decode c_L_isFull 11 = .ok (.goto 4, 3) := by decide +kernel
theorem d_L_isFull_14 : decode c_L_isFull 14 = .ok (.iconst 0, 1) := by decide +kernel
theorem d_L_isFull_15 : decode c_L_isFull 15 = .ok (.ireturn, 1) := by decide +kernel
abbrev c_L_put : ByteArray := prog_2_method_3_code
def y_L_put : MethodName := ⟨"EventKeeper$Log", "put", "(IIJ)I"⟩
theorem d_L_put_0 : decode c_L_put 0 = .ok (.aload_n 0, 1) := by decide +kernel
theorem d_L_put_1 : decode c_L_put 1 = .ok (.getfield 40, 3) := by decide +kernel
theorem d_L_put_4 : decode c_L_put 4 = .ok (.istore 5, 2) := by decide +kernel
theorem d_L_put_6 : decode c_L_put 6 = .ok (.aload_n 0, 1) := by decide +kernel
theorem d_L_put_7 : decode c_L_put 7 = .ok (.getfield 9, 3) := by decide +kernel
theorem d_L_put_10 : decode c_L_put 10 = .ok (.iload 5, 2) := by decide +kernel
theorem d_L_put_12 : decode c_L_put 12 = .ok (.iload_n 1, 1) := by decide +kernel
theorem d_L_put_13 : decode c_L_put 13 = .ok (.iastore, 1) := by decide +kernel
theorem d_L_put_14 : decode c_L_put 14 = .ok (.aload_n 0, 1) := by decide +kernel
theorem d_L_put_15 : decode c_L_put 15 = .ok (.getfield 15, 3) := by decide +kernel
theorem d_L_put_18 : decode c_L_put 18 = .ok (.iload 5, 2) := by decide +kernel
theorem d_L_put_20 : decode c_L_put 20 = .ok (.aload_n 0, 1) := by decide +kernel
theorem d_L_put_21 : decode c_L_put 21 = .ok (.getfield 34, 3) := by decide +kernel
theorem d_L_put_24 : decode c_L_put 24 = .ok (.iload_n 1, 1) := by decide +kernel
theorem d_L_put_25 : decode c_L_put 25 = .ok (.iaload, 1) := by decide +kernel
theorem d_L_put_26 : decode c_L_put 26 = .ok (.iastore, 1) := by decide +kernel
theorem d_L_put_27 : decode c_L_put 27 = .ok (.aload_n 0, 1) := by decide +kernel
theorem d_L_put_28 : decode c_L_put 28 = .ok (.getfield 18, 3) := by decide +kernel
theorem d_L_put_31 : decode c_L_put 31 = .ok (.iload 5, 2) := by decide +kernel
theorem d_L_put_33 : decode c_L_put 33 = .ok (.iload_n 2, 1) := by decide +kernel
theorem d_L_put_34 : decode c_L_put 34 = .ok (.iastore, 1) := by decide +kernel
theorem d_L_put_35 : decode c_L_put 35 = .ok (.aload_n 0, 1) := by decide +kernel
theorem d_L_put_36 : decode c_L_put 36 = .ok (.getfield 21, 3) := by decide +kernel
theorem d_L_put_39 : decode c_L_put 39 = .ok (.iload 5, 2) := by decide +kernel
theorem d_L_put_41 : decode c_L_put 41 = .ok (.lload_n 3, 1) := by decide +kernel
theorem d_L_put_42 : decode c_L_put 42 = .ok (.lastore, 1) := by decide +kernel
theorem d_L_put_43 : decode c_L_put 43 = .ok (.aload_n 0, 1) := by decide +kernel
theorem d_L_put_44 : decode c_L_put 44 = .ok (.getfield 25, 3) := by decide +kernel
theorem d_L_put_47 : decode c_L_put 47 = .ok (.iload 5, 2) := by decide +kernel
theorem d_L_put_49 : decode c_L_put 49 = .ok (.iconst (-1), 1) := by decide +kernel
theorem d_L_put_50 : decode c_L_put 50 = .ok (.iastore, 1) := by decide +kernel
theorem d_L_put_51 : decode c_L_put 51 = .ok (.aload_n 0, 1) := by decide +kernel
theorem d_L_put_52 : decode c_L_put 52 = .ok (.getfield 28, 3) := by decide +kernel
theorem d_L_put_55 : decode c_L_put 55 = .ok (.iload 5, 2) := by decide +kernel
theorem d_L_put_57 : decode c_L_put 57 = .ok (.iconst (-1), 1) := by decide +kernel
theorem d_L_put_58 : decode c_L_put 58 = .ok (.iastore, 1) := by decide +kernel
theorem d_L_put_59 : decode c_L_put 59 = .ok (.aload_n 0, 1) := by decide +kernel
theorem d_L_put_60 : decode c_L_put 60 = .ok (.getfield 34, 3) := by decide +kernel
theorem d_L_put_63 : decode c_L_put 63 = .ok (.iload_n 1, 1) := by decide +kernel
theorem d_L_put_64 : decode c_L_put 64 = .ok (.dup2, 1) := by decide +kernel
theorem d_L_put_65 : decode c_L_put 65 = .ok (.iaload, 1) := by decide +kernel
theorem d_L_put_66 : decode c_L_put 66 = .ok (.iconst 1, 1) := by decide +kernel
theorem d_L_put_67 : decode c_L_put 67 = .ok (.iadd, 1) := by decide +kernel
theorem d_L_put_68 : decode c_L_put 68 = .ok (.iastore, 1) := by decide +kernel
theorem d_L_put_69 : decode c_L_put 69 = .ok (.aload_n 0, 1) := by decide +kernel
theorem d_L_put_70 : decode c_L_put 70 = .ok (.dup, 1) := by decide +kernel
theorem d_L_put_71 : decode c_L_put 71 = .ok (.getfield 40, 3) := by decide +kernel
theorem d_L_put_74 : decode c_L_put 74 = .ok (.iconst 1, 1) := by decide +kernel
theorem d_L_put_75 : decode c_L_put 75 = .ok (.iadd, 1) := by decide +kernel
theorem d_L_put_76 : decode c_L_put 76 = .ok (.putfield 40, 3) := by decide +kernel
theorem d_L_put_79 : decode c_L_put 79 = .ok (.iload 5, 2) := by decide +kernel
theorem d_L_put_81 : decode c_L_put 81 = .ok (.ireturn, 1) := by decide +kernel
abbrev c_L_putEmitted : ByteArray := prog_2_method_4_code
def y_L_putEmitted : MethodName := ⟨"EventKeeper$Log", "putEmitted", "(IIJ)V"⟩
theorem d_L_putEmitted_0 : decode c_L_putEmitted 0 = .ok (.aload_n 0, 1) := by decide +kernel
theorem d_L_putEmitted_1 : decode c_L_putEmitted 1 = .ok (.aload_n 0, 1) := by decide +kernel
theorem d_L_putEmitted_2 : decode c_L_putEmitted 2 = .ok (.getfield 21, 3) := by decide +kernel
theorem d_L_putEmitted_5 : decode c_L_putEmitted 5 = .ok (.iload_n 2, 1) := by decide +kernel
theorem d_L_putEmitted_6 : decode c_L_putEmitted 6 = .ok (.laload, 1) := by decide +kernel
theorem d_L_putEmitted_7 : decode c_L_putEmitted 7 = .ok (.ldc2_w 44, 3) := by decide +kernel
theorem d_L_putEmitted_10 : decode c_L_putEmitted 10 = .ok (.land, 1) := by decide +kernel
theorem d_L_putEmitted_11 : decode c_L_putEmitted 11 = .ok (.l2i, 1) := by decide +kernel
theorem d_L_putEmitted_12 : decode c_L_putEmitted 12 = .ok (.bipush 7, 2) := by decide +kernel
theorem d_L_putEmitted_14 : decode c_L_putEmitted 14 = .ok (.lload_n 3, 1) := by decide +kernel
theorem d_L_putEmitted_15 : decode c_L_putEmitted 15 = .ok (.invokevirtual 46, 3) := by decide +kernel
theorem d_L_putEmitted_18 : decode c_L_putEmitted 18 = .ok (.istore 5, 2) := by decide +kernel
theorem d_L_putEmitted_20 : decode c_L_putEmitted 20 = .ok (.aload_n 0, 1) := by decide +kernel
theorem d_L_putEmitted_21 : decode c_L_putEmitted 21 = .ok (.getfield 25, 3) := by decide +kernel
theorem d_L_putEmitted_24 : decode c_L_putEmitted 24 = .ok (.iload 5, 2) := by decide +kernel
theorem d_L_putEmitted_26 : decode c_L_putEmitted 26 = .ok (.iload_n 1, 1) := by decide +kernel
theorem d_L_putEmitted_27 : decode c_L_putEmitted 27 = .ok (.iastore, 1) := by decide +kernel
theorem d_L_putEmitted_28 : decode c_L_putEmitted 28 = .ok (.aload_n 0, 1) := by decide +kernel
theorem d_L_putEmitted_29 : decode c_L_putEmitted 29 = .ok (.getfield 28, 3) := by decide +kernel
theorem d_L_putEmitted_32 : decode c_L_putEmitted 32 = .ok (.iload 5, 2) := by decide +kernel
theorem d_L_putEmitted_34 : decode c_L_putEmitted 34 = .ok (.iload_n 2, 1) := by decide +kernel
theorem d_L_putEmitted_35 : decode c_L_putEmitted 35 = .ok (.iastore, 1) := by decide +kernel
theorem d_L_putEmitted_36 : decode c_L_putEmitted 36 = .ok (.aload_n 0, 1) := by decide +kernel
theorem d_L_putEmitted_37 : decode c_L_putEmitted 37 = .ok (.getfield 31, 3) := by decide +kernel
theorem d_L_putEmitted_40 : decode c_L_putEmitted 40 = .ok (.iload_n 2, 1) := by decide +kernel
theorem d_L_putEmitted_41 : decode c_L_putEmitted 41 = .ok (.dup2, 1) := by decide +kernel
theorem d_L_putEmitted_42 : decode c_L_putEmitted 42 = .ok (.iaload, 1) := by decide +kernel
theorem d_L_putEmitted_43 : decode c_L_putEmitted 43 = .ok (.iconst 1, 1) := by decide +kernel
theorem d_L_putEmitted_44 : decode c_L_putEmitted 44 = .ok (.iload_n 1, 1) := by decide +kernel
theorem d_L_putEmitted_45 : decode c_L_putEmitted 45 = .ok (.ishl, 1) := by decide +kernel
theorem d_L_putEmitted_46 : decode c_L_putEmitted 46 = .ok (.ior, 1) := by decide +kernel
theorem d_L_putEmitted_47 : decode c_L_putEmitted 47 = .ok (.iastore, 1) := by decide +kernel
theorem d_L_putEmitted_48 : decode c_L_putEmitted 48 = .ok (.aload_n 0, 1) := by decide +kernel
theorem d_L_putEmitted_49 : decode c_L_putEmitted 49 = .ok (.getfield 37, 3) := by decide +kernel
theorem d_L_putEmitted_52 : decode c_L_putEmitted 52 = .ok (.iload_n 1, 1) := by decide +kernel
theorem d_L_putEmitted_53 : decode c_L_putEmitted 53 = .ok (.dup2, 1) := by decide +kernel
theorem d_L_putEmitted_54 : decode c_L_putEmitted 54 = .ok (.iaload, 1) := by decide +kernel
theorem d_L_putEmitted_55 : decode c_L_putEmitted 55 = .ok (.iconst 1, 1) := by decide +kernel
theorem d_L_putEmitted_56 : decode c_L_putEmitted 56 = .ok (.iadd, 1) := by decide +kernel
theorem d_L_putEmitted_57 : decode c_L_putEmitted 57 = .ok (.iastore, 1) := by decide +kernel
theorem d_L_putEmitted_58 : decode c_L_putEmitted 58 = .ok (.return_, 1) := by decide +kernel
abbrev c_L_hasEmitted : ByteArray := prog_2_method_5_code
def y_L_hasEmitted : MethodName := ⟨"EventKeeper$Log", "hasEmitted", "(II)Z"⟩
theorem d_L_hasEmitted_0 : decode c_L_hasEmitted 0 = .ok (.aload_n 0, 1) := by decide +kernel
theorem d_L_hasEmitted_1 : decode c_L_hasEmitted 1 = .ok (.getfield 31, 3) := by decide +kernel
theorem d_L_hasEmitted_4 : decode c_L_hasEmitted 4 = .ok (.iload_n 2, 1) := by decide +kernel
theorem d_L_hasEmitted_5 : decode c_L_hasEmitted 5 = .ok (.iaload, 1) := by decide +kernel
theorem d_L_hasEmitted_6 : decode c_L_hasEmitted 6 = .ok (.iconst 1, 1) := by decide +kernel
theorem d_L_hasEmitted_7 : decode c_L_hasEmitted 7 = .ok (.iload_n 1, 1) := by decide +kernel
theorem d_L_hasEmitted_8 : decode c_L_hasEmitted 8 = .ok (.ishl, 1) := by decide +kernel
theorem d_L_hasEmitted_9 : decode c_L_hasEmitted 9 = .ok (.iand, 1) := by decide +kernel
theorem d_L_hasEmitted_10 : decode c_L_hasEmitted 10 = .ok (.ifCond .eq 7, 3) := by decide +kernel
theorem d_L_hasEmitted_13 : decode c_L_hasEmitted 13 = .ok (.iconst 1, 1) := by decide +kernel
theorem d_L_hasEmitted_14 : decode c_L_hasEmitted 14 = .ok (.goto 4, 3) := by decide +kernel
theorem d_L_hasEmitted_17 : decode c_L_hasEmitted 17 = .ok (.iconst 0, 1) := by decide +kernel
theorem d_L_hasEmitted_18 : decode c_L_hasEmitted 18 = .ok (.ireturn, 1) := by decide +kernel
abbrev c_L_dropUndurable : ByteArray := prog_2_method_6_code
def y_L_dropUndurable : MethodName := ⟨"EventKeeper$Log", "dropUndurable", "()V"⟩
theorem d_L_dropUndurable_0 : decode c_L_dropUndurable 0 = .ok (.aload_n 0, 1) := by decide +kernel
theorem d_L_dropUndurable_1 : decode c_L_dropUndurable 1 = .ok (.getfield 50, 3) := by decide +kernel
theorem d_L_dropUndurable_4 : decode c_L_dropUndurable 4 = .ok (.istore_n 1, 1) := by decide +kernel
theorem d_L_dropUndurable_5 : decode c_L_dropUndurable 5 = .ok (.iload_n 1, 1) := by decide +kernel
theorem d_L_dropUndurable_6 : decode c_L_dropUndurable 6 = .ok (.aload_n 0, 1) := by decide +kernel
theorem d_L_dropUndurable_7 : decode c_L_dropUndurable 7 = .ok (.getfield 40, 3) := by decide +kernel
theorem d_L_dropUndurable_10 : decode c_L_dropUndurable 10 = .ok (.if_icmp .ge 39, 3) := by decide +kernel
theorem d_L_dropUndurable_13 : decode c_L_dropUndurable 13 = .ok (.aload_n 0, 1) := by decide +kernel
theorem d_L_dropUndurable_14 : decode c_L_dropUndurable 14 = .ok (.getfield 34, 3) := by decide +kernel
theorem d_L_dropUndurable_17 : decode c_L_dropUndurable 17 = .ok (.aload_n 0, 1) := by decide +kernel
theorem d_L_dropUndurable_18 : decode c_L_dropUndurable 18 = .ok (.getfield 9, 3) := by decide +kernel
theorem d_L_dropUndurable_21 : decode c_L_dropUndurable 21 = .ok (.iload_n 1, 1) := by decide +kernel
theorem d_L_dropUndurable_22 : decode c_L_dropUndurable 22 = .ok (.iaload, 1) := by decide +kernel
theorem d_L_dropUndurable_23 : decode c_L_dropUndurable 23 = .ok (.dup2, 1) := by decide +kernel
theorem d_L_dropUndurable_24 : decode c_L_dropUndurable 24 = .ok (.iaload, 1) := by decide +kernel
theorem d_L_dropUndurable_25 : decode c_L_dropUndurable 25 = .ok (.iconst 1, 1) := by decide +kernel
theorem d_L_dropUndurable_26 : decode c_L_dropUndurable 26 = .ok (.isub, 1) := by decide +kernel
theorem d_L_dropUndurable_27 : decode c_L_dropUndurable 27 = .ok (.iastore, 1) := by decide +kernel
theorem d_L_dropUndurable_28 : decode c_L_dropUndurable 28 = .ok (.aload_n 0, 1) := by decide +kernel
theorem d_L_dropUndurable_29 : decode c_L_dropUndurable 29 = .ok (.getfield 25, 3) := by decide +kernel
theorem d_L_dropUndurable_32 : decode c_L_dropUndurable 32 = .ok (.iload_n 1, 1) := by decide +kernel
theorem d_L_dropUndurable_33 : decode c_L_dropUndurable 33 = .ok (.iaload, 1) := by decide +kernel
theorem d_L_dropUndurable_34 : decode c_L_dropUndurable 34 = .ok (.iconst (-1), 1) := by decide +kernel
theorem d_L_dropUndurable_35 : decode c_L_dropUndurable 35 = .ok (.if_icmp .eq 8, 3) := by decide +kernel
theorem d_L_dropUndurable_38 : decode c_L_dropUndurable 38 = .ok (.aload_n 0, 1) := by decide +kernel
theorem d_L_dropUndurable_39 : decode c_L_dropUndurable 39 = .ok (.iload_n 1, 1) := by decide +kernel
theorem d_L_dropUndurable_40 : decode c_L_dropUndurable 40 = .ok (.invokevirtual 53, 3) := by decide +kernel
theorem d_L_dropUndurable_43 : decode c_L_dropUndurable 43 = .ok (.iinc 1 1, 3) := by decide +kernel
theorem d_L_dropUndurable_46 : decode c_L_dropUndurable 46 = .ok (.goto (-41), 3) := by decide +kernel
theorem d_L_dropUndurable_49 : decode c_L_dropUndurable 49 = .ok (.aload_n 0, 1) := by decide +kernel
theorem d_L_dropUndurable_50 : decode c_L_dropUndurable 50 = .ok (.aload_n 0, 1) := by decide +kernel
theorem d_L_dropUndurable_51 : decode c_L_dropUndurable 51 = .ok (.getfield 50, 3) := by decide +kernel
theorem d_L_dropUndurable_54 : decode c_L_dropUndurable 54 = .ok (.putfield 40, 3) := by decide +kernel
theorem d_L_dropUndurable_57 : decode c_L_dropUndurable 57 = .ok (.return_, 1) := by decide +kernel
abbrev c_L_forgetCause : ByteArray := prog_2_method_7_code
def y_L_forgetCause : MethodName := ⟨"EventKeeper$Log", "forgetCause", "(I)V"⟩
theorem d_L_forgetCause_0 : decode c_L_forgetCause 0 = .ok (.aload_n 0, 1) := by decide +kernel
theorem d_L_forgetCause_1 : decode c_L_forgetCause 1 = .ok (.getfield 25, 3) := by decide +kernel
theorem d_L_forgetCause_4 : decode c_L_forgetCause 4 = .ok (.iload_n 1, 1) := by decide +kernel
theorem d_L_forgetCause_5 : decode c_L_forgetCause 5 = .ok (.iaload, 1) := by decide +kernel
theorem d_L_forgetCause_6 : decode c_L_forgetCause 6 = .ok (.istore_n 2, 1) := by decide +kernel
theorem d_L_forgetCause_7 : decode c_L_forgetCause 7 = .ok (.aload_n 0, 1) := by decide +kernel
theorem d_L_forgetCause_8 : decode c_L_forgetCause 8 = .ok (.getfield 31, 3) := by decide +kernel
theorem d_L_forgetCause_11 : decode c_L_forgetCause 11 = .ok (.aload_n 0, 1) := by decide +kernel
theorem d_L_forgetCause_12 : decode c_L_forgetCause 12 = .ok (.getfield 28, 3) := by decide +kernel
theorem d_L_forgetCause_15 : decode c_L_forgetCause 15 = .ok (.iload_n 1, 1) := by decide +kernel
theorem d_L_forgetCause_16 : decode c_L_forgetCause 16 = .ok (.iaload, 1) := by decide +kernel
theorem d_L_forgetCause_17 : decode c_L_forgetCause 17 = .ok (.dup2, 1) := by decide +kernel
theorem d_L_forgetCause_18 : decode c_L_forgetCause 18 = .ok (.iaload, 1) := by decide +kernel
theorem d_L_forgetCause_19 : decode c_L_forgetCause 19 = .ok (.iconst 1, 1) := by decide +kernel
theorem d_L_forgetCause_20 : decode c_L_forgetCause 20 = .ok (.iload_n 2, 1) := by decide +kernel
theorem d_L_forgetCause_21 : decode c_L_forgetCause 21 = .ok (.ishl, 1) := by decide +kernel
theorem d_L_forgetCause_22 : decode c_L_forgetCause 22 = .ok (.iconst (-1), 1) := by decide +kernel
theorem d_L_forgetCause_23 : decode c_L_forgetCause 23 = .ok (.ixor, 1) := by decide +kernel
theorem d_L_forgetCause_24 : decode c_L_forgetCause 24 = .ok (.iand, 1) := by decide +kernel
theorem d_L_forgetCause_25 : decode c_L_forgetCause 25 = .ok (.iastore, 1) := by decide +kernel
theorem d_L_forgetCause_26 : decode c_L_forgetCause 26 = .ok (.aload_n 0, 1) := by decide +kernel
theorem d_L_forgetCause_27 : decode c_L_forgetCause 27 = .ok (.getfield 37, 3) := by decide +kernel
theorem d_L_forgetCause_30 : decode c_L_forgetCause 30 = .ok (.iload_n 2, 1) := by decide +kernel
theorem d_L_forgetCause_31 : decode c_L_forgetCause 31 = .ok (.dup2, 1) := by decide +kernel
theorem d_L_forgetCause_32 : decode c_L_forgetCause 32 = .ok (.iaload, 1) := by decide +kernel
theorem d_L_forgetCause_33 : decode c_L_forgetCause 33 = .ok (.iconst 1, 1) := by decide +kernel
theorem d_L_forgetCause_34 : decode c_L_forgetCause 34 = .ok (.isub, 1) := by decide +kernel
theorem d_L_forgetCause_35 : decode c_L_forgetCause 35 = .ok (.iastore, 1) := by decide +kernel
theorem d_L_forgetCause_36 : decode c_L_forgetCause 36 = .ok (.return_, 1) := by decide +kernel
abbrev c_L_placeOf : ByteArray := prog_2_method_8_code
def y_L_placeOf : MethodName := ⟨"EventKeeper$Log", "placeOf", "(II)I"⟩
theorem d_L_placeOf_0 : decode c_L_placeOf 0 = .ok (.iconst 0, 1) := by decide +kernel
theorem d_L_placeOf_1 : decode c_L_placeOf 1 = .ok (.istore_n 3, 1) := by decide +kernel
theorem d_L_placeOf_2 : decode c_L_placeOf 2 = .ok (.iload_n 3, 1) := by decide +kernel
theorem d_L_placeOf_3 : decode c_L_placeOf 3 = .ok (.aload_n 0, 1) := by decide +kernel
theorem d_L_placeOf_4 : decode c_L_placeOf 4 = .ok (.getfield 40, 3) := by decide +kernel
theorem d_L_placeOf_7 : decode c_L_placeOf 7 = .ok (.if_icmp .ge 31, 3) := by decide +kernel
theorem d_L_placeOf_10 : decode c_L_placeOf 10 = .ok (.aload_n 0, 1) := by decide +kernel
theorem d_L_placeOf_11 : decode c_L_placeOf 11 = .ok (.getfield 9, 3) := by decide +kernel
theorem d_L_placeOf_14 : decode c_L_placeOf 14 = .ok (.iload_n 3, 1) := by decide +kernel
theorem d_L_placeOf_15 : decode c_L_placeOf 15 = .ok (.iaload, 1) := by decide +kernel
theorem d_L_placeOf_16 : decode c_L_placeOf 16 = .ok (.iload_n 1, 1) := by decide +kernel
theorem d_L_placeOf_17 : decode c_L_placeOf 17 = .ok (.if_icmp .ne 15, 3) := by decide +kernel
theorem d_L_placeOf_20 : decode c_L_placeOf 20 = .ok (.aload_n 0, 1) := by decide +kernel
theorem d_L_placeOf_21 : decode c_L_placeOf 21 = .ok (.getfield 15, 3) := by decide +kernel
theorem d_L_placeOf_24 : decode c_L_placeOf 24 = .ok (.iload_n 3, 1) := by decide +kernel
theorem d_L_placeOf_25 : decode c_L_placeOf 25 = .ok (.iaload, 1) := by decide +kernel
theorem d_L_placeOf_26 : decode c_L_placeOf 26 = .ok (.iload_n 2, 1) := by decide +kernel
theorem d_L_placeOf_27 : decode c_L_placeOf 27 = .ok (.if_icmp .ne 5, 3) := by decide +kernel
theorem d_L_placeOf_30 : decode c_L_placeOf 30 = .ok (.iload_n 3, 1) := by decide +kernel
theorem d_L_placeOf_31 : decode c_L_placeOf 31 = .ok (.ireturn, 1) := by decide +kernel
theorem d_L_placeOf_32 : decode c_L_placeOf 32 = .ok (.iinc 3 1, 3) := by decide +kernel
theorem d_L_placeOf_35 : decode c_L_placeOf 35 = .ok (.goto (-33), 3) := by decide +kernel
theorem d_L_placeOf_38 : decode c_L_placeOf 38 = .ok (.iconst (-1), 1) := by decide +kernel
theorem d_L_placeOf_39 : decode c_L_placeOf 39 = .ok (.ireturn, 1) := by decide +kernel
abbrev c_P_init : ByteArray := prog_3_method_1_code
def y_P_init : MethodName := ⟨"EventKeeper$Projection", "<init>", "(I)V"⟩
theorem d_P_init_0 : decode c_P_init 0 = .ok (.aload_n 0, 1) := by decide +kernel
theorem d_P_init_1 : decode c_P_init 1 = .ok (.invokespecial 3, 3) := by decide +kernel
theorem d_P_init_4 : decode c_P_init 4 = .ok (.aload_n 0, 1) := by decide +kernel
theorem d_P_init_5 : decode c_P_init 5 = .ok (.iload_n 1, 1) := by decide +kernel
theorem d_P_init_6 : decode c_P_init 6 = .ok (.putfield 9, 3) := by decide +kernel
theorem d_P_init_9 : decode c_P_init 9 = .ok (.aload_n 0, 1) := by decide +kernel
theorem d_P_init_10 : decode c_P_init 10 = .ok (.bipush 8, 2) := by decide +kernel
theorem d_P_init_12 : decode c_P_init 12 = .ok (.newarray .int, 2) := by decide +kernel
theorem d_P_init_14 : decode c_P_init 14 = .ok (.putfield 15, 3) := by decide +kernel
theorem d_P_init_17 : decode c_P_init 17 = .ok (.aload_n 0, 1) := by decide +kernel
theorem d_P_init_18 : decode c_P_init 18 = .ok (.bipush 8, 2) := by decide +kernel
theorem d_P_init_20 : decode c_P_init 20 = .ok (.newarray .int, 2) := by decide +kernel
theorem d_P_init_22 : decode c_P_init 22 = .ok (.putfield 19, 3) := by decide +kernel
theorem d_P_init_25 : decode c_P_init 25 = .ok (.aload_n 0, 1) := by decide +kernel
theorem d_P_init_26 : decode c_P_init 26 = .ok (.bipush 16, 2) := by decide +kernel
theorem d_P_init_28 : decode c_P_init 28 = .ok (.newarray .long, 2) := by decide +kernel
theorem d_P_init_30 : decode c_P_init 30 = .ok (.putfield 22, 3) := by decide +kernel
theorem d_P_init_33 : decode c_P_init 33 = .ok (.aload_n 0, 1) := by decide +kernel
theorem d_P_init_34 : decode c_P_init 34 = .ok (.bipush 16, 2) := by decide +kernel
theorem d_P_init_36 : decode c_P_init 36 = .ok (.newarray .long, 2) := by decide +kernel
theorem d_P_init_38 : decode c_P_init 38 = .ok (.putfield 26, 3) := by decide +kernel
theorem d_P_init_41 : decode c_P_init 41 = .ok (.aload_n 0, 1) := by decide +kernel
theorem d_P_init_42 : decode c_P_init 42 = .ok (.iconst (-1), 1) := by decide +kernel
theorem d_P_init_43 : decode c_P_init 43 = .ok (.putfield 29, 3) := by decide +kernel
theorem d_P_init_46 : decode c_P_init 46 = .ok (.return_, 1) := by decide +kernel
abbrev c_P_setRule : ByteArray := prog_3_method_2_code
def y_P_setRule : MethodName := ⟨"EventKeeper$Projection", "setRule", "(III)V"⟩
theorem d_P_setRule_0 : decode c_P_setRule 0 = .ok (.aload_n 0, 1) := by decide +kernel
theorem d_P_setRule_1 : decode c_P_setRule 1 = .ok (.getfield 15, 3) := by decide +kernel
theorem d_P_setRule_4 : decode c_P_setRule 4 = .ok (.iload_n 1, 1) := by decide +kernel
theorem d_P_setRule_5 : decode c_P_setRule 5 = .ok (.iload_n 2, 1) := by decide +kernel
theorem d_P_setRule_6 : decode c_P_setRule 6 = .ok (.iastore, 1) := by decide +kernel
theorem d_P_setRule_7 : decode c_P_setRule 7 = .ok (.aload_n 0, 1) := by decide +kernel
theorem d_P_setRule_8 : decode c_P_setRule 8 = .ok (.getfield 19, 3) := by decide +kernel
theorem d_P_setRule_11 : decode c_P_setRule 11 = .ok (.iload_n 1, 1) := by decide +kernel
theorem d_P_setRule_12 : decode c_P_setRule 12 = .ok (.iload_n 3, 1) := by decide +kernel
theorem d_P_setRule_13 : decode c_P_setRule 13 = .ok (.iastore, 1) := by decide +kernel
theorem d_P_setRule_14 : decode c_P_setRule 14 = .ok (.aload_n 0, 1) := by decide +kernel
theorem d_P_setRule_15 : decode c_P_setRule 15 = .ok (.invokevirtual 32, 3) := by decide +kernel
theorem d_P_setRule_18 : decode c_P_setRule 18 = .ok (.return_, 1) := by decide +kernel
abbrev c_P_takeOne : ByteArray := prog_3_method_3_code
def y_P_takeOne : MethodName := ⟨"EventKeeper$Projection", "takeOne", "(LEventKeeper$Log;)Z"⟩
theorem d_P_takeOne_0 : decode c_P_takeOne 0 = .ok (.aload_n 0, 1) := by decide +kernel
theorem d_P_takeOne_1 : decode c_P_takeOne 1 = .ok (.getfield 35, 3) := by decide +kernel
theorem d_P_takeOne_4 : decode c_P_takeOne 4 = .ok (.aload_n 1, 1) := by decide +kernel
theorem d_P_takeOne_5 : decode c_P_takeOne 5 = .ok (.getfield 38, 3) := by decide +kernel
theorem d_P_takeOne_8 : decode c_P_takeOne 8 = .ok (.if_icmp .lt 5, 3) := by decide +kernel
theorem d_P_takeOne_11 : decode c_P_takeOne 11 = .ok (.iconst 0, 1) := by decide +kernel
theorem d_P_takeOne_12 : decode c_P_takeOne 12 = .ok (.ireturn, 1) := by decide +kernel
theorem d_P_takeOne_13 : decode c_P_takeOne 13 = .ok (.aload_n 0, 1) := by decide +kernel
theorem d_P_takeOne_14 : decode c_P_takeOne 14 = .ok (.getfield 15, 3) := by decide +kernel
theorem d_P_takeOne_17 : decode c_P_takeOne 17 = .ok (.aload_n 1, 1) := by decide +kernel
theorem d_P_takeOne_18 : decode c_P_takeOne 18 = .ok (.getfield 43, 3) := by decide +kernel
theorem d_P_takeOne_21 : decode c_P_takeOne 21 = .ok (.aload_n 0, 1) := by decide +kernel
theorem d_P_takeOne_22 : decode c_P_takeOne 22 = .ok (.getfield 35, 3) := by decide +kernel
theorem d_P_takeOne_25 : decode c_P_takeOne 25 = .ok (.iaload, 1) := by decide +kernel
theorem d_P_takeOne_26 : decode c_P_takeOne 26 = .ok (.iaload, 1) := by decide +kernel
theorem d_P_takeOne_27 : decode c_P_takeOne 27 = .ok (.istore_n 2, 1) := by decide +kernel
theorem d_P_takeOne_28 : decode c_P_takeOne 28 = .ok (.aload_n 0, 1) := by decide +kernel
theorem d_P_takeOne_29 : decode c_P_takeOne 29 = .ok (.aload_n 1, 1) := by decide +kernel
theorem d_P_takeOne_30 : decode c_P_takeOne 30 = .ok (.invokevirtual 46, 3) := by decide +kernel
theorem d_P_takeOne_33 : decode c_P_takeOne 33 = .ok (.istore_n 3, 1) := by decide +kernel
theorem d_P_takeOne_34 : decode c_P_takeOne 34 = .ok (.iload_n 2, 1) := by decide +kernel
theorem d_P_takeOne_35 : decode c_P_takeOne 35 = .ok (.bipush 6, 2) := by decide +kernel
theorem d_P_takeOne_37 : decode c_P_takeOne 37 = .ok (.if_icmp .ne 14, 3) := by decide +kernel
theorem d_P_takeOne_40 : decode c_P_takeOne 40 = .ok (.aload_n 0, 1) := by decide +kernel
theorem d_P_takeOne_41 : decode c_P_takeOne 41 = .ok (.aload_n 1, 1) := by decide +kernel
theorem d_P_takeOne_42 : decode c_P_takeOne 42 = .ok (.iload_n 3, 1) := by decide +kernel
theorem d_P_takeOne_43 : decode c_P_takeOne 43 = .ok (.invokevirtual 50, 3) := by decide +kernel
theorem d_P_takeOne_46 : decode c_P_takeOne 46 = .ok (.ifCond .ne 30, 3) := by decide +kernel
theorem d_P_takeOne_49 : decode c_P_takeOne 49 = .ok (.iconst 0, 1) := by decide +kernel
theorem d_P_takeOne_50 : decode c_P_takeOne 50 = .ok (.ireturn, 1) := by decide +kernel
theorem d_P_takeOne_51 : decode c_P_takeOne 51 = .ok (.aload_n 0, 1) := by decide +kernel
theorem d_P_takeOne_52 : decode c_P_takeOne 52 = .ok (.getfield 22, 3) := by decide +kernel
theorem d_P_takeOne_55 : decode c_P_takeOne 55 = .ok (.iload_n 3, 1) := by decide +kernel
theorem d_P_takeOne_56 : decode c_P_takeOne 56 = .ok (.iload_n 2, 1) := by decide +kernel
theorem d_P_takeOne_57 : decode c_P_takeOne 57 = .ok (.aload_n 0, 1) := by decide +kernel
theorem d_P_takeOne_58 : decode c_P_takeOne 58 = .ok (.getfield 22, 3) := by decide +kernel
theorem d_P_takeOne_61 : decode c_P_takeOne 61 = .ok (.iload_n 3, 1) := by decide +kernel
theorem d_P_takeOne_62 : decode c_P_takeOne 62 = .ok (.laload, 1) := by decide +kernel
theorem d_P_takeOne_63 : decode c_P_takeOne 63 = .ok (.aload_n 1, 1) := by decide +kernel
theorem d_P_takeOne_64 : decode c_P_takeOne 64 = .ok (.getfield 54, 3) := by decide +kernel
theorem d_P_takeOne_67 : decode c_P_takeOne 67 = .ok (.aload_n 0, 1) := by decide +kernel
theorem d_P_takeOne_68 : decode c_P_takeOne 68 = .ok (.getfield 35, 3) := by decide +kernel
theorem d_P_takeOne_71 : decode c_P_takeOne 71 = .ok (.laload, 1) := by decide +kernel
theorem d_P_takeOne_72 : decode c_P_takeOne 72 = .ok (.invokestatic 57, 3) := by decide +kernel
theorem d_P_takeOne_75 : decode c_P_takeOne 75 = .ok (.lastore, 1) := by decide +kernel
theorem d_P_takeOne_76 : decode c_P_takeOne 76 = .ok (.aload_n 0, 1) := by decide +kernel
theorem d_P_takeOne_77 : decode c_P_takeOne 77 = .ok (.dup, 1) := by decide +kernel
theorem d_P_takeOne_78 : decode c_P_takeOne 78 = .ok (.getfield 35, 3) := by decide +kernel
theorem d_P_takeOne_81 : decode c_P_takeOne 81 = .ok (.iconst 1, 1) := by decide +kernel
theorem d_P_takeOne_82 : decode c_P_takeOne 82 = .ok (.iadd, 1) := by decide +kernel
theorem d_P_takeOne_83 : decode c_P_takeOne 83 = .ok (.putfield 35, 3) := by decide +kernel
theorem d_P_takeOne_86 : decode c_P_takeOne 86 = .ok (.iconst 1, 1) := by decide +kernel
theorem d_P_takeOne_87 : decode c_P_takeOne 87 = .ok (.ireturn, 1) := by decide +kernel
abbrev c_P_targetCell : ByteArray := prog_3_method_4_code
def y_P_targetCell : MethodName := ⟨"EventKeeper$Projection", "targetCell", "(LEventKeeper$Log;)I"⟩
theorem d_P_targetCell_0 : decode c_P_targetCell 0 = .ok (.aload_n 0, 1) := by decide +kernel
theorem d_P_targetCell_1 : decode c_P_targetCell 1 = .ok (.getfield 19, 3) := by decide +kernel
theorem d_P_targetCell_4 : decode c_P_targetCell 4 = .ok (.aload_n 1, 1) := by decide +kernel
theorem d_P_targetCell_5 : decode c_P_targetCell 5 = .ok (.getfield 43, 3) := by decide +kernel
theorem d_P_targetCell_8 : decode c_P_targetCell 8 = .ok (.aload_n 0, 1) := by decide +kernel
theorem d_P_targetCell_9 : decode c_P_targetCell 9 = .ok (.getfield 35, 3) := by decide +kernel
theorem d_P_targetCell_12 : decode c_P_targetCell 12 = .ok (.iaload, 1) := by decide +kernel
theorem d_P_targetCell_13 : decode c_P_targetCell 13 = .ok (.iaload, 1) := by decide +kernel
theorem d_P_targetCell_14 : decode c_P_targetCell 14 = .ok (.lookupswitch 51 #[(0, 26), (1, 36)], 26) := by decide +kernel
theorem d_P_targetCell_40 : decode c_P_targetCell 40 = .ok (.aload_n 1, 1) := by decide +kernel
theorem d_P_targetCell_41 : decode c_P_targetCell 41 = .ok (.getfield 61, 3) := by decide +kernel
theorem d_P_targetCell_44 : decode c_P_targetCell 44 = .ok (.aload_n 0, 1) := by decide +kernel
theorem d_P_targetCell_45 : decode c_P_targetCell 45 = .ok (.getfield 35, 3) := by decide +kernel
theorem d_P_targetCell_48 : decode c_P_targetCell 48 = .ok (.iaload, 1) := by decide +kernel
theorem d_P_targetCell_49 : decode c_P_targetCell 49 = .ok (.ireturn, 1) := by decide +kernel
theorem d_P_targetCell_50 : decode c_P_targetCell 50 = .ok (.aload_n 1, 1) := by decide +kernel
theorem d_P_targetCell_51 : decode c_P_targetCell 51 = .ok (.getfield 54, 3) := by decide +kernel
theorem d_P_targetCell_54 : decode c_P_targetCell 54 = .ok (.aload_n 0, 1) := by decide +kernel
theorem d_P_targetCell_55 : decode c_P_targetCell 55 = .ok (.getfield 35, 3) := by decide +kernel
theorem d_P_targetCell_58 : decode c_P_targetCell 58 = .ok (.laload, 1) := by decide +kernel
theorem d_P_targetCell_59 : decode c_P_targetCell 59 = .ok (.ldc2_w 64, 3) := by decide +kernel
theorem d_P_targetCell_62 : decode c_P_targetCell 62 = .ok (.land, 1) := by decide +kernel
theorem d_P_targetCell_63 : decode c_P_targetCell 63 = .ok (.l2i, 1) := by decide +kernel
theorem d_P_targetCell_64 : decode c_P_targetCell 64 = .ok (.ireturn, 1) := by decide +kernel
theorem d_P_targetCell_65 : decode c_P_targetCell 65 = .ok (.iconst 0, 1) := by decide +kernel
theorem d_P_targetCell_66 : decode c_P_targetCell 66 = .ok (.ireturn, 1) := by decide +kernel
abbrev c_P_folded : ByteArray := prog_3_method_5_code
def y_P_folded : MethodName := ⟨"EventKeeper$Projection", "folded", "(IJJ)J"⟩
theorem d_P_folded_0 : decode c_P_folded 0 = .ok (.iload_n 0, 1) := by decide +kernel
theorem d_P_folded_1 : decode c_P_folded 1 = .ok (.tableswitch 57 1 5 #[35, 39, 41, 45, 51], 35) := by decide +kernel
theorem d_P_folded_36 : decode c_P_folded 36 = .ok (.lload_n 1, 1) := by decide +kernel
theorem d_P_folded_37 : decode c_P_folded 37 = .ok (.lload_n 3, 1) := by decide +kernel
theorem d_P_folded_38 : decode c_P_folded 38 = .ok (.ladd, 1) := by decide +kernel
theorem d_P_folded_39 : decode c_P_folded 39 = .ok (.lreturn, 1) := by decide +kernel
theorem d_P_folded_40 : decode c_P_folded 40 = .ok (.lload_n 3, 1) := by decide +kernel
theorem d_P_folded_41 : decode c_P_folded 41 = .ok (.lreturn, 1) := by decide +kernel
theorem d_P_folded_42 : decode c_P_folded 42 = .ok (.lload_n 1, 1) := by decide +kernel
theorem d_P_folded_43 : decode c_P_folded 43 = .ok (.lconst 1, 1) := by decide +kernel
theorem d_P_folded_44 : decode c_P_folded 44 = .ok (.ladd, 1) := by decide +kernel
theorem d_P_folded_45 : decode c_P_folded 45 = .ok (.lreturn, 1) := by decide +kernel
theorem d_P_folded_46 : decode c_P_folded 46 = .ok (.lload_n 1, 1) := by decide +kernel
theorem d_P_folded_47 : decode c_P_folded 47 = .ok (.lload_n 3, 1) := by decide +kernel
theorem d_P_folded_48 : decode c_P_folded 48 = .ok (.invokestatic 66, 3) := by decide +kernel
theorem d_P_folded_51 : decode c_P_folded 51 = .ok (.lreturn, 1) := by decide +kernel
theorem d_P_folded_52 : decode c_P_folded 52 = .ok (.lload_n 1, 1) := by decide +kernel
theorem d_P_folded_53 : decode c_P_folded 53 = .ok (.lload_n 3, 1) := by decide +kernel
theorem d_P_folded_54 : decode c_P_folded 54 = .ok (.invokestatic 72, 3) := by decide +kernel
theorem d_P_folded_57 : decode c_P_folded 57 = .ok (.lreturn, 1) := by decide +kernel
theorem d_P_folded_58 : decode c_P_folded 58 = .ok (.lload_n 1, 1) := by decide +kernel
theorem d_P_folded_59 : decode c_P_folded 59 = .ok (.lreturn, 1) := by decide +kernel
abbrev c_P_countAndEmit : ByteArray := prog_3_method_6_code
def y_P_countAndEmit : MethodName := ⟨"EventKeeper$Projection", "countAndEmit", "(LEventKeeper$Log;I)Z"⟩
theorem d_P_countAndEmit_0 : decode c_P_countAndEmit 0 = .ok (.aload_n 0, 1) := by decide +kernel
theorem d_P_countAndEmit_1 : decode c_P_countAndEmit 1 = .ok (.getfield 22, 3) := by decide +kernel
theorem d_P_countAndEmit_4 : decode c_P_countAndEmit 4 = .ok (.iload_n 2, 1) := by decide +kernel
theorem d_P_countAndEmit_5 : decode c_P_countAndEmit 5 = .ok (.laload, 1) := by decide +kernel
theorem d_P_countAndEmit_6 : decode c_P_countAndEmit 6 = .ok (.lconst 1, 1) := by decide +kernel
theorem d_P_countAndEmit_7 : decode c_P_countAndEmit 7 = .ok (.ladd, 1) := by decide +kernel
theorem d_P_countAndEmit_8 : decode c_P_countAndEmit 8 = .ok (.lstore_n 3, 1) := by decide +kernel
theorem d_P_countAndEmit_9 : decode c_P_countAndEmit 9 = .ok (.lload_n 3, 1) := by decide +kernel
theorem d_P_countAndEmit_10 : decode c_P_countAndEmit 10 = .ok (.lconst 1, 1) := by decide +kernel
theorem d_P_countAndEmit_11 : decode c_P_countAndEmit 11 = .ok (.land, 1) := by decide +kernel
theorem d_P_countAndEmit_12 : decode c_P_countAndEmit 12 = .ok (.lconst 0, 1) := by decide +kernel
theorem d_P_countAndEmit_13 : decode c_P_countAndEmit 13 = .ok (.lcmp, 1) := by decide +kernel
theorem d_P_countAndEmit_14 : decode c_P_countAndEmit 14 = .ok (.ifCond .ne 7, 3) := by decide +kernel
theorem d_P_countAndEmit_17 : decode c_P_countAndEmit 17 = .ok (.iconst 1, 1) := by decide +kernel
theorem d_P_countAndEmit_18 : decode c_P_countAndEmit 18 = .ok (.goto 4, 3) := by decide +kernel
theorem d_P_countAndEmit_21 : decode c_P_countAndEmit 21 = .ok (.iconst 0, 1) := by decide +kernel
theorem d_P_countAndEmit_22 : decode c_P_countAndEmit 22 = .ok (.istore 5, 2) := by decide +kernel
theorem d_P_countAndEmit_24 : decode c_P_countAndEmit 24 = .ok (.iload 5, 2) := by decide +kernel
theorem d_P_countAndEmit_26 : decode c_P_countAndEmit 26 = .ok (.ifCond .eq 40, 3) := by decide +kernel
theorem d_P_countAndEmit_29 : decode c_P_countAndEmit 29 = .ok (.aload_n 1, 1) := by decide +kernel
theorem d_P_countAndEmit_30 : decode c_P_countAndEmit 30 = .ok (.aload_n 0, 1) := by decide +kernel
theorem d_P_countAndEmit_31 : decode c_P_countAndEmit 31 = .ok (.getfield 9, 3) := by decide +kernel
theorem d_P_countAndEmit_34 : decode c_P_countAndEmit 34 = .ok (.aload_n 0, 1) := by decide +kernel
theorem d_P_countAndEmit_35 : decode c_P_countAndEmit 35 = .ok (.getfield 35, 3) := by decide +kernel
theorem d_P_countAndEmit_38 : decode c_P_countAndEmit 38 = .ok (.invokevirtual 75, 3) := by decide +kernel
theorem d_P_countAndEmit_41 : decode c_P_countAndEmit 41 = .ok (.ifCond .ne 25, 3) := by decide +kernel
theorem d_P_countAndEmit_44 : decode c_P_countAndEmit 44 = .ok (.aload_n 1, 1) := by decide +kernel
theorem d_P_countAndEmit_45 : decode c_P_countAndEmit 45 = .ok (.invokevirtual 79, 3) := by decide +kernel
theorem d_P_countAndEmit_48 : decode c_P_countAndEmit 48 = .ok (.ifCond .eq 5, 3) := by decide +kernel
theorem d_P_countAndEmit_51 : decode c_P_countAndEmit 51 = .ok (.iconst 0, 1) := by decide +kernel
theorem d_P_countAndEmit_52 : decode c_P_countAndEmit 52 = .ok (.ireturn, 1) := by decide +kernel
theorem d_P_countAndEmit_53 : decode c_P_countAndEmit 53 = .ok (.aload_n 1, 1) := by decide +kernel
theorem d_P_countAndEmit_54 : decode c_P_countAndEmit 54 = .ok (.aload_n 0, 1) := by decide +kernel
theorem d_P_countAndEmit_55 : decode c_P_countAndEmit 55 = .ok (.getfield 9, 3) := by decide +kernel
theorem d_P_countAndEmit_58 : decode c_P_countAndEmit 58 = .ok (.aload_n 0, 1) := by decide +kernel
theorem d_P_countAndEmit_59 : decode c_P_countAndEmit 59 = .ok (.getfield 35, 3) := by decide +kernel
theorem d_P_countAndEmit_62 : decode c_P_countAndEmit 62 = .ok (.lload_n 3, 1) := by decide +kernel
theorem d_P_countAndEmit_63 : decode c_P_countAndEmit 63 = .ok (.invokevirtual 83, 3) := by decide +kernel
theorem d_P_countAndEmit_66 : decode c_P_countAndEmit 66 = .ok (.aload_n 0, 1) := by decide +kernel
theorem d_P_countAndEmit_67 : decode c_P_countAndEmit 67 = .ok (.getfield 22, 3) := by decide +kernel
theorem d_P_countAndEmit_70 : decode c_P_countAndEmit 70 = .ok (.iload_n 2, 1) := by decide +kernel
theorem d_P_countAndEmit_71 : decode c_P_countAndEmit 71 = .ok (.lload_n 3, 1) := by decide +kernel
theorem d_P_countAndEmit_72 : decode c_P_countAndEmit 72 = .ok (.lastore, 1) := by decide +kernel
theorem d_P_countAndEmit_73 : decode c_P_countAndEmit 73 = .ok (.iconst 1, 1) := by decide +kernel
theorem d_P_countAndEmit_74 : decode c_P_countAndEmit 74 = .ok (.ireturn, 1) := by decide +kernel
abbrev c_P_keep : ByteArray := prog_3_method_7_code
def y_P_keep : MethodName := ⟨"EventKeeper$Projection", "keep", "(I)I"⟩
theorem d_P_keep_0 : decode c_P_keep 0 = .ok (.aload_n 0, 1) := by decide +kernel
theorem d_P_keep_1 : decode c_P_keep 1 = .ok (.getfield 22, 3) := by decide +kernel
theorem d_P_keep_4 : decode c_P_keep 4 = .ok (.iconst 0, 1) := by decide +kernel
theorem d_P_keep_5 : decode c_P_keep 5 = .ok (.aload_n 0, 1) := by decide +kernel
theorem d_P_keep_6 : decode c_P_keep 6 = .ok (.getfield 26, 3) := by decide +kernel
theorem d_P_keep_9 : decode c_P_keep 9 = .ok (.iconst 0, 1) := by decide +kernel
theorem d_P_keep_10 : decode c_P_keep 10 = .ok (.bipush 16, 2) := by decide +kernel
theorem d_P_keep_12 : decode c_P_keep 12 = .ok (.invokestatic 87, 3) := by decide +kernel
theorem d_P_keep_15 : decode c_P_keep 15 = .ok (.aload_n 0, 1) := by decide +kernel
theorem d_P_keep_16 : decode c_P_keep 16 = .ok (.aload_n 0, 1) := by decide +kernel
theorem d_P_keep_17 : decode c_P_keep 17 = .ok (.getfield 35, 3) := by decide +kernel
theorem d_P_keep_20 : decode c_P_keep 20 = .ok (.putfield 93, 3) := by decide +kernel
theorem d_P_keep_23 : decode c_P_keep 23 = .ok (.aload_n 0, 1) := by decide +kernel
theorem d_P_keep_24 : decode c_P_keep 24 = .ok (.iload_n 1, 1) := by decide +kernel
theorem d_P_keep_25 : decode c_P_keep 25 = .ok (.putfield 29, 3) := by decide +kernel
theorem d_P_keep_28 : decode c_P_keep 28 = .ok (.aload_n 0, 1) := by decide +kernel
theorem d_P_keep_29 : decode c_P_keep 29 = .ok (.getfield 35, 3) := by decide +kernel
theorem d_P_keep_32 : decode c_P_keep 32 = .ok (.ireturn, 1) := by decide +kernel
abbrev c_P_recover : ByteArray := prog_3_method_8_code
def y_P_recover : MethodName := ⟨"EventKeeper$Projection", "recover", "(I)V"⟩
theorem d_P_recover_0 : decode c_P_recover 0 = .ok (.aload_n 0, 1) := by decide +kernel
theorem d_P_recover_1 : decode c_P_recover 1 = .ok (.getfield 29, 3) := by decide +kernel
theorem d_P_recover_4 : decode c_P_recover 4 = .ok (.iconst (-1), 1) := by decide +kernel
theorem d_P_recover_5 : decode c_P_recover 5 = .ok (.if_icmp .eq 11, 3) := by decide +kernel
theorem d_P_recover_8 : decode c_P_recover 8 = .ok (.aload_n 0, 1) := by decide +kernel
theorem d_P_recover_9 : decode c_P_recover 9 = .ok (.getfield 29, 3) := by decide +kernel
theorem d_P_recover_12 : decode c_P_recover 12 = .ok (.iload_n 1, 1) := by decide +kernel
theorem d_P_recover_13 : decode c_P_recover 13 = .ok (.if_icmp .le 10, 3) := by decide +kernel
theorem d_P_recover_16 : decode c_P_recover 16 = .ok (.aload_n 0, 1) := by decide +kernel
theorem d_P_recover_17 : decode c_P_recover 17 = .ok (.invokevirtual 32, 3) := by decide +kernel
theorem d_P_recover_20 : decode c_P_recover 20 = .ok (.goto 26, 3) := by decide +kernel
theorem d_P_recover_23 : decode c_P_recover 23 = .ok (.aload_n 0, 1) := by decide +kernel
theorem d_P_recover_24 : decode c_P_recover 24 = .ok (.getfield 26, 3) := by decide +kernel
theorem d_P_recover_27 : decode c_P_recover 27 = .ok (.iconst 0, 1) := by decide +kernel
theorem d_P_recover_28 : decode c_P_recover 28 = .ok (.aload_n 0, 1) := by decide +kernel
theorem d_P_recover_29 : decode c_P_recover 29 = .ok (.getfield 22, 3) := by decide +kernel
theorem d_P_recover_32 : decode c_P_recover 32 = .ok (.iconst 0, 1) := by decide +kernel
theorem d_P_recover_33 : decode c_P_recover 33 = .ok (.bipush 16, 2) := by decide +kernel
theorem d_P_recover_35 : decode c_P_recover 35 = .ok (.invokestatic 87, 3) := by decide +kernel
theorem d_P_recover_38 : decode c_P_recover 38 = .ok (.aload_n 0, 1) := by decide +kernel
theorem d_P_recover_39 : decode c_P_recover 39 = .ok (.aload_n 0, 1) := by decide +kernel
theorem d_P_recover_40 : decode c_P_recover 40 = .ok (.getfield 93, 3) := by decide +kernel
theorem d_P_recover_43 : decode c_P_recover 43 = .ok (.putfield 35, 3) := by decide +kernel
theorem d_P_recover_46 : decode c_P_recover 46 = .ok (.return_, 1) := by decide +kernel
abbrev c_P_startOver : ByteArray := prog_3_method_9_code
def y_P_startOver : MethodName := ⟨"EventKeeper$Projection", "startOver", "()V"⟩
theorem d_P_startOver_0 : decode c_P_startOver 0 = .ok (.iconst 0, 1) := by decide +kernel
theorem d_P_startOver_1 : decode c_P_startOver 1 = .ok (.istore_n 1, 1) := by decide +kernel
theorem d_P_startOver_2 : decode c_P_startOver 2 = .ok (.iload_n 1, 1) := by decide +kernel
theorem d_P_startOver_3 : decode c_P_startOver 3 = .ok (.bipush 16, 2) := by decide +kernel
theorem d_P_startOver_5 : decode c_P_startOver 5 = .ok (.if_icmp .ge 16, 3) := by decide +kernel
theorem d_P_startOver_8 : decode c_P_startOver 8 = .ok (.aload_n 0, 1) := by decide +kernel
theorem d_P_startOver_9 : decode c_P_startOver 9 = .ok (.getfield 22, 3) := by decide +kernel
theorem d_P_startOver_12 : decode c_P_startOver 12 = .ok (.iload_n 1, 1) := by decide +kernel
theorem d_P_startOver_13 : decode c_P_startOver 13 = .ok (.lconst 0, 1) := by decide +kernel
theorem d_P_startOver_14 : decode c_P_startOver 14 = .ok (.lastore, 1) := by decide +kernel
theorem d_P_startOver_15 : decode c_P_startOver 15 = .ok (.iinc 1 1, 3) := by decide +kernel
theorem d_P_startOver_18 : decode c_P_startOver 18 = .ok (.goto (-16), 3) := by decide +kernel
theorem d_P_startOver_21 : decode c_P_startOver 21 = .ok (.aload_n 0, 1) := by decide +kernel
theorem d_P_startOver_22 : decode c_P_startOver 22 = .ok (.iconst 0, 1) := by decide +kernel
theorem d_P_startOver_23 : decode c_P_startOver 23 = .ok (.putfield 35, 3) := by decide +kernel
theorem d_P_startOver_26 : decode c_P_startOver 26 = .ok (.aload_n 0, 1) := by decide +kernel
theorem d_P_startOver_27 : decode c_P_startOver 27 = .ok (.iconst (-1), 1) := by decide +kernel
theorem d_P_startOver_28 : decode c_P_startOver 28 = .ok (.putfield 29, 3) := by decide +kernel
theorem d_P_startOver_31 : decode c_P_startOver 31 = .ok (.return_, 1) := by decide +kernel
abbrev c_S_init : ByteArray := prog_4_method_1_code
def y_S_init : MethodName := ⟨"EventKeeper$Subscription", "<init>", "()V"⟩
theorem d_S_init_0 : decode c_S_init 0 = .ok (.aload_n 0, 1) := by decide +kernel
theorem d_S_init_1 : decode c_S_init 1 = .ok (.invokespecial 3, 3) := by decide +kernel
theorem d_S_init_4 : decode c_S_init 4 = .ok (.aload_n 0, 1) := by decide +kernel
theorem d_S_init_5 : decode c_S_init 5 = .ok (.iconst (-1), 1) := by decide +kernel
theorem d_S_init_6 : decode c_S_init 6 = .ok (.putfield 9, 3) := by decide +kernel
theorem d_S_init_9 : decode c_S_init 9 = .ok (.aload_n 0, 1) := by decide +kernel
theorem d_S_init_10 : decode c_S_init 10 = .ok (.sipush 255, 3) := by decide +kernel
theorem d_S_init_13 : decode c_S_init 13 = .ok (.putfield 15, 3) := by decide +kernel
theorem d_S_init_16 : decode c_S_init 16 = .ok (.return_, 1) := by decide +kernel
abbrev c_S_setFilter : ByteArray := prog_4_method_2_code
def y_S_setFilter : MethodName := ⟨"EventKeeper$Subscription", "setFilter", "(II)V"⟩
theorem d_S_setFilter_0 : decode c_S_setFilter 0 = .ok (.aload_n 0, 1) := by decide +kernel
theorem d_S_setFilter_1 : decode c_S_setFilter 1 = .ok (.iload_n 1, 1) := by decide +kernel
theorem d_S_setFilter_2 : decode c_S_setFilter 2 = .ok (.putfield 9, 3) := by decide +kernel
theorem d_S_setFilter_5 : decode c_S_setFilter 5 = .ok (.aload_n 0, 1) := by decide +kernel
theorem d_S_setFilter_6 : decode c_S_setFilter 6 = .ok (.iload_n 2, 1) := by decide +kernel
theorem d_S_setFilter_7 : decode c_S_setFilter 7 = .ok (.putfield 15, 3) := by decide +kernel
theorem d_S_setFilter_10 : decode c_S_setFilter 10 = .ok (.aload_n 0, 1) := by decide +kernel
theorem d_S_setFilter_11 : decode c_S_setFilter 11 = .ok (.iconst 0, 1) := by decide +kernel
theorem d_S_setFilter_12 : decode c_S_setFilter 12 = .ok (.putfield 18, 3) := by decide +kernel
theorem d_S_setFilter_15 : decode c_S_setFilter 15 = .ok (.aload_n 0, 1) := by decide +kernel
theorem d_S_setFilter_16 : decode c_S_setFilter 16 = .ok (.iconst 0, 1) := by decide +kernel
theorem d_S_setFilter_17 : decode c_S_setFilter 17 = .ok (.putfield 21, 3) := by decide +kernel
theorem d_S_setFilter_20 : decode c_S_setFilter 20 = .ok (.return_, 1) := by decide +kernel
abbrev c_S_firstWaiting : ByteArray := prog_4_method_3_code
def y_S_firstWaiting : MethodName := ⟨"EventKeeper$Subscription", "firstWaiting", "(LEventKeeper$Log;)I"⟩
theorem d_S_firstWaiting_0 : decode c_S_firstWaiting 0 = .ok (.aload_n 0, 1) := by decide +kernel
theorem d_S_firstWaiting_1 : decode c_S_firstWaiting 1 = .ok (.getfield 18, 3) := by decide +kernel
theorem d_S_firstWaiting_4 : decode c_S_firstWaiting 4 = .ok (.istore_n 2, 1) := by decide +kernel
theorem d_S_firstWaiting_5 : decode c_S_firstWaiting 5 = .ok (.iload_n 2, 1) := by decide +kernel
theorem d_S_firstWaiting_6 : decode c_S_firstWaiting 6 = .ok (.aload_n 1, 1) := by decide +kernel
theorem d_S_firstWaiting_7 : decode c_S_firstWaiting 7 = .ok (.getfield 24, 3) := by decide +kernel
theorem d_S_firstWaiting_10 : decode c_S_firstWaiting 10 = .ok (.if_icmp .ge 30, 3) := by decide +kernel
theorem d_S_firstWaiting_13 : decode c_S_firstWaiting 13 = .ok (.aload_n 0, 1) := by decide +kernel
theorem d_S_firstWaiting_14 : decode c_S_firstWaiting 14 = .ok (.aload_n 1, 1) := by decide +kernel
theorem d_S_firstWaiting_15 : decode c_S_firstWaiting 15 = .ok (.getfield 29, 3) := by decide +kernel
theorem d_S_firstWaiting_18 : decode c_S_firstWaiting 18 = .ok (.iload_n 2, 1) := by decide +kernel
theorem d_S_firstWaiting_19 : decode c_S_firstWaiting 19 = .ok (.iaload, 1) := by decide +kernel
theorem d_S_firstWaiting_20 : decode c_S_firstWaiting 20 = .ok (.aload_n 1, 1) := by decide +kernel
theorem d_S_firstWaiting_21 : decode c_S_firstWaiting 21 = .ok (.getfield 33, 3) := by decide +kernel
theorem d_S_firstWaiting_24 : decode c_S_firstWaiting 24 = .ok (.iload_n 2, 1) := by decide +kernel
theorem d_S_firstWaiting_25 : decode c_S_firstWaiting 25 = .ok (.iaload, 1) := by decide +kernel
theorem d_S_firstWaiting_26 : decode c_S_firstWaiting 26 = .ok (.invokevirtual 36, 3) := by decide +kernel
theorem d_S_firstWaiting_29 : decode c_S_firstWaiting 29 = .ok (.ifCond .eq 5, 3) := by decide +kernel
theorem d_S_firstWaiting_32 : decode c_S_firstWaiting 32 = .ok (.iload_n 2, 1) := by decide +kernel
theorem d_S_firstWaiting_33 : decode c_S_firstWaiting 33 = .ok (.ireturn, 1) := by decide +kernel
theorem d_S_firstWaiting_34 : decode c_S_firstWaiting 34 = .ok (.iinc 2 1, 3) := by decide +kernel
theorem d_S_firstWaiting_37 : decode c_S_firstWaiting 37 = .ok (.goto (-32), 3) := by decide +kernel
theorem d_S_firstWaiting_40 : decode c_S_firstWaiting 40 = .ok (.iconst (-1), 1) := by decide +kernel
theorem d_S_firstWaiting_41 : decode c_S_firstWaiting 41 = .ok (.ireturn, 1) := by decide +kernel
abbrev c_S_letsThrough : ByteArray := prog_4_method_4_code
def y_S_letsThrough : MethodName := ⟨"EventKeeper$Subscription", "letsThrough", "(II)Z"⟩
theorem d_S_letsThrough_0 : decode c_S_letsThrough 0 = .ok (.aload_n 0, 1) := by decide +kernel
theorem d_S_letsThrough_1 : decode c_S_letsThrough 1 = .ok (.getfield 9, 3) := by decide +kernel
theorem d_S_letsThrough_4 : decode c_S_letsThrough 4 = .ok (.iconst (-1), 1) := by decide +kernel
theorem d_S_letsThrough_5 : decode c_S_letsThrough 5 = .ok (.if_icmp .eq 11, 3) := by decide +kernel
theorem d_S_letsThrough_8 : decode c_S_letsThrough 8 = .ok (.aload_n 0, 1) := by decide +kernel
theorem d_S_letsThrough_9 : decode c_S_letsThrough 9 = .ok (.getfield 9, 3) := by decide +kernel
theorem d_S_letsThrough_12 : decode c_S_letsThrough 12 = .ok (.iload_n 1, 1) := by decide +kernel
theorem d_S_letsThrough_13 : decode c_S_letsThrough 13 = .ok (.if_icmp .ne 7, 3) := by decide +kernel
theorem d_S_letsThrough_16 : decode c_S_letsThrough 16 = .ok (.iconst 1, 1) := by decide +kernel
theorem d_S_letsThrough_17 : decode c_S_letsThrough 17 = .ok (.goto 4, 3) := by decide +kernel
theorem d_S_letsThrough_20 : decode c_S_letsThrough 20 = .ok (.iconst 0, 1) := by decide +kernel
theorem d_S_letsThrough_21 : decode c_S_letsThrough 21 = .ok (.istore_n 3, 1) := by decide +kernel
theorem d_S_letsThrough_22 : decode c_S_letsThrough 22 = .ok (.iload_n 3, 1) := by decide +kernel
theorem d_S_letsThrough_23 : decode c_S_letsThrough 23 = .ok (.ifCond .eq 18, 3) := by decide +kernel
theorem d_S_letsThrough_26 : decode c_S_letsThrough 26 = .ok (.aload_n 0, 1) := by decide +kernel
theorem d_S_letsThrough_27 : decode c_S_letsThrough 27 = .ok (.getfield 15, 3) := by decide +kernel
theorem d_S_letsThrough_30 : decode c_S_letsThrough 30 = .ok (.iconst 1, 1) := by decide +kernel
theorem d_S_letsThrough_31 : decode c_S_letsThrough 31 = .ok (.iload_n 2, 1) := by decide +kernel
theorem d_S_letsThrough_32 : decode c_S_letsThrough 32 = .ok (.ishl, 1) := by decide +kernel
theorem d_S_letsThrough_33 : decode c_S_letsThrough 33 = .ok (.iand, 1) := by decide +kernel
theorem d_S_letsThrough_34 : decode c_S_letsThrough 34 = .ok (.ifCond .eq 7, 3) := by decide +kernel
theorem d_S_letsThrough_37 : decode c_S_letsThrough 37 = .ok (.iconst 1, 1) := by decide +kernel
theorem d_S_letsThrough_38 : decode c_S_letsThrough 38 = .ok (.goto 4, 3) := by decide +kernel
theorem d_S_letsThrough_41 : decode c_S_letsThrough 41 = .ok (.iconst 0, 1) := by decide +kernel
theorem d_S_letsThrough_42 : decode c_S_letsThrough 42 = .ok (.ireturn, 1) := by decide +kernel
abbrev c_S_passBehind : ByteArray := prog_4_method_5_code
def y_S_passBehind : MethodName := ⟨"EventKeeper$Subscription", "passBehind", "(I)I"⟩
theorem d_S_passBehind_0 : decode c_S_passBehind 0 = .ok (.aload_n 0, 1) := by decide +kernel
theorem d_S_passBehind_1 : decode c_S_passBehind 1 = .ok (.aload_n 0, 1) := by decide +kernel
theorem d_S_passBehind_2 : decode c_S_passBehind 2 = .ok (.getfield 18, 3) := by decide +kernel
theorem d_S_passBehind_5 : decode c_S_passBehind 5 = .ok (.iload_n 1, 1) := by decide +kernel
theorem d_S_passBehind_6 : decode c_S_passBehind 6 = .ok (.iconst 1, 1) := by decide +kernel
theorem d_S_passBehind_7 : decode c_S_passBehind 7 = .ok (.iadd, 1) := by decide +kernel
theorem d_S_passBehind_8 : decode c_S_passBehind 8 = .ok (.invokestatic 40, 3) := by decide +kernel
theorem d_S_passBehind_11 : decode c_S_passBehind 11 = .ok (.putfield 18, 3) := by decide +kernel
theorem d_S_passBehind_14 : decode c_S_passBehind 14 = .ok (.aload_n 0, 1) := by decide +kernel
theorem d_S_passBehind_15 : decode c_S_passBehind 15 = .ok (.getfield 18, 3) := by decide +kernel
theorem d_S_passBehind_18 : decode c_S_passBehind 18 = .ok (.ireturn, 1) := by decide +kernel
abbrev c_S_makeSafe : ByteArray := prog_4_method_6_code
def y_S_makeSafe : MethodName := ⟨"EventKeeper$Subscription", "makeSafe", "()V"⟩
theorem d_S_makeSafe_0 : decode c_S_makeSafe 0 = .ok (.aload_n 0, 1) := by decide +kernel
theorem d_S_makeSafe_1 : decode c_S_makeSafe 1 = .ok (.aload_n 0, 1) := by decide +kernel
theorem d_S_makeSafe_2 : decode c_S_makeSafe 2 = .ok (.getfield 18, 3) := by decide +kernel
theorem d_S_makeSafe_5 : decode c_S_makeSafe 5 = .ok (.putfield 21, 3) := by decide +kernel
theorem d_S_makeSafe_8 : decode c_S_makeSafe 8 = .ok (.return_, 1) := by decide +kernel
abbrev c_S_recover : ByteArray := prog_4_method_7_code
def y_S_recover : MethodName := ⟨"EventKeeper$Subscription", "recover", "(I)V"⟩
theorem d_S_recover_0 : decode c_S_recover 0 = .ok (.aload_n 0, 1) := by decide +kernel
theorem d_S_recover_1 : decode c_S_recover 1 = .ok (.aload_n 0, 1) := by decide +kernel
theorem d_S_recover_2 : decode c_S_recover 2 = .ok (.getfield 21, 3) := by decide +kernel
theorem d_S_recover_5 : decode c_S_recover 5 = .ok (.iload_n 1, 1) := by decide +kernel
theorem d_S_recover_6 : decode c_S_recover 6 = .ok (.invokestatic 46, 3) := by decide +kernel
theorem d_S_recover_9 : decode c_S_recover 9 = .ok (.putfield 18, 3) := by decide +kernel
theorem d_S_recover_12 : decode c_S_recover 12 = .ok (.return_, 1) := by decide +kernel
