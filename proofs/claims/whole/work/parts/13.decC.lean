abbrev c_M_init : ByteArray := prog_6_method_1_code
def y_M_init : MethodName := ⟨"EventKeeperModel", "<init>", "()V"⟩
theorem d_M_init_0 : decode c_M_init 0 = .ok (.aload_n 0, 1) := by decide +kernel
theorem d_M_init_1 : decode c_M_init 1 = .ok (.invokespecial 1, 3) := by decide +kernel
theorem d_M_init_4 : decode c_M_init 4 = .ok (.aload_n 0, 1) := by decide +kernel
theorem d_M_init_5 : decode c_M_init 5 = .ok (.sipush 500, 3) := by decide +kernel
theorem d_M_init_8 : decode c_M_init 8 = .ok (.newarray .int, 2) := by decide +kernel
theorem d_M_init_10 : decode c_M_init 10 = .ok (.putfield 9, 3) := by decide +kernel
theorem d_M_init_13 : decode c_M_init 13 = .ok (.aload_n 0, 1) := by decide +kernel
theorem d_M_init_14 : decode c_M_init 14 = .ok (.sipush 500, 3) := by decide +kernel
theorem d_M_init_17 : decode c_M_init 17 = .ok (.newarray .int, 2) := by decide +kernel
theorem d_M_init_19 : decode c_M_init 19 = .ok (.putfield 13, 3) := by decide +kernel
theorem d_M_init_22 : decode c_M_init 22 = .ok (.aload_n 0, 1) := by decide +kernel
theorem d_M_init_23 : decode c_M_init 23 = .ok (.sipush 500, 3) := by decide +kernel
theorem d_M_init_26 : decode c_M_init 26 = .ok (.newarray .int, 2) := by decide +kernel
theorem d_M_init_28 : decode c_M_init 28 = .ok (.putfield 16, 3) := by decide +kernel
theorem d_M_init_31 : decode c_M_init 31 = .ok (.aload_n 0, 1) := by decide +kernel
theorem d_M_init_32 : decode c_M_init 32 = .ok (.sipush 500, 3) := by decide +kernel
theorem d_M_init_35 : decode c_M_init 35 = .ok (.newarray .int, 2) := by decide +kernel
theorem d_M_init_37 : decode c_M_init 37 = .ok (.putfield 19, 3) := by decide +kernel
theorem d_M_init_40 : decode c_M_init 40 = .ok (.aload_n 0, 1) := by decide +kernel
theorem d_M_init_41 : decode c_M_init 41 = .ok (.sipush 500, 3) := by decide +kernel
theorem d_M_init_44 : decode c_M_init 44 = .ok (.newarray .long, 2) := by decide +kernel
theorem d_M_init_46 : decode c_M_init 46 = .ok (.putfield 22, 3) := by decide +kernel
theorem d_M_init_49 : decode c_M_init 49 = .ok (.aload_n 0, 1) := by decide +kernel
theorem d_M_init_50 : decode c_M_init 50 = .ok (.sipush 128, 3) := by decide +kernel
theorem d_M_init_53 : decode c_M_init 53 = .ok (.newarray .long, 2) := by decide +kernel
theorem d_M_init_55 : decode c_M_init 55 = .ok (.putfield 26, 3) := by decide +kernel
theorem d_M_init_58 : decode c_M_init 58 = .ok (.aload_n 0, 1) := by decide +kernel
theorem d_M_init_59 : decode c_M_init 59 = .ok (.sipush 128, 3) := by decide +kernel
theorem d_M_init_62 : decode c_M_init 62 = .ok (.newarray .long, 2) := by decide +kernel
theorem d_M_init_64 : decode c_M_init 64 = .ok (.putfield 29, 3) := by decide +kernel
theorem d_M_init_67 : decode c_M_init 67 = .ok (.aload_n 0, 1) := by decide +kernel
theorem d_M_init_68 : decode c_M_init 68 = .ok (.bipush 64, 2) := by decide +kernel
theorem d_M_init_70 : decode c_M_init 70 = .ok (.newarray .int, 2) := by decide +kernel
theorem d_M_init_72 : decode c_M_init 72 = .ok (.putfield 32, 3) := by decide +kernel
theorem d_M_init_75 : decode c_M_init 75 = .ok (.aload_n 0, 1) := by decide +kernel
theorem d_M_init_76 : decode c_M_init 76 = .ok (.bipush 64, 2) := by decide +kernel
theorem d_M_init_78 : decode c_M_init 78 = .ok (.newarray .int, 2) := by decide +kernel
theorem d_M_init_80 : decode c_M_init 80 = .ok (.putfield 35, 3) := by decide +kernel
theorem d_M_init_83 : decode c_M_init 83 = .ok (.aload_n 0, 1) := by decide +kernel
theorem d_M_init_84 : decode c_M_init 84 = .ok (.bipush 8, 2) := by decide +kernel
theorem d_M_init_86 : decode c_M_init 86 = .ok (.newarray .int, 2) := by decide +kernel
theorem d_M_init_88 : decode c_M_init 88 = .ok (.putfield 38, 3) := by decide +kernel
theorem d_M_init_91 : decode c_M_init 91 = .ok (.aload_n 0, 1) := by decide +kernel
theorem d_M_init_92 : decode c_M_init 92 = .ok (.bipush 8, 2) := by decide +kernel
theorem d_M_init_94 : decode c_M_init 94 = .ok (.newarray .int, 2) := by decide +kernel
theorem d_M_init_96 : decode c_M_init 96 = .ok (.putfield 41, 3) := by decide +kernel
theorem d_M_init_99 : decode c_M_init 99 = .ok (.aload_n 0, 1) := by decide +kernel
theorem d_M_init_100 : decode c_M_init 100 = .ok (.bipush 8, 2) := by decide +kernel
theorem d_M_init_102 : decode c_M_init 102 = .ok (.newarray .int, 2) := by decide +kernel
theorem d_M_init_104 : decode c_M_init 104 = .ok (.putfield 44, 3) := by decide +kernel
theorem d_M_init_107 : decode c_M_init 107 = .ok (.aload_n 0, 1) := by decide +kernel
theorem d_M_init_108 : decode c_M_init 108 = .ok (.bipush 8, 2) := by decide +kernel
theorem d_M_init_110 : decode c_M_init 110 = .ok (.newarray .int, 2) := by decide +kernel
theorem d_M_init_112 : decode c_M_init 112 = .ok (.putfield 47, 3) := by decide +kernel
theorem d_M_init_115 : decode c_M_init 115 = .ok (.aload_n 0, 1) := by decide +kernel
theorem d_M_init_116 : decode c_M_init 116 = .ok (.bipush 8, 2) := by decide +kernel
theorem d_M_init_118 : decode c_M_init 118 = .ok (.newarray .int, 2) := by decide +kernel
theorem d_M_init_120 : decode c_M_init 120 = .ok (.putfield 50, 3) := by decide +kernel
theorem d_M_init_123 : decode c_M_init 123 = .ok (.aload_n 0, 1) := by decide +kernel
theorem d_M_init_124 : decode c_M_init 124 = .ok (.bipush 8, 2) := by decide +kernel
theorem d_M_init_126 : decode c_M_init 126 = .ok (.newarray .int, 2) := by decide +kernel
theorem d_M_init_128 : decode c_M_init 128 = .ok (.putfield 53, 3) := by decide +kernel
theorem d_M_init_131 : decode c_M_init 131 = .ok (.aload_n 0, 1) := by decide +kernel
theorem d_M_init_132 : decode c_M_init 132 = .ok (.bipush 8, 2) := by decide +kernel
theorem d_M_init_134 : decode c_M_init 134 = .ok (.newarray .int, 2) := by decide +kernel
theorem d_M_init_136 : decode c_M_init 136 = .ok (.putfield 56, 3) := by decide +kernel
theorem d_M_init_139 : decode c_M_init 139 = .ok (.iconst 0, 1) := by decide +kernel
theorem d_M_init_140 : decode c_M_init 140 = .ok (.istore_n 1, 1) := by decide +kernel
theorem d_M_init_141 : decode c_M_init 141 = .ok (.iload_n 1, 1) := by decide +kernel
theorem d_M_init_142 : decode c_M_init 142 = .ok (.bipush 8, 2) := by decide +kernel
theorem d_M_init_144 : decode c_M_init 144 = .ok (.if_icmp .ge 16, 3) := by decide +kernel
theorem d_M_init_147 : decode c_M_init 147 = .ok (.aload_n 0, 1) := by decide +kernel
theorem d_M_init_148 : decode c_M_init 148 = .ok (.getfield 41, 3) := by decide +kernel
theorem d_M_init_151 : decode c_M_init 151 = .ok (.iload_n 1, 1) := by decide +kernel
theorem d_M_init_152 : decode c_M_init 152 = .ok (.iconst (-1), 1) := by decide +kernel
theorem d_M_init_153 : decode c_M_init 153 = .ok (.iastore, 1) := by decide +kernel
theorem d_M_init_154 : decode c_M_init 154 = .ok (.iinc 1 1, 3) := by decide +kernel
theorem d_M_init_157 : decode c_M_init 157 = .ok (.goto (-16), 3) := by decide +kernel
theorem d_M_init_160 : decode c_M_init 160 = .ok (.iconst 0, 1) := by decide +kernel
theorem d_M_init_161 : decode c_M_init 161 = .ok (.istore_n 1, 1) := by decide +kernel
theorem d_M_init_162 : decode c_M_init 162 = .ok (.iload_n 1, 1) := by decide +kernel
theorem d_M_init_163 : decode c_M_init 163 = .ok (.bipush 8, 2) := by decide +kernel
theorem d_M_init_165 : decode c_M_init 165 = .ok (.if_icmp .ge 25, 3) := by decide +kernel
theorem d_M_init_168 : decode c_M_init 168 = .ok (.aload_n 0, 1) := by decide +kernel
theorem d_M_init_169 : decode c_M_init 169 = .ok (.getfield 47, 3) := by decide +kernel
theorem d_M_init_172 : decode c_M_init 172 = .ok (.iload_n 1, 1) := by decide +kernel
theorem d_M_init_173 : decode c_M_init 173 = .ok (.iconst (-1), 1) := by decide +kernel
theorem d_M_init_174 : decode c_M_init 174 = .ok (.iastore, 1) := by decide +kernel
theorem d_M_init_175 : decode c_M_init 175 = .ok (.aload_n 0, 1) := by decide +kernel
theorem d_M_init_176 : decode c_M_init 176 = .ok (.getfield 50, 3) := by decide +kernel
theorem d_M_init_179 : decode c_M_init 179 = .ok (.iload_n 1, 1) := by decide +kernel
theorem d_M_init_180 : decode c_M_init 180 = .ok (.sipush 255, 3) := by decide +kernel
theorem d_M_init_183 : decode c_M_init 183 = .ok (.iastore, 1) := by decide +kernel
theorem d_M_init_184 : decode c_M_init 184 = .ok (.iinc 1 1, 3) := by decide +kernel
theorem d_M_init_187 : decode c_M_init 187 = .ok (.goto (-25), 3) := by decide +kernel
theorem d_M_init_190 : decode c_M_init 190 = .ok (.return_, 1) := by decide +kernel
abbrev c_M_thrown : ByteArray := prog_6_method_2_code
def y_M_thrown : MethodName := ⟨"EventKeeperModel", "thrown", "()I"⟩
theorem d_M_thrown_0 : decode c_M_thrown 0 = .ok (.aload_n 0, 1) := by decide +kernel
theorem d_M_thrown_1 : decode c_M_thrown 1 = .ok (.getfield 59, 3) := by decide +kernel
theorem d_M_thrown_4 : decode c_M_thrown 4 = .ok (.ireturn, 1) := by decide +kernel
abbrev c_M_in : ByteArray := prog_6_method_3_code
def y_M_in : MethodName := ⟨"EventKeeperModel", "in", "(III)Z"⟩
theorem d_M_in_0 : decode c_M_in 0 = .ok (.iload_n 0, 1) := by decide +kernel
theorem d_M_in_1 : decode c_M_in 1 = .ok (.iload_n 1, 1) := by decide +kernel
theorem d_M_in_2 : decode c_M_in 2 = .ok (.if_icmp .lt 12, 3) := by decide +kernel
theorem d_M_in_5 : decode c_M_in 5 = .ok (.iload_n 0, 1) := by decide +kernel
theorem d_M_in_6 : decode c_M_in 6 = .ok (.iload_n 2, 1) := by decide +kernel
theorem d_M_in_7 : decode c_M_in 7 = .ok (.if_icmp .gt 7, 3) := by decide +kernel
theorem d_M_in_10 : decode c_M_in 10 = .ok (.iconst 1, 1) := by decide +kernel
theorem d_M_in_11 : decode c_M_in 11 = .ok (.goto 4, 3) := by decide +kernel
theorem d_M_in_14 : decode c_M_in 14 = .ok (.iconst 0, 1) := by decide +kernel
theorem d_M_in_15 : decode c_M_in 15 = .ok (.ireturn, 1) := by decide +kernel
abbrev c_M_fails : ByteArray := prog_6_method_4_code
def y_M_fails : MethodName := ⟨"EventKeeperModel", "fails", "(ZI)Z"⟩
theorem d_M_fails_0 : decode c_M_fails 0 = .ok (.iload_n 1, 1) := by decide +kernel
theorem d_M_fails_1 : decode c_M_fails 1 = .ok (.ifCond .eq 15, 3) := by decide +kernel
theorem d_M_fails_4 : decode c_M_fails 4 = .ok (.aload_n 0, 1) := by decide +kernel
theorem d_M_fails_5 : decode c_M_fails 5 = .ok (.getfield 59, 3) := by decide +kernel
theorem d_M_fails_8 : decode c_M_fails 8 = .ok (.ifCond .ne 8, 3) := by decide +kernel
theorem d_M_fails_11 : decode c_M_fails 11 = .ok (.aload_n 0, 1) := by decide +kernel
theorem d_M_fails_12 : decode c_M_fails 12 = .ok (.iload_n 2, 1) := by decide +kernel
theorem d_M_fails_13 : decode c_M_fails 13 = .ok (.putfield 59, 3) := by decide +kernel
theorem d_M_fails_16 : decode c_M_fails 16 = .ok (.aload_n 0, 1) := by decide +kernel
theorem d_M_fails_17 : decode c_M_fails 17 = .ok (.getfield 59, 3) := by decide +kernel
theorem d_M_fails_20 : decode c_M_fails 20 = .ok (.ifCond .eq 7, 3) := by decide +kernel
theorem d_M_fails_23 : decode c_M_fails 23 = .ok (.iconst 1, 1) := by decide +kernel
theorem d_M_fails_24 : decode c_M_fails 24 = .ok (.goto 4, 3) := by decide +kernel
theorem d_M_fails_27 : decode c_M_fails 27 = .ok (.iconst 0, 1) := by decide +kernel
theorem d_M_fails_28 : decode c_M_fails 28 = .ok (.ireturn, 1) := by decide +kernel
abbrev c_M_inStream : ByteArray := prog_6_method_5_code
def y_M_inStream : MethodName := ⟨"EventKeeperModel", "inStream", "(II)I"⟩
theorem d_M_inStream_0 : decode c_M_inStream 0 = .ok (.iconst 0, 1) := by decide +kernel
theorem d_M_inStream_1 : decode c_M_inStream 1 = .ok (.istore_n 3, 1) := by decide +kernel
theorem d_M_inStream_2 : decode c_M_inStream 2 = .ok (.iconst 0, 1) := by decide +kernel
theorem d_M_inStream_3 : decode c_M_inStream 3 = .ok (.istore 4, 2) := by decide +kernel
theorem d_M_inStream_5 : decode c_M_inStream 5 = .ok (.iload 4, 2) := by decide +kernel
theorem d_M_inStream_7 : decode c_M_inStream 7 = .ok (.iload_n 2, 1) := by decide +kernel
theorem d_M_inStream_8 : decode c_M_inStream 8 = .ok (.if_icmp .ge 23, 3) := by decide +kernel
theorem d_M_inStream_11 : decode c_M_inStream 11 = .ok (.aload_n 0, 1) := by decide +kernel
theorem d_M_inStream_12 : decode c_M_inStream 12 = .ok (.getfield 9, 3) := by decide +kernel
theorem d_M_inStream_15 : decode c_M_inStream 15 = .ok (.iload 4, 2) := by decide +kernel
theorem d_M_inStream_17 : decode c_M_inStream 17 = .ok (.iaload, 1) := by decide +kernel
theorem d_M_inStream_18 : decode c_M_inStream 18 = .ok (.iload_n 1, 1) := by decide +kernel
theorem d_M_inStream_19 : decode c_M_inStream 19 = .ok (.if_icmp .ne 6, 3) := by decide +kernel
theorem d_M_inStream_22 : decode c_M_inStream 22 = .ok (.iinc 3 1, 3) := by decide +kernel
theorem d_M_inStream_25 : decode c_M_inStream 25 = .ok (.iinc 4 1, 3) := by decide +kernel
theorem d_M_inStream_28 : decode c_M_inStream 28 = .ok (.goto (-23), 3) := by decide +kernel
theorem d_M_inStream_31 : decode c_M_inStream 31 = .ok (.iload_n 3, 1) := by decide +kernel
theorem d_M_inStream_32 : decode c_M_inStream 32 = .ok (.ireturn, 1) := by decide +kernel
abbrev c_M_put : ByteArray := prog_6_method_6_code
def y_M_put : MethodName := ⟨"EventKeeperModel", "put", "(IIJII)I"⟩
theorem d_M_put_0 : decode c_M_put 0 = .ok (.aload_n 0, 1) := by decide +kernel
theorem d_M_put_1 : decode c_M_put 1 = .ok (.getfield 9, 3) := by decide +kernel
theorem d_M_put_4 : decode c_M_put 4 = .ok (.aload_n 0, 1) := by decide +kernel
theorem d_M_put_5 : decode c_M_put 5 = .ok (.getfield 63, 3) := by decide +kernel
theorem d_M_put_8 : decode c_M_put 8 = .ok (.iload_n 1, 1) := by decide +kernel
theorem d_M_put_9 : decode c_M_put 9 = .ok (.iastore, 1) := by decide +kernel
theorem d_M_put_10 : decode c_M_put 10 = .ok (.aload_n 0, 1) := by decide +kernel
theorem d_M_put_11 : decode c_M_put 11 = .ok (.getfield 13, 3) := by decide +kernel
theorem d_M_put_14 : decode c_M_put 14 = .ok (.aload_n 0, 1) := by decide +kernel
theorem d_M_put_15 : decode c_M_put 15 = .ok (.getfield 63, 3) := by decide +kernel
theorem d_M_put_18 : decode c_M_put 18 = .ok (.iload_n 2, 1) := by decide +kernel
theorem d_M_put_19 : decode c_M_put 19 = .ok (.iastore, 1) := by decide +kernel
theorem d_M_put_20 : decode c_M_put 20 = .ok (.aload_n 0, 1) := by decide +kernel
theorem d_M_put_21 : decode c_M_put 21 = .ok (.getfield 22, 3) := by decide +kernel
theorem d_M_put_24 : decode c_M_put 24 = .ok (.aload_n 0, 1) := by decide +kernel
theorem d_M_put_25 : decode c_M_put 25 = .ok (.getfield 63, 3) := by decide +kernel
theorem d_M_put_28 : decode c_M_put 28 = .ok (.lload_n 3, 1) := by decide +kernel
theorem d_M_put_29 : decode c_M_put 29 = .ok (.lastore, 1) := by decide +kernel
theorem d_M_put_30 : decode c_M_put 30 = .ok (.aload_n 0, 1) := by decide +kernel
theorem d_M_put_31 : decode c_M_put 31 = .ok (.getfield 16, 3) := by decide +kernel
theorem d_M_put_34 : decode c_M_put 34 = .ok (.aload_n 0, 1) := by decide +kernel
theorem d_M_put_35 : decode c_M_put 35 = .ok (.getfield 63, 3) := by decide +kernel
theorem d_M_put_38 : decode c_M_put 38 = .ok (.iload 5, 2) := by decide +kernel
theorem d_M_put_40 : decode c_M_put 40 = .ok (.iastore, 1) := by decide +kernel
theorem d_M_put_41 : decode c_M_put 41 = .ok (.aload_n 0, 1) := by decide +kernel
theorem d_M_put_42 : decode c_M_put 42 = .ok (.getfield 19, 3) := by decide +kernel
theorem d_M_put_45 : decode c_M_put 45 = .ok (.aload_n 0, 1) := by decide +kernel
theorem d_M_put_46 : decode c_M_put 46 = .ok (.getfield 63, 3) := by decide +kernel
theorem d_M_put_49 : decode c_M_put 49 = .ok (.iload 6, 2) := by decide +kernel
theorem d_M_put_51 : decode c_M_put 51 = .ok (.iastore, 1) := by decide +kernel
theorem d_M_put_52 : decode c_M_put 52 = .ok (.aload_n 0, 1) := by decide +kernel
theorem d_M_put_53 : decode c_M_put 53 = .ok (.dup, 1) := by decide +kernel
theorem d_M_put_54 : decode c_M_put 54 = .ok (.getfield 63, 3) := by decide +kernel
theorem d_M_put_57 : decode c_M_put 57 = .ok (.dup_x1, 1) := by decide +kernel
theorem d_M_put_58 : decode c_M_put 58 = .ok (.iconst 1, 1) := by decide +kernel
theorem d_M_put_59 : decode c_M_put 59 = .ok (.iadd, 1) := by decide +kernel
theorem d_M_put_60 : decode c_M_put 60 = .ok (.putfield 63, 3) := by decide +kernel
theorem d_M_put_63 : decode c_M_put 63 = .ok (.ireturn, 1) := by decide +kernel
abbrev c_M_append : ByteArray := prog_6_method_7_code
def y_M_append : MethodName := ⟨"EventKeeperModel", "append", "(IIIJ)I"⟩
theorem d_M_append_0 : decode c_M_append 0 = .ok (.aload_n 0, 1) := by decide +kernel
theorem d_M_append_1 : decode c_M_append 1 = .ok (.iconst 0, 1) := by decide +kernel
theorem d_M_append_2 : decode c_M_append 2 = .ok (.putfield 59, 3) := by decide +kernel
theorem d_M_append_5 : decode c_M_append 5 = .ok (.aload_n 0, 1) := by decide +kernel
theorem d_M_append_6 : decode c_M_append 6 = .ok (.iload_n 1, 1) := by decide +kernel
theorem d_M_append_7 : decode c_M_append 7 = .ok (.iconst 0, 1) := by decide +kernel
theorem d_M_append_8 : decode c_M_append 8 = .ok (.bipush 15, 2) := by decide +kernel
theorem d_M_append_10 : decode c_M_append 10 = .ok (.invokestatic 66, 3) := by decide +kernel
theorem d_M_append_13 : decode c_M_append 13 = .ok (.ifCond .eq 18, 3) := by decide +kernel
theorem d_M_append_16 : decode c_M_append 16 = .ok (.iload_n 2, 1) := by decide +kernel
theorem d_M_append_17 : decode c_M_append 17 = .ok (.iconst (-1), 1) := by decide +kernel
theorem d_M_append_18 : decode c_M_append 18 = .ok (.if_icmp .lt 13, 3) := by decide +kernel
theorem d_M_append_21 : decode c_M_append 21 = .ok (.iload_n 3, 1) := by decide +kernel
theorem d_M_append_22 : decode c_M_append 22 = .ok (.iconst 0, 1) := by decide +kernel
theorem d_M_append_23 : decode c_M_append 23 = .ok (.bipush 7, 2) := by decide +kernel
theorem d_M_append_25 : decode c_M_append 25 = .ok (.invokestatic 66, 3) := by decide +kernel
theorem d_M_append_28 : decode c_M_append 28 = .ok (.ifCond .ne 7, 3) := by decide +kernel
theorem d_M_append_31 : decode c_M_append 31 = .ok (.iconst 1, 1) := by decide +kernel
theorem d_M_append_32 : decode c_M_append 32 = .ok (.goto 4, 3) := by decide +kernel
theorem d_M_append_35 : decode c_M_append 35 = .ok (.iconst 0, 1) := by decide +kernel
theorem d_M_append_36 : decode c_M_append 36 = .ok (.iconst 1, 1) := by decide +kernel
theorem d_M_append_37 : decode c_M_append 37 = .ok (.invokevirtual 70, 3) := by decide +kernel
theorem d_M_append_40 : decode c_M_append 40 = .ok (.ifCond .ne 56, 3) := by decide +kernel
theorem d_M_append_43 : decode c_M_append 43 = .ok (.aload_n 0, 1) := by decide +kernel
theorem d_M_append_44 : decode c_M_append 44 = .ok (.iload_n 2, 1) := by decide +kernel
theorem d_M_append_45 : decode c_M_append 45 = .ok (.ifCond .lt 20, 3) := by decide +kernel
theorem d_M_append_48 : decode c_M_append 48 = .ok (.aload_n 0, 1) := by decide +kernel
theorem d_M_append_49 : decode c_M_append 49 = .ok (.iload_n 1, 1) := by decide +kernel
theorem d_M_append_50 : decode c_M_append 50 = .ok (.aload_n 0, 1) := by decide +kernel
theorem d_M_append_51 : decode c_M_append 51 = .ok (.getfield 63, 3) := by decide +kernel
theorem d_M_append_54 : decode c_M_append 54 = .ok (.invokevirtual 74, 3) := by decide +kernel
theorem d_M_append_57 : decode c_M_append 57 = .ok (.iload_n 2, 1) := by decide +kernel
theorem d_M_append_58 : decode c_M_append 58 = .ok (.if_icmp .eq 7, 3) := by decide +kernel
theorem d_M_append_61 : decode c_M_append 61 = .ok (.iconst 1, 1) := by decide +kernel
theorem d_M_append_62 : decode c_M_append 62 = .ok (.goto 4, 3) := by decide +kernel
theorem d_M_append_65 : decode c_M_append 65 = .ok (.iconst 0, 1) := by decide +kernel
theorem d_M_append_66 : decode c_M_append 66 = .ok (.iconst 2, 1) := by decide +kernel
theorem d_M_append_67 : decode c_M_append 67 = .ok (.invokevirtual 70, 3) := by decide +kernel
theorem d_M_append_70 : decode c_M_append 70 = .ok (.ifCond .ne 26, 3) := by decide +kernel
theorem d_M_append_73 : decode c_M_append 73 = .ok (.aload_n 0, 1) := by decide +kernel
theorem d_M_append_74 : decode c_M_append 74 = .ok (.aload_n 0, 1) := by decide +kernel
theorem d_M_append_75 : decode c_M_append 75 = .ok (.getfield 63, 3) := by decide +kernel
theorem d_M_append_78 : decode c_M_append 78 = .ok (.sipush 500, 3) := by decide +kernel
theorem d_M_append_81 : decode c_M_append 81 = .ok (.if_icmp .ne 7, 3) := by decide +kernel
theorem d_M_append_84 : decode c_M_append 84 = .ok (.iconst 1, 1) := by decide +kernel
theorem d_M_append_85 : decode c_M_append 85 = .ok (.goto 4, 3) := by decide +kernel
theorem d_M_append_88 : decode c_M_append 88 = .ok (.iconst 0, 1) := by decide +kernel
theorem d_M_append_89 : decode c_M_append 89 = .ok (.iconst 3, 1) := by decide +kernel
theorem d_M_append_90 : decode c_M_append 90 = .ok (.invokevirtual 70, 3) := by decide +kernel
theorem d_M_append_93 : decode c_M_append 93 = .ok (.ifCond .eq 5, 3) := by decide +kernel
theorem d_M_append_96 : decode c_M_append 96 = .ok (.iconst 0, 1) := by decide +kernel
theorem d_M_append_97 : decode c_M_append 97 = .ok (.ireturn, 1) := by decide +kernel
theorem d_M_append_98 : decode c_M_append 98 = .ok (.aload_n 0, 1) := by decide +kernel
theorem d_M_append_99 : decode c_M_append 99 = .ok (.iload_n 1, 1) := by decide +kernel
theorem d_M_append_100 : decode c_M_append 100 = .ok (.iload_n 3, 1) := by decide +kernel
theorem d_M_append_101 : decode c_M_append 101 = .ok (.lload 4, 2) := by decide +kernel
theorem d_M_append_103 : decode c_M_append 103 = .ok (.iconst (-1), 1) := by decide +kernel
theorem d_M_append_104 : decode c_M_append 104 = .ok (.iconst (-1), 1) := by decide +kernel
theorem d_M_append_105 : decode c_M_append 105 = .ok (.invokevirtual 78, 3) := by decide +kernel
theorem d_M_append_108 : decode c_M_append 108 = .ok (.ireturn, 1) := by decide +kernel
abbrev c_M_isProjection : ByteArray := prog_6_method_8_code
def y_M_isProjection : MethodName := ⟨"EventKeeperModel", "isProjection", "(I)Z"⟩
theorem d_M_isProjection_0 : decode c_M_isProjection 0 = .ok (.iload_n 0, 1) := by decide +kernel
theorem d_M_isProjection_1 : decode c_M_isProjection 1 = .ok (.iconst 0, 1) := by decide +kernel
theorem d_M_isProjection_2 : decode c_M_isProjection 2 = .ok (.bipush 7, 2) := by decide +kernel
theorem d_M_isProjection_4 : decode c_M_isProjection 4 = .ok (.invokestatic 66, 3) := by decide +kernel
theorem d_M_isProjection_7 : decode c_M_isProjection 7 = .ok (.ireturn, 1) := by decide +kernel
abbrev c_M_begin : ByteArray := prog_6_method_9_code
def y_M_begin : MethodName := ⟨"EventKeeperModel", "begin", "(I)V"⟩
theorem d_M_begin_0 : decode c_M_begin 0 = .ok (.iconst 0, 1) := by decide +kernel
theorem d_M_begin_1 : decode c_M_begin 1 = .ok (.istore_n 2, 1) := by decide +kernel
theorem d_M_begin_2 : decode c_M_begin 2 = .ok (.iload_n 2, 1) := by decide +kernel
theorem d_M_begin_3 : decode c_M_begin 3 = .ok (.bipush 16, 2) := by decide +kernel
theorem d_M_begin_5 : decode c_M_begin 5 = .ok (.if_icmp .ge 21, 3) := by decide +kernel
theorem d_M_begin_8 : decode c_M_begin 8 = .ok (.aload_n 0, 1) := by decide +kernel
theorem d_M_begin_9 : decode c_M_begin 9 = .ok (.getfield 26, 3) := by decide +kernel
theorem d_M_begin_12 : decode c_M_begin 12 = .ok (.bipush 16, 2) := by decide +kernel
theorem d_M_begin_14 : decode c_M_begin 14 = .ok (.iload_n 1, 1) := by decide +kernel
theorem d_M_begin_15 : decode c_M_begin 15 = .ok (.imul, 1) := by decide +kernel
theorem d_M_begin_16 : decode c_M_begin 16 = .ok (.iload_n 2, 1) := by decide +kernel
theorem d_M_begin_17 : decode c_M_begin 17 = .ok (.iadd, 1) := by decide +kernel
theorem d_M_begin_18 : decode c_M_begin 18 = .ok (.lconst 0, 1) := by decide +kernel
theorem d_M_begin_19 : decode c_M_begin 19 = .ok (.lastore, 1) := by decide +kernel
theorem d_M_begin_20 : decode c_M_begin 20 = .ok (.iinc 2 1, 3) := by decide +kernel
theorem d_M_begin_23 : decode c_M_begin 23 = .ok (.goto (-21), 3) := by decide +kernel
theorem d_M_begin_26 : decode c_M_begin 26 = .ok (.aload_n 0, 1) := by decide +kernel
theorem d_M_begin_27 : decode c_M_begin 27 = .ok (.getfield 38, 3) := by decide +kernel
theorem d_M_begin_30 : decode c_M_begin 30 = .ok (.iload_n 1, 1) := by decide +kernel
theorem d_M_begin_31 : decode c_M_begin 31 = .ok (.iconst 0, 1) := by decide +kernel
theorem d_M_begin_32 : decode c_M_begin 32 = .ok (.iastore, 1) := by decide +kernel
theorem d_M_begin_33 : decode c_M_begin 33 = .ok (.aload_n 0, 1) := by decide +kernel
theorem d_M_begin_34 : decode c_M_begin 34 = .ok (.getfield 41, 3) := by decide +kernel
theorem d_M_begin_37 : decode c_M_begin 37 = .ok (.iload_n 1, 1) := by decide +kernel
theorem d_M_begin_38 : decode c_M_begin 38 = .ok (.iconst (-1), 1) := by decide +kernel
theorem d_M_begin_39 : decode c_M_begin 39 = .ok (.iastore, 1) := by decide +kernel
theorem d_M_begin_40 : decode c_M_begin 40 = .ok (.return_, 1) := by decide +kernel
abbrev c_M_rule : ByteArray := prog_6_method_10_code
def y_M_rule : MethodName := ⟨"EventKeeperModel", "rule", "(IIII)V"⟩
theorem d_M_rule_0 : decode c_M_rule 0 = .ok (.aload_n 0, 1) := by decide +kernel
theorem d_M_rule_1 : decode c_M_rule 1 = .ok (.iconst 0, 1) := by decide +kernel
theorem d_M_rule_2 : decode c_M_rule 2 = .ok (.putfield 59, 3) := by decide +kernel
theorem d_M_rule_5 : decode c_M_rule 5 = .ok (.aload_n 0, 1) := by decide +kernel
theorem d_M_rule_6 : decode c_M_rule 6 = .ok (.iload_n 1, 1) := by decide +kernel
theorem d_M_rule_7 : decode c_M_rule 7 = .ok (.invokestatic 82, 3) := by decide +kernel
theorem d_M_rule_10 : decode c_M_rule 10 = .ok (.ifCond .eq 33, 3) := by decide +kernel
theorem d_M_rule_13 : decode c_M_rule 13 = .ok (.iload_n 2, 1) := by decide +kernel
theorem d_M_rule_14 : decode c_M_rule 14 = .ok (.iconst 0, 1) := by decide +kernel
theorem d_M_rule_15 : decode c_M_rule 15 = .ok (.bipush 7, 2) := by decide +kernel
theorem d_M_rule_17 : decode c_M_rule 17 = .ok (.invokestatic 66, 3) := by decide +kernel
theorem d_M_rule_20 : decode c_M_rule 20 = .ok (.ifCond .eq 23, 3) := by decide +kernel
theorem d_M_rule_23 : decode c_M_rule 23 = .ok (.iload_n 3, 1) := by decide +kernel
theorem d_M_rule_24 : decode c_M_rule 24 = .ok (.iconst 0, 1) := by decide +kernel
theorem d_M_rule_25 : decode c_M_rule 25 = .ok (.bipush 6, 2) := by decide +kernel
theorem d_M_rule_27 : decode c_M_rule 27 = .ok (.invokestatic 66, 3) := by decide +kernel
theorem d_M_rule_30 : decode c_M_rule 30 = .ok (.ifCond .eq 13, 3) := by decide +kernel
theorem d_M_rule_33 : decode c_M_rule 33 = .ok (.iload 4, 2) := by decide +kernel
theorem d_M_rule_35 : decode c_M_rule 35 = .ok (.iconst 0, 1) := by decide +kernel
theorem d_M_rule_36 : decode c_M_rule 36 = .ok (.iconst 2, 1) := by decide +kernel
theorem d_M_rule_37 : decode c_M_rule 37 = .ok (.invokestatic 66, 3) := by decide +kernel
theorem d_M_rule_40 : decode c_M_rule 40 = .ok (.ifCond .ne 7, 3) := by decide +kernel
theorem d_M_rule_43 : decode c_M_rule 43 = .ok (.iconst 1, 1) := by decide +kernel
theorem d_M_rule_44 : decode c_M_rule 44 = .ok (.goto 4, 3) := by decide +kernel
theorem d_M_rule_47 : decode c_M_rule 47 = .ok (.iconst 0, 1) := by decide +kernel
theorem d_M_rule_48 : decode c_M_rule 48 = .ok (.iconst 1, 1) := by decide +kernel
theorem d_M_rule_49 : decode c_M_rule 49 = .ok (.invokevirtual 70, 3) := by decide +kernel
theorem d_M_rule_52 : decode c_M_rule 52 = .ok (.ifCond .eq 4, 3) := by decide +kernel
theorem d_M_rule_55 : decode c_M_rule 55 = .ok (.return_, 1) := by decide +kernel
theorem d_M_rule_56 : decode c_M_rule 56 = .ok (.aload_n 0, 1) := by decide +kernel
theorem d_M_rule_57 : decode c_M_rule 57 = .ok (.getfield 32, 3) := by decide +kernel
theorem d_M_rule_60 : decode c_M_rule 60 = .ok (.bipush 8, 2) := by decide +kernel
theorem d_M_rule_62 : decode c_M_rule 62 = .ok (.iload_n 1, 1) := by decide +kernel
theorem d_M_rule_63 : decode c_M_rule 63 = .ok (.imul, 1) := by decide +kernel
theorem d_M_rule_64 : decode c_M_rule 64 = .ok (.iload_n 2, 1) := by decide +kernel
theorem d_M_rule_65 : decode c_M_rule 65 = .ok (.iadd, 1) := by decide +kernel
theorem d_M_rule_66 : decode c_M_rule 66 = .ok (.iload_n 3, 1) := by decide +kernel
theorem d_M_rule_67 : decode c_M_rule 67 = .ok (.iastore, 1) := by decide +kernel
theorem d_M_rule_68 : decode c_M_rule 68 = .ok (.aload_n 0, 1) := by decide +kernel
theorem d_M_rule_69 : decode c_M_rule 69 = .ok (.getfield 35, 3) := by decide +kernel
theorem d_M_rule_72 : decode c_M_rule 72 = .ok (.bipush 8, 2) := by decide +kernel
theorem d_M_rule_74 : decode c_M_rule 74 = .ok (.iload_n 1, 1) := by decide +kernel
theorem d_M_rule_75 : decode c_M_rule 75 = .ok (.imul, 1) := by decide +kernel
theorem d_M_rule_76 : decode c_M_rule 76 = .ok (.iload_n 2, 1) := by decide +kernel
theorem d_M_rule_77 : decode c_M_rule 77 = .ok (.iadd, 1) := by decide +kernel
theorem d_M_rule_78 : decode c_M_rule 78 = .ok (.iload 4, 2) := by decide +kernel
theorem d_M_rule_80 : decode c_M_rule 80 = .ok (.iastore, 1) := by decide +kernel
theorem d_M_rule_81 : decode c_M_rule 81 = .ok (.aload_n 0, 1) := by decide +kernel
theorem d_M_rule_82 : decode c_M_rule 82 = .ok (.iload_n 1, 1) := by decide +kernel
theorem d_M_rule_83 : decode c_M_rule 83 = .ok (.invokevirtual 86, 3) := by decide +kernel
theorem d_M_rule_86 : decode c_M_rule 86 = .ok (.return_, 1) := by decide +kernel
abbrev c_M_advance : ByteArray := prog_6_method_11_code
def y_M_advance : MethodName := ⟨"EventKeeperModel", "advance", "(II)I"⟩
theorem d_M_advance_0 : decode c_M_advance 0 = .ok (.aload_n 0, 1) := by decide +kernel
theorem d_M_advance_1 : decode c_M_advance 1 = .ok (.iconst 0, 1) := by decide +kernel
theorem d_M_advance_2 : decode c_M_advance 2 = .ok (.putfield 59, 3) := by decide +kernel
theorem d_M_advance_5 : decode c_M_advance 5 = .ok (.aload_n 0, 1) := by decide +kernel
theorem d_M_advance_6 : decode c_M_advance 6 = .ok (.iload_n 1, 1) := by decide +kernel
theorem d_M_advance_7 : decode c_M_advance 7 = .ok (.invokestatic 82, 3) := by decide +kernel
theorem d_M_advance_10 : decode c_M_advance 10 = .ok (.ifCond .eq 14, 3) := by decide +kernel
theorem d_M_advance_13 : decode c_M_advance 13 = .ok (.iload_n 2, 1) := by decide +kernel
theorem d_M_advance_14 : decode c_M_advance 14 = .ok (.iconst 0, 1) := by decide +kernel
theorem d_M_advance_15 : decode c_M_advance 15 = .ok (.sipush 1000, 3) := by decide +kernel
theorem d_M_advance_18 : decode c_M_advance 18 = .ok (.invokestatic 66, 3) := by decide +kernel
theorem d_M_advance_21 : decode c_M_advance 21 = .ok (.ifCond .ne 7, 3) := by decide +kernel
theorem d_M_advance_24 : decode c_M_advance 24 = .ok (.iconst 1, 1) := by decide +kernel
theorem d_M_advance_25 : decode c_M_advance 25 = .ok (.goto 4, 3) := by decide +kernel
theorem d_M_advance_28 : decode c_M_advance 28 = .ok (.iconst 0, 1) := by decide +kernel
theorem d_M_advance_29 : decode c_M_advance 29 = .ok (.iconst 1, 1) := by decide +kernel
theorem d_M_advance_30 : decode c_M_advance 30 = .ok (.invokevirtual 70, 3) := by decide +kernel
theorem d_M_advance_33 : decode c_M_advance 33 = .ok (.ifCond .eq 5, 3) := by decide +kernel
theorem d_M_advance_36 : decode c_M_advance 36 = .ok (.iconst 0, 1) := by decide +kernel
theorem d_M_advance_37 : decode c_M_advance 37 = .ok (.ireturn, 1) := by decide +kernel
theorem d_M_advance_38 : decode c_M_advance 38 = .ok (.iconst 0, 1) := by decide +kernel
theorem d_M_advance_39 : decode c_M_advance 39 = .ok (.istore_n 3, 1) := by decide +kernel
theorem d_M_advance_40 : decode c_M_advance 40 = .ok (.iload_n 3, 1) := by decide +kernel
theorem d_M_advance_41 : decode c_M_advance 41 = .ok (.iload_n 2, 1) := by decide +kernel
theorem d_M_advance_42 : decode c_M_advance 42 = .ok (.if_icmp .ge 46, 3) := by decide +kernel
theorem d_M_advance_45 : decode c_M_advance 45 = .ok (.aload_n 0, 1) := by decide +kernel
theorem d_M_advance_46 : decode c_M_advance 46 = .ok (.getfield 38, 3) := by decide +kernel
theorem d_M_advance_49 : decode c_M_advance 49 = .ok (.iload_n 1, 1) := by decide +kernel
theorem d_M_advance_50 : decode c_M_advance 50 = .ok (.iaload, 1) := by decide +kernel
theorem d_M_advance_51 : decode c_M_advance 51 = .ok (.aload_n 0, 1) := by decide +kernel
theorem d_M_advance_52 : decode c_M_advance 52 = .ok (.getfield 63, 3) := by decide +kernel
theorem d_M_advance_55 : decode c_M_advance 55 = .ok (.if_icmp .ge 33, 3) := by decide +kernel
theorem d_M_advance_58 : decode c_M_advance 58 = .ok (.aload_n 0, 1) := by decide +kernel
theorem d_M_advance_59 : decode c_M_advance 59 = .ok (.iload_n 1, 1) := by decide +kernel
theorem d_M_advance_60 : decode c_M_advance 60 = .ok (.aload_n 0, 1) := by decide +kernel
theorem d_M_advance_61 : decode c_M_advance 61 = .ok (.getfield 38, 3) := by decide +kernel
theorem d_M_advance_64 : decode c_M_advance 64 = .ok (.iload_n 1, 1) := by decide +kernel
theorem d_M_advance_65 : decode c_M_advance 65 = .ok (.iaload, 1) := by decide +kernel
theorem d_M_advance_66 : decode c_M_advance 66 = .ok (.invokevirtual 90, 3) := by decide +kernel
theorem d_M_advance_69 : decode c_M_advance 69 = .ok (.ifCond .eq 19, 3) := by decide +kernel
theorem d_M_advance_72 : decode c_M_advance 72 = .ok (.aload_n 0, 1) := by decide +kernel
theorem d_M_advance_73 : decode c_M_advance 73 = .ok (.getfield 38, 3) := by decide +kernel
theorem d_M_advance_76 : decode c_M_advance 76 = .ok (.iload_n 1, 1) := by decide +kernel
theorem d_M_advance_77 : decode c_M_advance 77 = .ok (.dup2, 1) := by decide +kernel
theorem d_M_advance_78 : decode c_M_advance 78 = .ok (.iaload, 1) := by decide +kernel
theorem d_M_advance_79 : decode c_M_advance 79 = .ok (.iconst 1, 1) := by decide +kernel
theorem d_M_advance_80 : decode c_M_advance 80 = .ok (.iadd, 1) := by decide +kernel
theorem d_M_advance_81 : decode c_M_advance 81 = .ok (.iastore, 1) := by decide +kernel
theorem d_M_advance_82 : decode c_M_advance 82 = .ok (.iinc 3 1, 3) := by decide +kernel
theorem d_M_advance_85 : decode c_M_advance 85 = .ok (.goto (-45), 3) := by decide +kernel
theorem d_M_advance_88 : decode c_M_advance 88 = .ok (.iload_n 3, 1) := by decide +kernel
theorem d_M_advance_89 : decode c_M_advance 89 = .ok (.ireturn, 1) := by decide +kernel
abbrev c_M_takes : ByteArray := prog_6_method_12_code
def y_M_takes : MethodName := ⟨"EventKeeperModel", "takes", "(II)Z"⟩
theorem d_M_takes_0 : decode c_M_takes 0 = .ok (.aload_n 0, 1) := by decide +kernel
theorem d_M_takes_1 : decode c_M_takes 1 = .ok (.getfield 32, 3) := by decide +kernel
theorem d_M_takes_4 : decode c_M_takes 4 = .ok (.bipush 8, 2) := by decide +kernel
theorem d_M_takes_6 : decode c_M_takes 6 = .ok (.iload_n 1, 1) := by decide +kernel
theorem d_M_takes_7 : decode c_M_takes 7 = .ok (.imul, 1) := by decide +kernel
theorem d_M_takes_8 : decode c_M_takes 8 = .ok (.aload_n 0, 1) := by decide +kernel
theorem d_M_takes_9 : decode c_M_takes 9 = .ok (.getfield 13, 3) := by decide +kernel
theorem d_M_takes_12 : decode c_M_takes 12 = .ok (.iload_n 2, 1) := by decide +kernel
theorem d_M_takes_13 : decode c_M_takes 13 = .ok (.iaload, 1) := by decide +kernel
theorem d_M_takes_14 : decode c_M_takes 14 = .ok (.iadd, 1) := by decide +kernel
theorem d_M_takes_15 : decode c_M_takes 15 = .ok (.iaload, 1) := by decide +kernel
theorem d_M_takes_16 : decode c_M_takes 16 = .ok (.istore_n 3, 1) := by decide +kernel
theorem d_M_takes_17 : decode c_M_takes 17 = .ok (.aload_n 0, 1) := by decide +kernel
theorem d_M_takes_18 : decode c_M_takes 18 = .ok (.getfield 35, 3) := by decide +kernel
theorem d_M_takes_21 : decode c_M_takes 21 = .ok (.bipush 8, 2) := by decide +kernel
theorem d_M_takes_23 : decode c_M_takes 23 = .ok (.iload_n 1, 1) := by decide +kernel
theorem d_M_takes_24 : decode c_M_takes 24 = .ok (.imul, 1) := by decide +kernel
theorem d_M_takes_25 : decode c_M_takes 25 = .ok (.aload_n 0, 1) := by decide +kernel
theorem d_M_takes_26 : decode c_M_takes 26 = .ok (.getfield 13, 3) := by decide +kernel
theorem d_M_takes_29 : decode c_M_takes 29 = .ok (.iload_n 2, 1) := by decide +kernel
theorem d_M_takes_30 : decode c_M_takes 30 = .ok (.iaload, 1) := by decide +kernel
theorem d_M_takes_31 : decode c_M_takes 31 = .ok (.iadd, 1) := by decide +kernel
theorem d_M_takes_32 : decode c_M_takes 32 = .ok (.iaload, 1) := by decide +kernel
theorem d_M_takes_33 : decode c_M_takes 33 = .ok (.istore 4, 2) := by decide +kernel
theorem d_M_takes_35 : decode c_M_takes 35 = .ok (.bipush 16, 2) := by decide +kernel
theorem d_M_takes_37 : decode c_M_takes 37 = .ok (.iload_n 1, 1) := by decide +kernel
theorem d_M_takes_38 : decode c_M_takes 38 = .ok (.imul, 1) := by decide +kernel
theorem d_M_takes_39 : decode c_M_takes 39 = .ok (.iload 4, 2) := by decide +kernel
theorem d_M_takes_41 : decode c_M_takes 41 = .ok (.ifCond .ne 12, 3) := by decide +kernel
theorem d_M_takes_44 : decode c_M_takes 44 = .ok (.aload_n 0, 1) := by decide +kernel
theorem d_M_takes_45 : decode c_M_takes 45 = .ok (.getfield 9, 3) := by decide +kernel
theorem d_M_takes_48 : decode c_M_takes 48 = .ok (.iload_n 2, 1) := by decide +kernel
theorem d_M_takes_49 : decode c_M_takes 49 = .ok (.iaload, 1) := by decide +kernel
theorem d_M_takes_50 : decode c_M_takes 50 = .ok (.goto 23, 3) := by decide +kernel
theorem d_M_takes_53 : decode c_M_takes 53 = .ok (.iload 4, 2) := by decide +kernel
theorem d_M_takes_55 : decode c_M_takes 55 = .ok (.iconst 1, 1) := by decide +kernel
theorem d_M_takes_56 : decode c_M_takes 56 = .ok (.if_icmp .ne 16, 3) := by decide +kernel
theorem d_M_takes_59 : decode c_M_takes 59 = .ok (.aload_n 0, 1) := by decide +kernel
theorem d_M_takes_60 : decode c_M_takes 60 = .ok (.getfield 22, 3) := by decide +kernel
theorem d_M_takes_63 : decode c_M_takes 63 = .ok (.iload_n 2, 1) := by decide +kernel
theorem d_M_takes_64 : decode c_M_takes 64 = .ok (.laload, 1) := by decide +kernel
theorem d_M_takes_65 : decode c_M_takes 65 = .ok (.l2i, 1) := by decide +kernel
theorem d_M_takes_66 : decode c_M_takes 66 = .ok (.bipush 15, 2) := by decide +kernel
theorem d_M_takes_68 : decode c_M_takes 68 = .ok (.iand, 1) := by decide +kernel
theorem d_M_takes_69 : decode c_M_takes 69 = .ok (.goto 4, 3) := by decide +kernel
theorem d_M_takes_72 : decode c_M_takes 72 = .ok (.iconst 0, 1) := by decide +kernel
theorem d_M_takes_73 : decode c_M_takes 73 = .ok (.iadd, 1) := by decide +kernel
theorem d_M_takes_74 : decode c_M_takes 74 = .ok (.istore 5, 2) := by decide +kernel
theorem d_M_takes_76 : decode c_M_takes 76 = .ok (.aload_n 0, 1) := by decide +kernel
theorem d_M_takes_77 : decode c_M_takes 77 = .ok (.getfield 22, 3) := by decide +kernel
theorem d_M_takes_80 : decode c_M_takes 80 = .ok (.iload_n 2, 1) := by decide +kernel
theorem d_M_takes_81 : decode c_M_takes 81 = .ok (.laload, 1) := by decide +kernel
theorem d_M_takes_82 : decode c_M_takes 82 = .ok (.lstore 6, 2) := by decide +kernel
theorem d_M_takes_84 : decode c_M_takes 84 = .ok (.iload_n 3, 1) := by decide +kernel
theorem d_M_takes_85 : decode c_M_takes 85 = .ok (.iconst 1, 1) := by decide +kernel
theorem d_M_takes_86 : decode c_M_takes 86 = .ok (.if_icmp .ne 18, 3) := by decide +kernel
theorem d_M_takes_89 : decode c_M_takes 89 = .ok (.aload_n 0, 1) := by decide +kernel
theorem d_M_takes_90 : decode c_M_takes 90 = .ok (.getfield 26, 3) := by decide +kernel
theorem d_M_takes_93 : decode c_M_takes 93 = .ok (.iload 5, 2) := by decide +kernel
theorem d_M_takes_95 : decode c_M_takes 95 = .ok (.dup2, 1) := by decide +kernel
theorem d_M_takes_96 : decode c_M_takes 96 = .ok (.laload, 1) := by decide +kernel
theorem d_M_takes_97 : decode c_M_takes 97 = .ok (.lload 6, 2) := by decide +kernel
theorem d_M_takes_99 : decode c_M_takes 99 = .ok (.ladd, 1) := by decide +kernel
theorem d_M_takes_100 : decode c_M_takes 100 = .ok (.lastore, 1) := by decide +kernel
theorem d_M_takes_101 : decode c_M_takes 101 = .ok (.goto 250, 3) := by decide +kernel
theorem d_M_takes_104 : decode c_M_takes 104 = .ok (.iload_n 3, 1) := by decide +kernel
theorem d_M_takes_105 : decode c_M_takes 105 = .ok (.iconst 2, 1) := by decide +kernel
theorem d_M_takes_106 : decode c_M_takes 106 = .ok (.if_icmp .ne 15, 3) := by decide +kernel
theorem d_M_takes_109 : decode c_M_takes 109 = .ok (.aload_n 0, 1) := by decide +kernel
theorem d_M_takes_110 : decode c_M_takes 110 = .ok (.getfield 26, 3) := by decide +kernel
theorem d_M_takes_113 : decode c_M_takes 113 = .ok (.iload 5, 2) := by decide +kernel
theorem d_M_takes_115 : decode c_M_takes 115 = .ok (.lload 6, 2) := by decide +kernel
theorem d_M_takes_117 : decode c_M_takes 117 = .ok (.lastore, 1) := by decide +kernel
theorem d_M_takes_118 : decode c_M_takes 118 = .ok (.goto 233, 3) := by decide +kernel
theorem d_M_takes_121 : decode c_M_takes 121 = .ok (.iload_n 3, 1) := by decide +kernel
theorem d_M_takes_122 : decode c_M_takes 122 = .ok (.iconst 3, 1) := by decide +kernel
theorem d_M_takes_123 : decode c_M_takes 123 = .ok (.if_icmp .ne 17, 3) := by decide +kernel
theorem d_M_takes_126 : decode c_M_takes 126 = .ok (.aload_n 0, 1) := by decide +kernel
theorem d_M_takes_127 : decode c_M_takes 127 = .ok (.getfield 26, 3) := by decide +kernel
theorem d_M_takes_130 : decode c_M_takes 130 = .ok (.iload 5, 2) := by decide +kernel
theorem d_M_takes_132 : decode c_M_takes 132 = .ok (.dup2, 1) := by decide +kernel
theorem d_M_takes_133 : decode c_M_takes 133 = .ok (.laload, 1) := by decide +kernel
theorem d_M_takes_134 : decode c_M_takes 134 = .ok (.lconst 1, 1) := by decide +kernel
theorem d_M_takes_135 : decode c_M_takes 135 = .ok (.ladd, 1) := by decide +kernel
theorem d_M_takes_136 : decode c_M_takes 136 = .ok (.lastore, 1) := by decide +kernel
theorem d_M_takes_137 : decode c_M_takes 137 = .ok (.goto 214, 3) := by decide +kernel
theorem d_M_takes_140 : decode c_M_takes 140 = .ok (.iload_n 3, 1) := by decide +kernel
theorem d_M_takes_141 : decode c_M_takes 141 = .ok (.iconst 4, 1) := by decide +kernel
theorem d_M_takes_142 : decode c_M_takes 142 = .ok (.if_icmp .ne 38, 3) := by decide +kernel
theorem d_M_takes_145 : decode c_M_takes 145 = .ok (.aload_n 0, 1) := by decide +kernel
theorem d_M_takes_146 : decode c_M_takes 146 = .ok (.getfield 26, 3) := by decide +kernel
theorem d_M_takes_149 : decode c_M_takes 149 = .ok (.iload 5, 2) := by decide +kernel
theorem d_M_takes_151 : decode c_M_takes 151 = .ok (.aload_n 0, 1) := by decide +kernel
theorem d_M_takes_152 : decode c_M_takes 152 = .ok (.getfield 26, 3) := by decide +kernel
theorem d_M_takes_155 : decode c_M_takes 155 = .ok (.iload 5, 2) := by decide +kernel
theorem d_M_takes_157 : decode c_M_takes 157 = .ok (.laload, 1) := by decide +kernel
theorem d_M_takes_158 : decode c_M_takes 158 = .ok (.lload 6, 2) := by decide +kernel
theorem d_M_takes_160 : decode c_M_takes 160 = .ok (.lcmp, 1) := by decide +kernel
theorem d_M_takes_161 : decode c_M_takes 161 = .ok (.ifCond .le 13, 3) := by decide +kernel
theorem d_M_takes_164 : decode c_M_takes 164 = .ok (.aload_n 0, 1) := by decide +kernel
theorem d_M_takes_165 : decode c_M_takes 165 = .ok (.getfield 26, 3) := by decide +kernel
theorem d_M_takes_168 : decode c_M_takes 168 = .ok (.iload 5, 2) := by decide +kernel
theorem d_M_takes_170 : decode c_M_takes 170 = .ok (.laload, 1) := by decide +kernel
theorem d_M_takes_171 : decode c_M_takes 171 = .ok (.goto 5, 3) := by decide +kernel
theorem d_M_takes_174 : decode c_M_takes 174 = .ok (.lload 6, 2) := by decide +kernel
theorem d_M_takes_176 : decode c_M_takes 176 = .ok (.lastore, 1) := by decide +kernel
theorem d_M_takes_177 : decode c_M_takes 177 = .ok (.goto 174, 3) := by decide +kernel
theorem d_M_takes_180 : decode c_M_takes 180 = .ok (.iload_n 3, 1) := by decide +kernel
theorem d_M_takes_181 : decode c_M_takes 181 = .ok (.iconst 5, 1) := by decide +kernel
theorem d_M_takes_182 : decode c_M_takes 182 = .ok (.if_icmp .ne 38, 3) := by decide +kernel
theorem d_M_takes_185 : decode c_M_takes 185 = .ok (.aload_n 0, 1) := by decide +kernel
theorem d_M_takes_186 : decode c_M_takes 186 = .ok (.getfield 26, 3) := by decide +kernel
theorem d_M_takes_189 : decode c_M_takes 189 = .ok (.iload 5, 2) := by decide +kernel
theorem d_M_takes_191 : decode c_M_takes 191 = .ok (.aload_n 0, 1) := by decide +kernel
theorem d_M_takes_192 : decode c_M_takes 192 = .ok (.getfield 26, 3) := by decide +kernel
theorem d_M_takes_195 : decode c_M_takes 195 = .ok (.iload 5, 2) := by decide +kernel
theorem d_M_takes_197 : decode c_M_takes 197 = .ok (.laload, 1) := by decide +kernel
theorem d_M_takes_198 : decode c_M_takes 198 = .ok (.lload 6, 2) := by decide +kernel
theorem d_M_takes_200 : decode c_M_takes 200 = .ok (.lcmp, 1) := by decide +kernel
theorem d_M_takes_201 : decode c_M_takes 201 = .ok (.ifCond .ge 13, 3) := by decide +kernel
theorem d_M_takes_204 : decode c_M_takes 204 = .ok (.aload_n 0, 1) := by decide +kernel
theorem d_M_takes_205 : decode c_M_takes 205 = .ok (.getfield 26, 3) := by decide +kernel
theorem d_M_takes_208 : decode c_M_takes 208 = .ok (.iload 5, 2) := by decide +kernel
theorem d_M_takes_210 : decode c_M_takes 210 = .ok (.laload, 1) := by decide +kernel
theorem d_M_takes_211 : decode c_M_takes 211 = .ok (.goto 5, 3) := by decide +kernel
theorem d_M_takes_214 : decode c_M_takes 214 = .ok (.lload 6, 2) := by decide +kernel
theorem d_M_takes_216 : decode c_M_takes 216 = .ok (.lastore, 1) := by decide +kernel
theorem d_M_takes_217 : decode c_M_takes 217 = .ok (.goto 134, 3) := by decide +kernel
theorem d_M_takes_220 : decode c_M_takes 220 = .ok (.iload_n 3, 1) := by decide +kernel
theorem d_M_takes_221 : decode c_M_takes 221 = .ok (.bipush 6, 2) := by decide +kernel
theorem d_M_takes_223 : decode c_M_takes 223 = .ok (.if_icmp .ne 128, 3) := by decide +kernel
theorem d_M_takes_226 : decode c_M_takes 226 = .ok (.aload_n 0, 1) := by decide +kernel
theorem d_M_takes_227 : decode c_M_takes 227 = .ok (.getfield 26, 3) := by decide +kernel
theorem d_M_takes_230 : decode c_M_takes 230 = .ok (.iload 5, 2) := by decide +kernel
theorem d_M_takes_232 : decode c_M_takes 232 = .ok (.laload, 1) := by decide +kernel
theorem d_M_takes_233 : decode c_M_takes 233 = .ok (.lconst 1, 1) := by decide +kernel
theorem d_M_takes_234 : decode c_M_takes 234 = .ok (.ladd, 1) := by decide +kernel
theorem d_M_takes_235 : decode c_M_takes 235 = .ok (.lstore 8, 2) := by decide +kernel
theorem d_M_takes_237 : decode c_M_takes 237 = .ok (.lload 8, 2) := by decide +kernel
theorem d_M_takes_239 : decode c_M_takes 239 = .ok (.ldc2_w 94, 3) := by decide +kernel
theorem d_M_takes_242 : decode c_M_takes 242 = .ok (.lrem, 1) := by decide +kernel
theorem d_M_takes_243 : decode c_M_takes 243 = .ok (.lconst 0, 1) := by decide +kernel
theorem d_M_takes_244 : decode c_M_takes 244 = .ok (.lcmp, 1) := by decide +kernel
theorem d_M_takes_245 : decode c_M_takes 245 = .ok (.ifCond .ne 7, 3) := by decide +kernel
theorem d_M_takes_248 : decode c_M_takes 248 = .ok (.iconst 1, 1) := by decide +kernel
theorem d_M_takes_249 : decode c_M_takes 249 = .ok (.goto 4, 3) := by decide +kernel
theorem d_M_takes_252 : decode c_M_takes 252 = .ok (.iconst 0, 1) := by decide +kernel
theorem d_M_takes_253 : decode c_M_takes 253 = .ok (.istore 10, 2) := by decide +kernel
theorem d_M_takes_255 : decode c_M_takes 255 = .ok (.iconst 0, 1) := by decide +kernel
theorem d_M_takes_256 : decode c_M_takes 256 = .ok (.istore 11, 2) := by decide +kernel
theorem d_M_takes_258 : decode c_M_takes 258 = .ok (.iload 11, 2) := by decide +kernel
theorem d_M_takes_260 : decode c_M_takes 260 = .ok (.aload_n 0, 1) := by decide +kernel
theorem d_M_takes_261 : decode c_M_takes 261 = .ok (.getfield 63, 3) := by decide +kernel
theorem d_M_takes_264 : decode c_M_takes 264 = .ok (.if_icmp .ge 39, 3) := by decide +kernel
theorem d_M_takes_267 : decode c_M_takes 267 = .ok (.iload 10, 2) := by decide +kernel
theorem d_M_takes_269 : decode c_M_takes 269 = .ok (.ifCond .eq 34, 3) := by decide +kernel
theorem d_M_takes_272 : decode c_M_takes 272 = .ok (.aload_n 0, 1) := by decide +kernel
theorem d_M_takes_273 : decode c_M_takes 273 = .ok (.getfield 16, 3) := by decide +kernel
theorem d_M_takes_276 : decode c_M_takes 276 = .ok (.iload 11, 2) := by decide +kernel
theorem d_M_takes_278 : decode c_M_takes 278 = .ok (.iaload, 1) := by decide +kernel
theorem d_M_takes_279 : decode c_M_takes 279 = .ok (.iload_n 1, 1) := by decide +kernel
theorem d_M_takes_280 : decode c_M_takes 280 = .ok (.if_icmp .ne 17, 3) := by decide +kernel
theorem d_M_takes_283 : decode c_M_takes 283 = .ok (.aload_n 0, 1) := by decide +kernel
theorem d_M_takes_284 : decode c_M_takes 284 = .ok (.getfield 19, 3) := by decide +kernel
theorem d_M_takes_287 : decode c_M_takes 287 = .ok (.iload 11, 2) := by decide +kernel
theorem d_M_takes_289 : decode c_M_takes 289 = .ok (.iaload, 1) := by decide +kernel
theorem d_M_takes_290 : decode c_M_takes 290 = .ok (.iload_n 2, 1) := by decide +kernel
theorem d_M_takes_291 : decode c_M_takes 291 = .ok (.if_icmp .ne 6, 3) := by decide +kernel
theorem d_M_takes_294 : decode c_M_takes 294 = .ok (.iconst 0, 1) := by decide +kernel
theorem d_M_takes_295 : decode c_M_takes 295 = .ok (.istore 10, 2) := by decide +kernel
theorem d_M_takes_297 : decode c_M_takes 297 = .ok (.iinc 11 1, 3) := by decide +kernel
theorem d_M_takes_300 : decode c_M_takes 300 = .ok (.goto (-42), 3) := by decide +kernel
theorem d_M_takes_303 : decode c_M_takes 303 = .ok (.iload 10, 2) := by decide +kernel
theorem d_M_takes_305 : decode c_M_takes 305 = .ok (.ifCond .eq 15, 3) := by decide +kernel
theorem d_M_takes_308 : decode c_M_takes 308 = .ok (.aload_n 0, 1) := by decide +kernel
theorem d_M_takes_309 : decode c_M_takes 309 = .ok (.getfield 63, 3) := by decide +kernel
theorem d_M_takes_312 : decode c_M_takes 312 = .ok (.sipush 500, 3) := by decide +kernel
theorem d_M_takes_315 : decode c_M_takes 315 = .ok (.if_icmp .ne 5, 3) := by decide +kernel
theorem d_M_takes_318 : decode c_M_takes 318 = .ok (.iconst 0, 1) := by decide +kernel
theorem d_M_takes_319 : decode c_M_takes 319 = .ok (.ireturn, 1) := by decide +kernel
theorem d_M_takes_320 : decode c_M_takes 320 = .ok (.aload_n 0, 1) := by decide +kernel
theorem d_M_takes_321 : decode c_M_takes 321 = .ok (.getfield 26, 3) := by decide +kernel
theorem d_M_takes_324 : decode c_M_takes 324 = .ok (.iload 5, 2) := by decide +kernel
theorem d_M_takes_326 : decode c_M_takes 326 = .ok (.lload 8, 2) := by decide +kernel
theorem d_M_takes_328 : decode c_M_takes 328 = .ok (.lastore, 1) := by decide +kernel
theorem d_M_takes_329 : decode c_M_takes 329 = .ok (.iload 10, 2) := by decide +kernel
theorem d_M_takes_331 : decode c_M_takes 331 = .ok (.ifCond .eq 20, 3) := by decide +kernel
theorem d_M_takes_334 : decode c_M_takes 334 = .ok (.aload_n 0, 1) := by decide +kernel
theorem d_M_takes_335 : decode c_M_takes 335 = .ok (.lload 6, 2) := by decide +kernel
theorem d_M_takes_337 : decode c_M_takes 337 = .ok (.l2i, 1) := by decide +kernel
theorem d_M_takes_338 : decode c_M_takes 338 = .ok (.bipush 15, 2) := by decide +kernel
theorem d_M_takes_340 : decode c_M_takes 340 = .ok (.iand, 1) := by decide +kernel
theorem d_M_takes_341 : decode c_M_takes 341 = .ok (.bipush 7, 2) := by decide +kernel
theorem d_M_takes_343 : decode c_M_takes 343 = .ok (.lload 8, 2) := by decide +kernel
theorem d_M_takes_345 : decode c_M_takes 345 = .ok (.iload_n 1, 1) := by decide +kernel
theorem d_M_takes_346 : decode c_M_takes 346 = .ok (.iload_n 2, 1) := by decide +kernel
theorem d_M_takes_347 : decode c_M_takes 347 = .ok (.invokevirtual 78, 3) := by decide +kernel
theorem d_M_takes_350 : decode c_M_takes 350 = .ok (.pop, 1) := by decide +kernel
theorem d_M_takes_351 : decode c_M_takes 351 = .ok (.iconst 1, 1) := by decide +kernel
theorem d_M_takes_352 : decode c_M_takes 352 = .ok (.ireturn, 1) := by decide +kernel
abbrev c_M_save : ByteArray := prog_6_method_13_code
def y_M_save : MethodName := ⟨"EventKeeperModel", "save", "(I)I"⟩
theorem d_M_save_0 : decode c_M_save 0 = .ok (.aload_n 0, 1) := by decide +kernel
theorem d_M_save_1 : decode c_M_save 1 = .ok (.iconst 0, 1) := by decide +kernel
theorem d_M_save_2 : decode c_M_save 2 = .ok (.putfield 59, 3) := by decide +kernel
theorem d_M_save_5 : decode c_M_save 5 = .ok (.aload_n 0, 1) := by decide +kernel
theorem d_M_save_6 : decode c_M_save 6 = .ok (.iload_n 1, 1) := by decide +kernel
theorem d_M_save_7 : decode c_M_save 7 = .ok (.invokestatic 82, 3) := by decide +kernel
theorem d_M_save_10 : decode c_M_save 10 = .ok (.ifCond .ne 7, 3) := by decide +kernel
theorem d_M_save_13 : decode c_M_save 13 = .ok (.iconst 1, 1) := by decide +kernel
theorem d_M_save_14 : decode c_M_save 14 = .ok (.goto 4, 3) := by decide +kernel
theorem d_M_save_17 : decode c_M_save 17 = .ok (.iconst 0, 1) := by decide +kernel
theorem d_M_save_18 : decode c_M_save 18 = .ok (.iconst 1, 1) := by decide +kernel
theorem d_M_save_19 : decode c_M_save 19 = .ok (.invokevirtual 70, 3) := by decide +kernel
theorem d_M_save_22 : decode c_M_save 22 = .ok (.ifCond .eq 5, 3) := by decide +kernel
theorem d_M_save_25 : decode c_M_save 25 = .ok (.iconst 0, 1) := by decide +kernel
theorem d_M_save_26 : decode c_M_save 26 = .ok (.ireturn, 1) := by decide +kernel
theorem d_M_save_27 : decode c_M_save 27 = .ok (.iconst 0, 1) := by decide +kernel
theorem d_M_save_28 : decode c_M_save 28 = .ok (.istore_n 2, 1) := by decide +kernel
theorem d_M_save_29 : decode c_M_save 29 = .ok (.iload_n 2, 1) := by decide +kernel
theorem d_M_save_30 : decode c_M_save 30 = .ok (.bipush 16, 2) := by decide +kernel
theorem d_M_save_32 : decode c_M_save 32 = .ok (.if_icmp .ge 31, 3) := by decide +kernel
theorem d_M_save_35 : decode c_M_save 35 = .ok (.aload_n 0, 1) := by decide +kernel
theorem d_M_save_36 : decode c_M_save 36 = .ok (.getfield 29, 3) := by decide +kernel
theorem d_M_save_39 : decode c_M_save 39 = .ok (.bipush 16, 2) := by decide +kernel
theorem d_M_save_41 : decode c_M_save 41 = .ok (.iload_n 1, 1) := by decide +kernel
theorem d_M_save_42 : decode c_M_save 42 = .ok (.imul, 1) := by decide +kernel
theorem d_M_save_43 : decode c_M_save 43 = .ok (.iload_n 2, 1) := by decide +kernel
theorem d_M_save_44 : decode c_M_save 44 = .ok (.iadd, 1) := by decide +kernel
theorem d_M_save_45 : decode c_M_save 45 = .ok (.aload_n 0, 1) := by decide +kernel
theorem d_M_save_46 : decode c_M_save 46 = .ok (.getfield 26, 3) := by decide +kernel
theorem d_M_save_49 : decode c_M_save 49 = .ok (.bipush 16, 2) := by decide +kernel
theorem d_M_save_51 : decode c_M_save 51 = .ok (.iload_n 1, 1) := by decide +kernel
theorem d_M_save_52 : decode c_M_save 52 = .ok (.imul, 1) := by decide +kernel
theorem d_M_save_53 : decode c_M_save 53 = .ok (.iload_n 2, 1) := by decide +kernel
theorem d_M_save_54 : decode c_M_save 54 = .ok (.iadd, 1) := by decide +kernel
theorem d_M_save_55 : decode c_M_save 55 = .ok (.laload, 1) := by decide +kernel
theorem d_M_save_56 : decode c_M_save 56 = .ok (.lastore, 1) := by decide +kernel
theorem d_M_save_57 : decode c_M_save 57 = .ok (.iinc 2 1, 3) := by decide +kernel
theorem d_M_save_60 : decode c_M_save 60 = .ok (.goto (-31), 3) := by decide +kernel
theorem d_M_save_63 : decode c_M_save 63 = .ok (.aload_n 0, 1) := by decide +kernel
theorem d_M_save_64 : decode c_M_save 64 = .ok (.getfield 41, 3) := by decide +kernel
theorem d_M_save_67 : decode c_M_save 67 = .ok (.iload_n 1, 1) := by decide +kernel
theorem d_M_save_68 : decode c_M_save 68 = .ok (.aload_n 0, 1) := by decide +kernel
theorem d_M_save_69 : decode c_M_save 69 = .ok (.getfield 38, 3) := by decide +kernel
theorem d_M_save_72 : decode c_M_save 72 = .ok (.iload_n 1, 1) := by decide +kernel
theorem d_M_save_73 : decode c_M_save 73 = .ok (.iaload, 1) := by decide +kernel
theorem d_M_save_74 : decode c_M_save 74 = .ok (.iastore, 1) := by decide +kernel
theorem d_M_save_75 : decode c_M_save 75 = .ok (.aload_n 0, 1) := by decide +kernel
theorem d_M_save_76 : decode c_M_save 76 = .ok (.getfield 44, 3) := by decide +kernel
theorem d_M_save_79 : decode c_M_save 79 = .ok (.iload_n 1, 1) := by decide +kernel
theorem d_M_save_80 : decode c_M_save 80 = .ok (.aload_n 0, 1) := by decide +kernel
theorem d_M_save_81 : decode c_M_save 81 = .ok (.getfield 63, 3) := by decide +kernel
theorem d_M_save_84 : decode c_M_save 84 = .ok (.iastore, 1) := by decide +kernel
theorem d_M_save_85 : decode c_M_save 85 = .ok (.aload_n 0, 1) := by decide +kernel
theorem d_M_save_86 : decode c_M_save 86 = .ok (.getfield 38, 3) := by decide +kernel
theorem d_M_save_89 : decode c_M_save 89 = .ok (.iload_n 1, 1) := by decide +kernel
theorem d_M_save_90 : decode c_M_save 90 = .ok (.iaload, 1) := by decide +kernel
theorem d_M_save_91 : decode c_M_save 91 = .ok (.ireturn, 1) := by decide +kernel
abbrev c_M_cell : ByteArray := prog_6_method_14_code
def y_M_cell : MethodName := ⟨"EventKeeperModel", "cell", "(II)J"⟩
theorem d_M_cell_0 : decode c_M_cell 0 = .ok (.aload_n 0, 1) := by decide +kernel
theorem d_M_cell_1 : decode c_M_cell 1 = .ok (.iconst 0, 1) := by decide +kernel
theorem d_M_cell_2 : decode c_M_cell 2 = .ok (.putfield 59, 3) := by decide +kernel
theorem d_M_cell_5 : decode c_M_cell 5 = .ok (.aload_n 0, 1) := by decide +kernel
theorem d_M_cell_6 : decode c_M_cell 6 = .ok (.iload_n 1, 1) := by decide +kernel
theorem d_M_cell_7 : decode c_M_cell 7 = .ok (.invokestatic 82, 3) := by decide +kernel
theorem d_M_cell_10 : decode c_M_cell 10 = .ok (.ifCond .ne 7, 3) := by decide +kernel
theorem d_M_cell_13 : decode c_M_cell 13 = .ok (.iconst 1, 1) := by decide +kernel
theorem d_M_cell_14 : decode c_M_cell 14 = .ok (.goto 4, 3) := by decide +kernel
theorem d_M_cell_17 : decode c_M_cell 17 = .ok (.iconst 0, 1) := by decide +kernel
theorem d_M_cell_18 : decode c_M_cell 18 = .ok (.iconst 1, 1) := by decide +kernel
theorem d_M_cell_19 : decode c_M_cell 19 = .ok (.invokevirtual 70, 3) := by decide +kernel
theorem d_M_cell_22 : decode c_M_cell 22 = .ok (.ifCond .ne 26, 3) := by decide +kernel
theorem d_M_cell_25 : decode c_M_cell 25 = .ok (.aload_n 0, 1) := by decide +kernel
theorem d_M_cell_26 : decode c_M_cell 26 = .ok (.iload_n 2, 1) := by decide +kernel
theorem d_M_cell_27 : decode c_M_cell 27 = .ok (.iconst 0, 1) := by decide +kernel
theorem d_M_cell_28 : decode c_M_cell 28 = .ok (.bipush 15, 2) := by decide +kernel
theorem d_M_cell_30 : decode c_M_cell 30 = .ok (.invokestatic 66, 3) := by decide +kernel
theorem d_M_cell_33 : decode c_M_cell 33 = .ok (.ifCond .ne 7, 3) := by decide +kernel
theorem d_M_cell_36 : decode c_M_cell 36 = .ok (.iconst 1, 1) := by decide +kernel
theorem d_M_cell_37 : decode c_M_cell 37 = .ok (.goto 4, 3) := by decide +kernel
theorem d_M_cell_40 : decode c_M_cell 40 = .ok (.iconst 0, 1) := by decide +kernel
theorem d_M_cell_41 : decode c_M_cell 41 = .ok (.iconst 2, 1) := by decide +kernel
theorem d_M_cell_42 : decode c_M_cell 42 = .ok (.invokevirtual 70, 3) := by decide +kernel
theorem d_M_cell_45 : decode c_M_cell 45 = .ok (.ifCond .eq 7, 3) := by decide +kernel
theorem d_M_cell_48 : decode c_M_cell 48 = .ok (.lconst 0, 1) := by decide +kernel
theorem d_M_cell_49 : decode c_M_cell 49 = .ok (.goto 14, 3) := by decide +kernel
theorem d_M_cell_52 : decode c_M_cell 52 = .ok (.aload_n 0, 1) := by decide +kernel
theorem d_M_cell_53 : decode c_M_cell 53 = .ok (.getfield 26, 3) := by decide +kernel
theorem d_M_cell_56 : decode c_M_cell 56 = .ok (.bipush 16, 2) := by decide +kernel
theorem d_M_cell_58 : decode c_M_cell 58 = .ok (.iload_n 1, 1) := by decide +kernel
theorem d_M_cell_59 : decode c_M_cell 59 = .ok (.imul, 1) := by decide +kernel
theorem d_M_cell_60 : decode c_M_cell 60 = .ok (.iload_n 2, 1) := by decide +kernel
theorem d_M_cell_61 : decode c_M_cell 61 = .ok (.iadd, 1) := by decide +kernel
theorem d_M_cell_62 : decode c_M_cell 62 = .ok (.laload, 1) := by decide +kernel
theorem d_M_cell_63 : decode c_M_cell 63 = .ok (.lreturn, 1) := by decide +kernel
abbrev c_M_isSubscription : ByteArray := prog_6_method_15_code
def y_M_isSubscription : MethodName := ⟨"EventKeeperModel", "isSubscription", "(I)Z"⟩
theorem d_M_isSubscription_0 : decode c_M_isSubscription 0 = .ok (.iload_n 0, 1) := by decide +kernel
theorem d_M_isSubscription_1 : decode c_M_isSubscription 1 = .ok (.iconst 0, 1) := by decide +kernel
theorem d_M_isSubscription_2 : decode c_M_isSubscription 2 = .ok (.bipush 7, 2) := by decide +kernel
theorem d_M_isSubscription_4 : decode c_M_isSubscription 4 = .ok (.invokestatic 66, 3) := by decide +kernel
theorem d_M_isSubscription_7 : decode c_M_isSubscription 7 = .ok (.ireturn, 1) := by decide +kernel
abbrev c_M_filter : ByteArray := prog_6_method_16_code
def y_M_filter : MethodName := ⟨"EventKeeperModel", "filter", "(III)V"⟩
theorem d_M_filter_0 : decode c_M_filter 0 = .ok (.aload_n 0, 1) := by decide +kernel
theorem d_M_filter_1 : decode c_M_filter 1 = .ok (.iconst 0, 1) := by decide +kernel
theorem d_M_filter_2 : decode c_M_filter 2 = .ok (.putfield 59, 3) := by decide +kernel
theorem d_M_filter_5 : decode c_M_filter 5 = .ok (.aload_n 0, 1) := by decide +kernel
theorem d_M_filter_6 : decode c_M_filter 6 = .ok (.iload_n 1, 1) := by decide +kernel
theorem d_M_filter_7 : decode c_M_filter 7 = .ok (.invokestatic 96, 3) := by decide +kernel
theorem d_M_filter_10 : decode c_M_filter 10 = .ok (.ifCond .eq 24, 3) := by decide +kernel
theorem d_M_filter_13 : decode c_M_filter 13 = .ok (.iload_n 2, 1) := by decide +kernel
theorem d_M_filter_14 : decode c_M_filter 14 = .ok (.iconst (-1), 1) := by decide +kernel
theorem d_M_filter_15 : decode c_M_filter 15 = .ok (.bipush 15, 2) := by decide +kernel
theorem d_M_filter_17 : decode c_M_filter 17 = .ok (.invokestatic 66, 3) := by decide +kernel
theorem d_M_filter_20 : decode c_M_filter 20 = .ok (.ifCond .eq 14, 3) := by decide +kernel
theorem d_M_filter_23 : decode c_M_filter 23 = .ok (.iload_n 3, 1) := by decide +kernel
theorem d_M_filter_24 : decode c_M_filter 24 = .ok (.iconst 0, 1) := by decide +kernel
theorem d_M_filter_25 : decode c_M_filter 25 = .ok (.sipush 255, 3) := by decide +kernel
theorem d_M_filter_28 : decode c_M_filter 28 = .ok (.invokestatic 66, 3) := by decide +kernel
theorem d_M_filter_31 : decode c_M_filter 31 = .ok (.ifCond .ne 7, 3) := by decide +kernel
theorem d_M_filter_34 : decode c_M_filter 34 = .ok (.iconst 1, 1) := by decide +kernel
theorem d_M_filter_35 : decode c_M_filter 35 = .ok (.goto 4, 3) := by decide +kernel
theorem d_M_filter_38 : decode c_M_filter 38 = .ok (.iconst 0, 1) := by decide +kernel
theorem d_M_filter_39 : decode c_M_filter 39 = .ok (.iconst 1, 1) := by decide +kernel
theorem d_M_filter_40 : decode c_M_filter 40 = .ok (.invokevirtual 70, 3) := by decide +kernel
theorem d_M_filter_43 : decode c_M_filter 43 = .ok (.ifCond .eq 4, 3) := by decide +kernel
theorem d_M_filter_46 : decode c_M_filter 46 = .ok (.return_, 1) := by decide +kernel
theorem d_M_filter_47 : decode c_M_filter 47 = .ok (.aload_n 0, 1) := by decide +kernel
theorem d_M_filter_48 : decode c_M_filter 48 = .ok (.getfield 47, 3) := by decide +kernel
theorem d_M_filter_51 : decode c_M_filter 51 = .ok (.iload_n 1, 1) := by decide +kernel
theorem d_M_filter_52 : decode c_M_filter 52 = .ok (.iload_n 2, 1) := by decide +kernel
theorem d_M_filter_53 : decode c_M_filter 53 = .ok (.iastore, 1) := by decide +kernel
theorem d_M_filter_54 : decode c_M_filter 54 = .ok (.aload_n 0, 1) := by decide +kernel
theorem d_M_filter_55 : decode c_M_filter 55 = .ok (.getfield 50, 3) := by decide +kernel
theorem d_M_filter_58 : decode c_M_filter 58 = .ok (.iload_n 1, 1) := by decide +kernel
theorem d_M_filter_59 : decode c_M_filter 59 = .ok (.iload_n 3, 1) := by decide +kernel
theorem d_M_filter_60 : decode c_M_filter 60 = .ok (.iastore, 1) := by decide +kernel
theorem d_M_filter_61 : decode c_M_filter 61 = .ok (.aload_n 0, 1) := by decide +kernel
theorem d_M_filter_62 : decode c_M_filter 62 = .ok (.getfield 53, 3) := by decide +kernel
theorem d_M_filter_65 : decode c_M_filter 65 = .ok (.iload_n 1, 1) := by decide +kernel
theorem d_M_filter_66 : decode c_M_filter 66 = .ok (.iconst 0, 1) := by decide +kernel
theorem d_M_filter_67 : decode c_M_filter 67 = .ok (.iastore, 1) := by decide +kernel
theorem d_M_filter_68 : decode c_M_filter 68 = .ok (.aload_n 0, 1) := by decide +kernel
theorem d_M_filter_69 : decode c_M_filter 69 = .ok (.getfield 56, 3) := by decide +kernel
theorem d_M_filter_72 : decode c_M_filter 72 = .ok (.iload_n 1, 1) := by decide +kernel
theorem d_M_filter_73 : decode c_M_filter 73 = .ok (.iconst 0, 1) := by decide +kernel
theorem d_M_filter_74 : decode c_M_filter 74 = .ok (.iastore, 1) := by decide +kernel
theorem d_M_filter_75 : decode c_M_filter 75 = .ok (.return_, 1) := by decide +kernel
abbrev c_M_next : ByteArray := prog_6_method_17_code
def y_M_next : MethodName := ⟨"EventKeeperModel", "next", "(I)I"⟩
theorem d_M_next_0 : decode c_M_next 0 = .ok (.aload_n 0, 1) := by decide +kernel
theorem d_M_next_1 : decode c_M_next 1 = .ok (.iconst 0, 1) := by decide +kernel
theorem d_M_next_2 : decode c_M_next 2 = .ok (.putfield 59, 3) := by decide +kernel
theorem d_M_next_5 : decode c_M_next 5 = .ok (.aload_n 0, 1) := by decide +kernel
theorem d_M_next_6 : decode c_M_next 6 = .ok (.iload_n 1, 1) := by decide +kernel
theorem d_M_next_7 : decode c_M_next 7 = .ok (.invokestatic 96, 3) := by decide +kernel
theorem d_M_next_10 : decode c_M_next 10 = .ok (.ifCond .ne 7, 3) := by decide +kernel
theorem d_M_next_13 : decode c_M_next 13 = .ok (.iconst 1, 1) := by decide +kernel
theorem d_M_next_14 : decode c_M_next 14 = .ok (.goto 4, 3) := by decide +kernel
theorem d_M_next_17 : decode c_M_next 17 = .ok (.iconst 0, 1) := by decide +kernel
theorem d_M_next_18 : decode c_M_next 18 = .ok (.iconst 1, 1) := by decide +kernel
theorem d_M_next_19 : decode c_M_next 19 = .ok (.invokevirtual 70, 3) := by decide +kernel
theorem d_M_next_22 : decode c_M_next 22 = .ok (.ifCond .eq 5, 3) := by decide +kernel
theorem d_M_next_25 : decode c_M_next 25 = .ok (.iconst 0, 1) := by decide +kernel
theorem d_M_next_26 : decode c_M_next 26 = .ok (.ireturn, 1) := by decide +kernel
theorem d_M_next_27 : decode c_M_next 27 = .ok (.aload_n 0, 1) := by decide +kernel
theorem d_M_next_28 : decode c_M_next 28 = .ok (.getfield 53, 3) := by decide +kernel
theorem d_M_next_31 : decode c_M_next 31 = .ok (.iload_n 1, 1) := by decide +kernel
theorem d_M_next_32 : decode c_M_next 32 = .ok (.iaload, 1) := by decide +kernel
theorem d_M_next_33 : decode c_M_next 33 = .ok (.istore_n 2, 1) := by decide +kernel
theorem d_M_next_34 : decode c_M_next 34 = .ok (.iload_n 2, 1) := by decide +kernel
theorem d_M_next_35 : decode c_M_next 35 = .ok (.aload_n 0, 1) := by decide +kernel
theorem d_M_next_36 : decode c_M_next 36 = .ok (.getfield 63, 3) := by decide +kernel
theorem d_M_next_39 : decode c_M_next 39 = .ok (.if_icmp .ge 53, 3) := by decide +kernel
theorem d_M_next_42 : decode c_M_next 42 = .ok (.aload_n 0, 1) := by decide +kernel
theorem d_M_next_43 : decode c_M_next 43 = .ok (.getfield 47, 3) := by decide +kernel
theorem d_M_next_46 : decode c_M_next 46 = .ok (.iload_n 1, 1) := by decide +kernel
theorem d_M_next_47 : decode c_M_next 47 = .ok (.iaload, 1) := by decide +kernel
theorem d_M_next_48 : decode c_M_next 48 = .ok (.ifCond .lt 18, 3) := by decide +kernel
theorem d_M_next_51 : decode c_M_next 51 = .ok (.aload_n 0, 1) := by decide +kernel
theorem d_M_next_52 : decode c_M_next 52 = .ok (.getfield 47, 3) := by decide +kernel
theorem d_M_next_55 : decode c_M_next 55 = .ok (.iload_n 1, 1) := by decide +kernel
theorem d_M_next_56 : decode c_M_next 56 = .ok (.iaload, 1) := by decide +kernel
theorem d_M_next_57 : decode c_M_next 57 = .ok (.aload_n 0, 1) := by decide +kernel
theorem d_M_next_58 : decode c_M_next 58 = .ok (.getfield 9, 3) := by decide +kernel
theorem d_M_next_61 : decode c_M_next 61 = .ok (.iload_n 2, 1) := by decide +kernel
theorem d_M_next_62 : decode c_M_next 62 = .ok (.iaload, 1) := by decide +kernel
theorem d_M_next_63 : decode c_M_next 63 = .ok (.if_icmp .ne 23, 3) := by decide +kernel
theorem d_M_next_66 : decode c_M_next 66 = .ok (.aload_n 0, 1) := by decide +kernel
theorem d_M_next_67 : decode c_M_next 67 = .ok (.getfield 50, 3) := by decide +kernel
theorem d_M_next_70 : decode c_M_next 70 = .ok (.iload_n 1, 1) := by decide +kernel
theorem d_M_next_71 : decode c_M_next 71 = .ok (.iaload, 1) := by decide +kernel
theorem d_M_next_72 : decode c_M_next 72 = .ok (.aload_n 0, 1) := by decide +kernel
theorem d_M_next_73 : decode c_M_next 73 = .ok (.getfield 13, 3) := by decide +kernel
theorem d_M_next_76 : decode c_M_next 76 = .ok (.iload_n 2, 1) := by decide +kernel
theorem d_M_next_77 : decode c_M_next 77 = .ok (.iaload, 1) := by decide +kernel
theorem d_M_next_78 : decode c_M_next 78 = .ok (.ishr, 1) := by decide +kernel
theorem d_M_next_79 : decode c_M_next 79 = .ok (.iconst 1, 1) := by decide +kernel
theorem d_M_next_80 : decode c_M_next 80 = .ok (.iand, 1) := by decide +kernel
theorem d_M_next_81 : decode c_M_next 81 = .ok (.ifCond .eq 5, 3) := by decide +kernel
theorem d_M_next_84 : decode c_M_next 84 = .ok (.iload_n 2, 1) := by decide +kernel
theorem d_M_next_85 : decode c_M_next 85 = .ok (.ireturn, 1) := by decide +kernel
theorem d_M_next_86 : decode c_M_next 86 = .ok (.iinc 2 1, 3) := by decide +kernel
theorem d_M_next_89 : decode c_M_next 89 = .ok (.goto (-55), 3) := by decide +kernel
theorem d_M_next_92 : decode c_M_next 92 = .ok (.iconst (-1), 1) := by decide +kernel
theorem d_M_next_93 : decode c_M_next 93 = .ok (.ireturn, 1) := by decide +kernel
abbrev c_M_acknowledge : ByteArray := prog_6_method_18_code
def y_M_acknowledge : MethodName := ⟨"EventKeeperModel", "acknowledge", "(II)I"⟩
theorem d_M_acknowledge_0 : decode c_M_acknowledge 0 = .ok (.aload_n 0, 1) := by decide +kernel
theorem d_M_acknowledge_1 : decode c_M_acknowledge 1 = .ok (.iconst 0, 1) := by decide +kernel
theorem d_M_acknowledge_2 : decode c_M_acknowledge 2 = .ok (.putfield 59, 3) := by decide +kernel
theorem d_M_acknowledge_5 : decode c_M_acknowledge 5 = .ok (.aload_n 0, 1) := by decide +kernel
theorem d_M_acknowledge_6 : decode c_M_acknowledge 6 = .ok (.iload_n 1, 1) := by decide +kernel
theorem d_M_acknowledge_7 : decode c_M_acknowledge 7 = .ok (.invokestatic 96, 3) := by decide +kernel
theorem d_M_acknowledge_10 : decode c_M_acknowledge 10 = .ok (.ifCond .ne 7, 3) := by decide +kernel
theorem d_M_acknowledge_13 : decode c_M_acknowledge 13 = .ok (.iconst 1, 1) := by decide +kernel
theorem d_M_acknowledge_14 : decode c_M_acknowledge 14 = .ok (.goto 4, 3) := by decide +kernel
theorem d_M_acknowledge_17 : decode c_M_acknowledge 17 = .ok (.iconst 0, 1) := by decide +kernel
theorem d_M_acknowledge_18 : decode c_M_acknowledge 18 = .ok (.iconst 1, 1) := by decide +kernel
theorem d_M_acknowledge_19 : decode c_M_acknowledge 19 = .ok (.invokevirtual 70, 3) := by decide +kernel
theorem d_M_acknowledge_22 : decode c_M_acknowledge 22 = .ok (.ifCond .ne 30, 3) := by decide +kernel
theorem d_M_acknowledge_25 : decode c_M_acknowledge 25 = .ok (.aload_n 0, 1) := by decide +kernel
theorem d_M_acknowledge_26 : decode c_M_acknowledge 26 = .ok (.iload_n 2, 1) := by decide +kernel
theorem d_M_acknowledge_27 : decode c_M_acknowledge 27 = .ok (.iconst 0, 1) := by decide +kernel
theorem d_M_acknowledge_28 : decode c_M_acknowledge 28 = .ok (.aload_n 0, 1) := by decide +kernel
theorem d_M_acknowledge_29 : decode c_M_acknowledge 29 = .ok (.getfield 63, 3) := by decide +kernel
theorem d_M_acknowledge_32 : decode c_M_acknowledge 32 = .ok (.iconst 1, 1) := by decide +kernel
theorem d_M_acknowledge_33 : decode c_M_acknowledge 33 = .ok (.isub, 1) := by decide +kernel
theorem d_M_acknowledge_34 : decode c_M_acknowledge 34 = .ok (.invokestatic 66, 3) := by decide +kernel
theorem d_M_acknowledge_37 : decode c_M_acknowledge 37 = .ok (.ifCond .ne 7, 3) := by decide +kernel
theorem d_M_acknowledge_40 : decode c_M_acknowledge 40 = .ok (.iconst 1, 1) := by decide +kernel
theorem d_M_acknowledge_41 : decode c_M_acknowledge 41 = .ok (.goto 4, 3) := by decide +kernel
theorem d_M_acknowledge_44 : decode c_M_acknowledge 44 = .ok (.iconst 0, 1) := by decide +kernel
theorem d_M_acknowledge_45 : decode c_M_acknowledge 45 = .ok (.iconst 2, 1) := by decide +kernel
theorem d_M_acknowledge_46 : decode c_M_acknowledge 46 = .ok (.invokevirtual 70, 3) := by decide +kernel
theorem d_M_acknowledge_49 : decode c_M_acknowledge 49 = .ok (.ifCond .eq 5, 3) := by decide +kernel
theorem d_M_acknowledge_52 : decode c_M_acknowledge 52 = .ok (.iconst 0, 1) := by decide +kernel
theorem d_M_acknowledge_53 : decode c_M_acknowledge 53 = .ok (.ireturn, 1) := by decide +kernel
theorem d_M_acknowledge_54 : decode c_M_acknowledge 54 = .ok (.iload_n 2, 1) := by decide +kernel
theorem d_M_acknowledge_55 : decode c_M_acknowledge 55 = .ok (.iconst 1, 1) := by decide +kernel
theorem d_M_acknowledge_56 : decode c_M_acknowledge 56 = .ok (.iadd, 1) := by decide +kernel
theorem d_M_acknowledge_57 : decode c_M_acknowledge 57 = .ok (.aload_n 0, 1) := by decide +kernel
theorem d_M_acknowledge_58 : decode c_M_acknowledge 58 = .ok (.getfield 53, 3) := by decide +kernel
theorem d_M_acknowledge_61 : decode c_M_acknowledge 61 = .ok (.iload_n 1, 1) := by decide +kernel
theorem d_M_acknowledge_62 : decode c_M_acknowledge 62 = .ok (.iaload, 1) := by decide +kernel
theorem d_M_acknowledge_63 : decode c_M_acknowledge 63 = .ok (.if_icmp .le 12, 3) := by decide +kernel
theorem d_M_acknowledge_66 : decode c_M_acknowledge 66 = .ok (.aload_n 0, 1) := by decide +kernel
theorem d_M_acknowledge_67 : decode c_M_acknowledge 67 = .ok (.getfield 53, 3) := by decide +kernel
theorem d_M_acknowledge_70 : decode c_M_acknowledge 70 = .ok (.iload_n 1, 1) := by decide +kernel
theorem d_M_acknowledge_71 : decode c_M_acknowledge 71 = .ok (.iload_n 2, 1) := by decide +kernel
theorem d_M_acknowledge_72 : decode c_M_acknowledge 72 = .ok (.iconst 1, 1) := by decide +kernel
theorem d_M_acknowledge_73 : decode c_M_acknowledge 73 = .ok (.iadd, 1) := by decide +kernel
theorem d_M_acknowledge_74 : decode c_M_acknowledge 74 = .ok (.iastore, 1) := by decide +kernel
theorem d_M_acknowledge_75 : decode c_M_acknowledge 75 = .ok (.aload_n 0, 1) := by decide +kernel
theorem d_M_acknowledge_76 : decode c_M_acknowledge 76 = .ok (.getfield 53, 3) := by decide +kernel
theorem d_M_acknowledge_79 : decode c_M_acknowledge 79 = .ok (.iload_n 1, 1) := by decide +kernel
theorem d_M_acknowledge_80 : decode c_M_acknowledge 80 = .ok (.iaload, 1) := by decide +kernel
theorem d_M_acknowledge_81 : decode c_M_acknowledge 81 = .ok (.ireturn, 1) := by decide +kernel
abbrev c_M_sync : ByteArray := prog_6_method_19_code
def y_M_sync : MethodName := ⟨"EventKeeperModel", "sync", "()I"⟩
theorem d_M_sync_0 : decode c_M_sync 0 = .ok (.aload_n 0, 1) := by decide +kernel
theorem d_M_sync_1 : decode c_M_sync 1 = .ok (.iconst 0, 1) := by decide +kernel
theorem d_M_sync_2 : decode c_M_sync 2 = .ok (.putfield 59, 3) := by decide +kernel
theorem d_M_sync_5 : decode c_M_sync 5 = .ok (.aload_n 0, 1) := by decide +kernel
theorem d_M_sync_6 : decode c_M_sync 6 = .ok (.aload_n 0, 1) := by decide +kernel
theorem d_M_sync_7 : decode c_M_sync 7 = .ok (.getfield 63, 3) := by decide +kernel
theorem d_M_sync_10 : decode c_M_sync 10 = .ok (.putfield 99, 3) := by decide +kernel
theorem d_M_sync_13 : decode c_M_sync 13 = .ok (.iconst 0, 1) := by decide +kernel
theorem d_M_sync_14 : decode c_M_sync 14 = .ok (.istore_n 1, 1) := by decide +kernel
theorem d_M_sync_15 : decode c_M_sync 15 = .ok (.iload_n 1, 1) := by decide +kernel
theorem d_M_sync_16 : decode c_M_sync 16 = .ok (.bipush 8, 2) := by decide +kernel
theorem d_M_sync_18 : decode c_M_sync 18 = .ok (.if_icmp .ge 21, 3) := by decide +kernel
theorem d_M_sync_21 : decode c_M_sync 21 = .ok (.aload_n 0, 1) := by decide +kernel
theorem d_M_sync_22 : decode c_M_sync 22 = .ok (.getfield 56, 3) := by decide +kernel
theorem d_M_sync_25 : decode c_M_sync 25 = .ok (.iload_n 1, 1) := by decide +kernel
theorem d_M_sync_26 : decode c_M_sync 26 = .ok (.aload_n 0, 1) := by decide +kernel
theorem d_M_sync_27 : decode c_M_sync 27 = .ok (.getfield 53, 3) := by decide +kernel
theorem d_M_sync_30 : decode c_M_sync 30 = .ok (.iload_n 1, 1) := by decide +kernel
theorem d_M_sync_31 : decode c_M_sync 31 = .ok (.iaload, 1) := by decide +kernel
theorem d_M_sync_32 : decode c_M_sync 32 = .ok (.iastore, 1) := by decide +kernel
theorem d_M_sync_33 : decode c_M_sync 33 = .ok (.iinc 1 1, 3) := by decide +kernel
theorem d_M_sync_36 : decode c_M_sync 36 = .ok (.goto (-21), 3) := by decide +kernel
theorem d_M_sync_39 : decode c_M_sync 39 = .ok (.aload_n 0, 1) := by decide +kernel
theorem d_M_sync_40 : decode c_M_sync 40 = .ok (.getfield 63, 3) := by decide +kernel
theorem d_M_sync_43 : decode c_M_sync 43 = .ok (.ireturn, 1) := by decide +kernel
abbrev c_M_crash : ByteArray := prog_6_method_20_code
def y_M_crash : MethodName := ⟨"EventKeeperModel", "crash", "()I"⟩
theorem d_M_crash_0 : decode c_M_crash 0 = .ok (.aload_n 0, 1) := by decide +kernel
theorem d_M_crash_1 : decode c_M_crash 1 = .ok (.iconst 0, 1) := by decide +kernel
theorem d_M_crash_2 : decode c_M_crash 2 = .ok (.putfield 59, 3) := by decide +kernel
theorem d_M_crash_5 : decode c_M_crash 5 = .ok (.aload_n 0, 1) := by decide +kernel
theorem d_M_crash_6 : decode c_M_crash 6 = .ok (.aload_n 0, 1) := by decide +kernel
theorem d_M_crash_7 : decode c_M_crash 7 = .ok (.getfield 99, 3) := by decide +kernel
theorem d_M_crash_10 : decode c_M_crash 10 = .ok (.putfield 63, 3) := by decide +kernel
theorem d_M_crash_13 : decode c_M_crash 13 = .ok (.iconst 0, 1) := by decide +kernel
theorem d_M_crash_14 : decode c_M_crash 14 = .ok (.istore_n 1, 1) := by decide +kernel
theorem d_M_crash_15 : decode c_M_crash 15 = .ok (.iload_n 1, 1) := by decide +kernel
theorem d_M_crash_16 : decode c_M_crash 16 = .ok (.bipush 8, 2) := by decide +kernel
theorem d_M_crash_18 : decode c_M_crash 18 = .ok (.if_icmp .ge 87, 3) := by decide +kernel
theorem d_M_crash_21 : decode c_M_crash 21 = .ok (.aload_n 0, 1) := by decide +kernel
theorem d_M_crash_22 : decode c_M_crash 22 = .ok (.getfield 41, 3) := by decide +kernel
theorem d_M_crash_25 : decode c_M_crash 25 = .ok (.iload_n 1, 1) := by decide +kernel
theorem d_M_crash_26 : decode c_M_crash 26 = .ok (.iaload, 1) := by decide +kernel
theorem d_M_crash_27 : decode c_M_crash 27 = .ok (.ifCond .lt 16, 3) := by decide +kernel
theorem d_M_crash_30 : decode c_M_crash 30 = .ok (.aload_n 0, 1) := by decide +kernel
theorem d_M_crash_31 : decode c_M_crash 31 = .ok (.getfield 44, 3) := by decide +kernel
theorem d_M_crash_34 : decode c_M_crash 34 = .ok (.iload_n 1, 1) := by decide +kernel
theorem d_M_crash_35 : decode c_M_crash 35 = .ok (.iaload, 1) := by decide +kernel
theorem d_M_crash_36 : decode c_M_crash 36 = .ok (.aload_n 0, 1) := by decide +kernel
theorem d_M_crash_37 : decode c_M_crash 37 = .ok (.getfield 63, 3) := by decide +kernel
theorem d_M_crash_40 : decode c_M_crash 40 = .ok (.if_icmp .le 11, 3) := by decide +kernel
theorem d_M_crash_43 : decode c_M_crash 43 = .ok (.aload_n 0, 1) := by decide +kernel
theorem d_M_crash_44 : decode c_M_crash 44 = .ok (.iload_n 1, 1) := by decide +kernel
theorem d_M_crash_45 : decode c_M_crash 45 = .ok (.invokevirtual 86, 3) := by decide +kernel
theorem d_M_crash_48 : decode c_M_crash 48 = .ok (.goto 51, 3) := by decide +kernel
theorem d_M_crash_51 : decode c_M_crash 51 = .ok (.iconst 0, 1) := by decide +kernel
theorem d_M_crash_52 : decode c_M_crash 52 = .ok (.istore_n 2, 1) := by decide +kernel
theorem d_M_crash_53 : decode c_M_crash 53 = .ok (.iload_n 2, 1) := by decide +kernel
theorem d_M_crash_54 : decode c_M_crash 54 = .ok (.bipush 16, 2) := by decide +kernel
theorem d_M_crash_56 : decode c_M_crash 56 = .ok (.if_icmp .ge 31, 3) := by decide +kernel
theorem d_M_crash_59 : decode c_M_crash 59 = .ok (.aload_n 0, 1) := by decide +kernel
theorem d_M_crash_60 : decode c_M_crash 60 = .ok (.getfield 26, 3) := by decide +kernel
theorem d_M_crash_63 : decode c_M_crash 63 = .ok (.bipush 16, 2) := by decide +kernel
theorem d_M_crash_65 : decode c_M_crash 65 = .ok (.iload_n 1, 1) := by decide +kernel
theorem d_M_crash_66 : decode c_M_crash 66 = .ok (.imul, 1) := by decide +kernel
theorem d_M_crash_67 : decode c_M_crash 67 = .ok (.iload_n 2, 1) := by decide +kernel
theorem d_M_crash_68 : decode c_M_crash 68 = .ok (.iadd, 1) := by decide +kernel
theorem d_M_crash_69 : decode c_M_crash 69 = .ok (.aload_n 0, 1) := by decide +kernel
theorem d_M_crash_70 : decode c_M_crash 70 = .ok (.getfield 29, 3) := by decide +kernel
theorem d_M_crash_73 : decode c_M_crash 73 = .ok (.bipush 16, 2) := by decide +kernel
theorem d_M_crash_75 : decode c_M_crash 75 = .ok (.iload_n 1, 1) := by decide +kernel
theorem d_M_crash_76 : decode c_M_crash 76 = .ok (.imul, 1) := by decide +kernel
theorem d_M_crash_77 : decode c_M_crash 77 = .ok (.iload_n 2, 1) := by decide +kernel
theorem d_M_crash_78 : decode c_M_crash 78 = .ok (.iadd, 1) := by decide +kernel
theorem d_M_crash_79 : decode c_M_crash 79 = .ok (.laload, 1) := by decide +kernel
theorem d_M_crash_80 : decode c_M_crash 80 = .ok (.lastore, 1) := by decide +kernel
theorem d_M_crash_81 : decode c_M_crash 81 = .ok (.iinc 2 1, 3) := by decide +kernel
theorem d_M_crash_84 : decode c_M_crash 84 = .ok (.goto (-31), 3) := by decide +kernel
theorem d_M_crash_87 : decode c_M_crash 87 = .ok (.aload_n 0, 1) := by decide +kernel
theorem d_M_crash_88 : decode c_M_crash 88 = .ok (.getfield 38, 3) := by decide +kernel
theorem d_M_crash_91 : decode c_M_crash 91 = .ok (.iload_n 1, 1) := by decide +kernel
theorem d_M_crash_92 : decode c_M_crash 92 = .ok (.aload_n 0, 1) := by decide +kernel
theorem d_M_crash_93 : decode c_M_crash 93 = .ok (.getfield 41, 3) := by decide +kernel
theorem d_M_crash_96 : decode c_M_crash 96 = .ok (.iload_n 1, 1) := by decide +kernel
theorem d_M_crash_97 : decode c_M_crash 97 = .ok (.iaload, 1) := by decide +kernel
theorem d_M_crash_98 : decode c_M_crash 98 = .ok (.iastore, 1) := by decide +kernel
theorem d_M_crash_99 : decode c_M_crash 99 = .ok (.iinc 1 1, 3) := by decide +kernel
theorem d_M_crash_102 : decode c_M_crash 102 = .ok (.goto (-87), 3) := by decide +kernel
theorem d_M_crash_105 : decode c_M_crash 105 = .ok (.iconst 0, 1) := by decide +kernel
theorem d_M_crash_106 : decode c_M_crash 106 = .ok (.istore_n 1, 1) := by decide +kernel
theorem d_M_crash_107 : decode c_M_crash 107 = .ok (.iload_n 1, 1) := by decide +kernel
theorem d_M_crash_108 : decode c_M_crash 108 = .ok (.bipush 8, 2) := by decide +kernel
theorem d_M_crash_110 : decode c_M_crash 110 = .ok (.if_icmp .ge 41, 3) := by decide +kernel
theorem d_M_crash_113 : decode c_M_crash 113 = .ok (.aload_n 0, 1) := by decide +kernel
theorem d_M_crash_114 : decode c_M_crash 114 = .ok (.getfield 53, 3) := by decide +kernel
theorem d_M_crash_117 : decode c_M_crash 117 = .ok (.iload_n 1, 1) := by decide +kernel
theorem d_M_crash_118 : decode c_M_crash 118 = .ok (.aload_n 0, 1) := by decide +kernel
theorem d_M_crash_119 : decode c_M_crash 119 = .ok (.getfield 56, 3) := by decide +kernel
theorem d_M_crash_122 : decode c_M_crash 122 = .ok (.iload_n 1, 1) := by decide +kernel
theorem d_M_crash_123 : decode c_M_crash 123 = .ok (.iaload, 1) := by decide +kernel
theorem d_M_crash_124 : decode c_M_crash 124 = .ok (.aload_n 0, 1) := by decide +kernel
theorem d_M_crash_125 : decode c_M_crash 125 = .ok (.getfield 63, 3) := by decide +kernel
theorem d_M_crash_128 : decode c_M_crash 128 = .ok (.if_icmp .ge 12, 3) := by decide +kernel
theorem d_M_crash_131 : decode c_M_crash 131 = .ok (.aload_n 0, 1) := by decide +kernel
theorem d_M_crash_132 : decode c_M_crash 132 = .ok (.getfield 56, 3) := by decide +kernel
theorem d_M_crash_135 : decode c_M_crash 135 = .ok (.iload_n 1, 1) := by decide +kernel
theorem d_M_crash_136 : decode c_M_crash 136 = .ok (.iaload, 1) := by decide +kernel
theorem d_M_crash_137 : decode c_M_crash 137 = .ok (.goto 7, 3) := by decide +kernel
theorem d_M_crash_140 : decode c_M_crash 140 = .ok (.aload_n 0, 1) := by decide +kernel
theorem d_M_crash_141 : decode c_M_crash 141 = .ok (.getfield 63, 3) := by decide +kernel
theorem d_M_crash_144 : decode c_M_crash 144 = .ok (.iastore, 1) := by decide +kernel
theorem d_M_crash_145 : decode c_M_crash 145 = .ok (.iinc 1 1, 3) := by decide +kernel
theorem d_M_crash_148 : decode c_M_crash 148 = .ok (.goto (-41), 3) := by decide +kernel
theorem d_M_crash_151 : decode c_M_crash 151 = .ok (.aload_n 0, 1) := by decide +kernel
theorem d_M_crash_152 : decode c_M_crash 152 = .ok (.getfield 63, 3) := by decide +kernel
theorem d_M_crash_155 : decode c_M_crash 155 = .ok (.ireturn, 1) := by decide +kernel
abbrev c_M_isNone : ByteArray := prog_6_method_21_code
def y_M_isNone : MethodName := ⟨"EventKeeperModel", "isNone", "(I)Z"⟩
theorem d_M_isNone_0 : decode c_M_isNone 0 = .ok (.iload_n 1, 1) := by decide +kernel
theorem d_M_isNone_1 : decode c_M_isNone 1 = .ok (.iconst 0, 1) := by decide +kernel
theorem d_M_isNone_2 : decode c_M_isNone 2 = .ok (.aload_n 0, 1) := by decide +kernel
theorem d_M_isNone_3 : decode c_M_isNone 3 = .ok (.getfield 63, 3) := by decide +kernel
theorem d_M_isNone_6 : decode c_M_isNone 6 = .ok (.iconst 1, 1) := by decide +kernel
theorem d_M_isNone_7 : decode c_M_isNone 7 = .ok (.isub, 1) := by decide +kernel
theorem d_M_isNone_8 : decode c_M_isNone 8 = .ok (.invokestatic 66, 3) := by decide +kernel
theorem d_M_isNone_11 : decode c_M_isNone 11 = .ok (.ifCond .ne 7, 3) := by decide +kernel
theorem d_M_isNone_14 : decode c_M_isNone 14 = .ok (.iconst 1, 1) := by decide +kernel
theorem d_M_isNone_15 : decode c_M_isNone 15 = .ok (.goto 4, 3) := by decide +kernel
theorem d_M_isNone_18 : decode c_M_isNone 18 = .ok (.iconst 0, 1) := by decide +kernel
theorem d_M_isNone_19 : decode c_M_isNone 19 = .ok (.ireturn, 1) := by decide +kernel
abbrev c_M_event : ByteArray := prog_6_method_22_code
def y_M_event : MethodName := ⟨"EventKeeperModel", "event", "(II)I"⟩
theorem d_M_event_0 : decode c_M_event 0 = .ok (.aload_n 0, 1) := by decide +kernel
theorem d_M_event_1 : decode c_M_event 1 = .ok (.iconst 0, 1) := by decide +kernel
theorem d_M_event_2 : decode c_M_event 2 = .ok (.putfield 59, 3) := by decide +kernel
theorem d_M_event_5 : decode c_M_event 5 = .ok (.aload_n 0, 1) := by decide +kernel
theorem d_M_event_6 : decode c_M_event 6 = .ok (.iload_n 2, 1) := by decide +kernel
theorem d_M_event_7 : decode c_M_event 7 = .ok (.iconst 0, 1) := by decide +kernel
theorem d_M_event_8 : decode c_M_event 8 = .ok (.iconst 4, 1) := by decide +kernel
theorem d_M_event_9 : decode c_M_event 9 = .ok (.invokestatic 66, 3) := by decide +kernel
theorem d_M_event_12 : decode c_M_event 12 = .ok (.ifCond .ne 7, 3) := by decide +kernel
theorem d_M_event_15 : decode c_M_event 15 = .ok (.iconst 1, 1) := by decide +kernel
theorem d_M_event_16 : decode c_M_event 16 = .ok (.goto 4, 3) := by decide +kernel
theorem d_M_event_19 : decode c_M_event 19 = .ok (.iconst 0, 1) := by decide +kernel
theorem d_M_event_20 : decode c_M_event 20 = .ok (.iconst 1, 1) := by decide +kernel
theorem d_M_event_21 : decode c_M_event 21 = .ok (.invokevirtual 70, 3) := by decide +kernel
theorem d_M_event_24 : decode c_M_event 24 = .ok (.ifCond .ne 16, 3) := by decide +kernel
theorem d_M_event_27 : decode c_M_event 27 = .ok (.aload_n 0, 1) := by decide +kernel
theorem d_M_event_28 : decode c_M_event 28 = .ok (.aload_n 0, 1) := by decide +kernel
theorem d_M_event_29 : decode c_M_event 29 = .ok (.iload_n 1, 1) := by decide +kernel
theorem d_M_event_30 : decode c_M_event 30 = .ok (.invokevirtual 102, 3) := by decide +kernel
theorem d_M_event_33 : decode c_M_event 33 = .ok (.iconst 2, 1) := by decide +kernel
theorem d_M_event_34 : decode c_M_event 34 = .ok (.invokevirtual 70, 3) := by decide +kernel
theorem d_M_event_37 : decode c_M_event 37 = .ok (.ifCond .eq 5, 3) := by decide +kernel
theorem d_M_event_40 : decode c_M_event 40 = .ok (.iconst 0, 1) := by decide +kernel
theorem d_M_event_41 : decode c_M_event 41 = .ok (.ireturn, 1) := by decide +kernel
theorem d_M_event_42 : decode c_M_event 42 = .ok (.iload_n 2, 1) := by decide +kernel
theorem d_M_event_43 : decode c_M_event 43 = .ok (.ifCond .ne 12, 3) := by decide +kernel
theorem d_M_event_46 : decode c_M_event 46 = .ok (.aload_n 0, 1) := by decide +kernel
theorem d_M_event_47 : decode c_M_event 47 = .ok (.getfield 9, 3) := by decide +kernel
theorem d_M_event_50 : decode c_M_event 50 = .ok (.iload_n 1, 1) := by decide +kernel
theorem d_M_event_51 : decode c_M_event 51 = .ok (.iaload, 1) := by decide +kernel
theorem d_M_event_52 : decode c_M_event 52 = .ok (.goto 56, 3) := by decide +kernel
theorem d_M_event_55 : decode c_M_event 55 = .ok (.iload_n 2, 1) := by decide +kernel
theorem d_M_event_56 : decode c_M_event 56 = .ok (.iconst 1, 1) := by decide +kernel
theorem d_M_event_57 : decode c_M_event 57 = .ok (.if_icmp .ne 17, 3) := by decide +kernel
theorem d_M_event_60 : decode c_M_event 60 = .ok (.aload_n 0, 1) := by decide +kernel
theorem d_M_event_61 : decode c_M_event 61 = .ok (.aload_n 0, 1) := by decide +kernel
theorem d_M_event_62 : decode c_M_event 62 = .ok (.getfield 9, 3) := by decide +kernel
theorem d_M_event_65 : decode c_M_event 65 = .ok (.iload_n 1, 1) := by decide +kernel
theorem d_M_event_66 : decode c_M_event 66 = .ok (.iaload, 1) := by decide +kernel
theorem d_M_event_67 : decode c_M_event 67 = .ok (.iload_n 1, 1) := by decide +kernel
theorem d_M_event_68 : decode c_M_event 68 = .ok (.invokevirtual 74, 3) := by decide +kernel
theorem d_M_event_71 : decode c_M_event 71 = .ok (.goto 37, 3) := by decide +kernel
theorem d_M_event_74 : decode c_M_event 74 = .ok (.iload_n 2, 1) := by decide +kernel
theorem d_M_event_75 : decode c_M_event 75 = .ok (.iconst 2, 1) := by decide +kernel
theorem d_M_event_76 : decode c_M_event 76 = .ok (.if_icmp .ne 12, 3) := by decide +kernel
theorem d_M_event_79 : decode c_M_event 79 = .ok (.aload_n 0, 1) := by decide +kernel
theorem d_M_event_80 : decode c_M_event 80 = .ok (.getfield 13, 3) := by decide +kernel
theorem d_M_event_83 : decode c_M_event 83 = .ok (.iload_n 1, 1) := by decide +kernel
theorem d_M_event_84 : decode c_M_event 84 = .ok (.iaload, 1) := by decide +kernel
theorem d_M_event_85 : decode c_M_event 85 = .ok (.goto 23, 3) := by decide +kernel
theorem d_M_event_88 : decode c_M_event 88 = .ok (.iload_n 2, 1) := by decide +kernel
theorem d_M_event_89 : decode c_M_event 89 = .ok (.iconst 3, 1) := by decide +kernel
theorem d_M_event_90 : decode c_M_event 90 = .ok (.if_icmp .ne 12, 3) := by decide +kernel
theorem d_M_event_93 : decode c_M_event 93 = .ok (.aload_n 0, 1) := by decide +kernel
theorem d_M_event_94 : decode c_M_event 94 = .ok (.getfield 16, 3) := by decide +kernel
theorem d_M_event_97 : decode c_M_event 97 = .ok (.iload_n 1, 1) := by decide +kernel
theorem d_M_event_98 : decode c_M_event 98 = .ok (.iaload, 1) := by decide +kernel
theorem d_M_event_99 : decode c_M_event 99 = .ok (.goto 9, 3) := by decide +kernel
theorem d_M_event_102 : decode c_M_event 102 = .ok (.aload_n 0, 1) := by decide +kernel
theorem d_M_event_103 : decode c_M_event 103 = .ok (.getfield 19, 3) := by decide +kernel
theorem d_M_event_106 : decode c_M_event 106 = .ok (.iload_n 1, 1) := by decide +kernel
theorem d_M_event_107 : decode c_M_event 107 = .ok (.iaload, 1) := by decide +kernel
theorem d_M_event_108 : decode c_M_event 108 = .ok (.ireturn, 1) := by decide +kernel
abbrev c_M_value : ByteArray := prog_6_method_23_code
def y_M_value : MethodName := ⟨"EventKeeperModel", "value", "(I)J"⟩
theorem d_M_value_0 : decode c_M_value 0 = .ok (.aload_n 0, 1) := by decide +kernel
theorem d_M_value_1 : decode c_M_value 1 = .ok (.iconst 0, 1) := by decide +kernel
theorem d_M_value_2 : decode c_M_value 2 = .ok (.putfield 59, 3) := by decide +kernel
theorem d_M_value_5 : decode c_M_value 5 = .ok (.aload_n 0, 1) := by decide +kernel
theorem d_M_value_6 : decode c_M_value 6 = .ok (.aload_n 0, 1) := by decide +kernel
theorem d_M_value_7 : decode c_M_value 7 = .ok (.iload_n 1, 1) := by decide +kernel
theorem d_M_value_8 : decode c_M_value 8 = .ok (.invokevirtual 102, 3) := by decide +kernel
theorem d_M_value_11 : decode c_M_value 11 = .ok (.iconst 1, 1) := by decide +kernel
theorem d_M_value_12 : decode c_M_value 12 = .ok (.invokevirtual 70, 3) := by decide +kernel
theorem d_M_value_15 : decode c_M_value 15 = .ok (.ifCond .eq 7, 3) := by decide +kernel
theorem d_M_value_18 : decode c_M_value 18 = .ok (.lconst 0, 1) := by decide +kernel
theorem d_M_value_19 : decode c_M_value 19 = .ok (.goto 9, 3) := by decide +kernel
theorem d_M_value_22 : decode c_M_value 22 = .ok (.aload_n 0, 1) := by decide +kernel
theorem d_M_value_23 : decode c_M_value 23 = .ok (.getfield 22, 3) := by decide +kernel
theorem d_M_value_26 : decode c_M_value 26 = .ok (.iload_n 1, 1) := by decide +kernel
theorem d_M_value_27 : decode c_M_value 27 = .ok (.laload, 1) := by decide +kernel
theorem d_M_value_28 : decode c_M_value 28 = .ok (.lreturn, 1) := by decide +kernel
abbrev c_M_find : ByteArray := prog_6_method_24_code
def y_M_find : MethodName := ⟨"EventKeeperModel", "find", "(II)I"⟩
theorem d_M_find_0 : decode c_M_find 0 = .ok (.aload_n 0, 1) := by decide +kernel
theorem d_M_find_1 : decode c_M_find 1 = .ok (.iconst 0, 1) := by decide +kernel
theorem d_M_find_2 : decode c_M_find 2 = .ok (.putfield 59, 3) := by decide +kernel
theorem d_M_find_5 : decode c_M_find 5 = .ok (.aload_n 0, 1) := by decide +kernel
theorem d_M_find_6 : decode c_M_find 6 = .ok (.iload_n 1, 1) := by decide +kernel
theorem d_M_find_7 : decode c_M_find 7 = .ok (.iconst 0, 1) := by decide +kernel
theorem d_M_find_8 : decode c_M_find 8 = .ok (.bipush 15, 2) := by decide +kernel
theorem d_M_find_10 : decode c_M_find 10 = .ok (.invokestatic 66, 3) := by decide +kernel
theorem d_M_find_13 : decode c_M_find 13 = .ok (.ifCond .ne 7, 3) := by decide +kernel
theorem d_M_find_16 : decode c_M_find 16 = .ok (.iconst 1, 1) := by decide +kernel
theorem d_M_find_17 : decode c_M_find 17 = .ok (.goto 4, 3) := by decide +kernel
theorem d_M_find_20 : decode c_M_find 20 = .ok (.iconst 0, 1) := by decide +kernel
theorem d_M_find_21 : decode c_M_find 21 = .ok (.iconst 1, 1) := by decide +kernel
theorem d_M_find_22 : decode c_M_find 22 = .ok (.invokevirtual 70, 3) := by decide +kernel
theorem d_M_find_25 : decode c_M_find 25 = .ok (.ifCond .eq 5, 3) := by decide +kernel
theorem d_M_find_28 : decode c_M_find 28 = .ok (.iconst 0, 1) := by decide +kernel
theorem d_M_find_29 : decode c_M_find 29 = .ok (.ireturn, 1) := by decide +kernel
theorem d_M_find_30 : decode c_M_find 30 = .ok (.iconst 0, 1) := by decide +kernel
theorem d_M_find_31 : decode c_M_find 31 = .ok (.istore_n 3, 1) := by decide +kernel
theorem d_M_find_32 : decode c_M_find 32 = .ok (.iload_n 3, 1) := by decide +kernel
theorem d_M_find_33 : decode c_M_find 33 = .ok (.aload_n 0, 1) := by decide +kernel
theorem d_M_find_34 : decode c_M_find 34 = .ok (.getfield 63, 3) := by decide +kernel
theorem d_M_find_37 : decode c_M_find 37 = .ok (.if_icmp .ge 31, 3) := by decide +kernel
theorem d_M_find_40 : decode c_M_find 40 = .ok (.aload_n 0, 1) := by decide +kernel
theorem d_M_find_41 : decode c_M_find 41 = .ok (.getfield 9, 3) := by decide +kernel
theorem d_M_find_44 : decode c_M_find 44 = .ok (.iload_n 3, 1) := by decide +kernel
theorem d_M_find_45 : decode c_M_find 45 = .ok (.iaload, 1) := by decide +kernel
theorem d_M_find_46 : decode c_M_find 46 = .ok (.iload_n 1, 1) := by decide +kernel
theorem d_M_find_47 : decode c_M_find 47 = .ok (.if_icmp .ne 15, 3) := by decide +kernel
theorem d_M_find_50 : decode c_M_find 50 = .ok (.aload_n 0, 1) := by decide +kernel
theorem d_M_find_51 : decode c_M_find 51 = .ok (.iload_n 1, 1) := by decide +kernel
theorem d_M_find_52 : decode c_M_find 52 = .ok (.iload_n 3, 1) := by decide +kernel
theorem d_M_find_53 : decode c_M_find 53 = .ok (.invokevirtual 74, 3) := by decide +kernel
theorem d_M_find_56 : decode c_M_find 56 = .ok (.iload_n 2, 1) := by decide +kernel
theorem d_M_find_57 : decode c_M_find 57 = .ok (.if_icmp .ne 5, 3) := by decide +kernel
theorem d_M_find_60 : decode c_M_find 60 = .ok (.iload_n 3, 1) := by decide +kernel
theorem d_M_find_61 : decode c_M_find 61 = .ok (.ireturn, 1) := by decide +kernel
theorem d_M_find_62 : decode c_M_find 62 = .ok (.iinc 3 1, 3) := by decide +kernel
theorem d_M_find_65 : decode c_M_find 65 = .ok (.goto (-33), 3) := by decide +kernel
theorem d_M_find_68 : decode c_M_find 68 = .ok (.aload_n 0, 1) := by decide +kernel
theorem d_M_find_69 : decode c_M_find 69 = .ok (.iconst 1, 1) := by decide +kernel
theorem d_M_find_70 : decode c_M_find 70 = .ok (.iconst 2, 1) := by decide +kernel
theorem d_M_find_71 : decode c_M_find 71 = .ok (.invokevirtual 70, 3) := by decide +kernel
theorem d_M_find_74 : decode c_M_find 74 = .ok (.pop, 1) := by decide +kernel
theorem d_M_find_75 : decode c_M_find 75 = .ok (.iconst 0, 1) := by decide +kernel
theorem d_M_find_76 : decode c_M_find 76 = .ok (.ireturn, 1) := by decide +kernel
abbrev c_M_count : ByteArray := prog_6_method_25_code
def y_M_count : MethodName := ⟨"EventKeeperModel", "count", "(II)I"⟩
theorem d_M_count_0 : decode c_M_count 0 = .ok (.aload_n 0, 1) := by decide +kernel
theorem d_M_count_1 : decode c_M_count 1 = .ok (.iconst 0, 1) := by decide +kernel
theorem d_M_count_2 : decode c_M_count 2 = .ok (.putfield 59, 3) := by decide +kernel
theorem d_M_count_5 : decode c_M_count 5 = .ok (.aload_n 0, 1) := by decide +kernel
theorem d_M_count_6 : decode c_M_count 6 = .ok (.iload_n 1, 1) := by decide +kernel
theorem d_M_count_7 : decode c_M_count 7 = .ok (.iconst 0, 1) := by decide +kernel
theorem d_M_count_8 : decode c_M_count 8 = .ok (.iconst 5, 1) := by decide +kernel
theorem d_M_count_9 : decode c_M_count 9 = .ok (.invokestatic 66, 3) := by decide +kernel
theorem d_M_count_12 : decode c_M_count 12 = .ok (.ifCond .eq 47, 3) := by decide +kernel
theorem d_M_count_15 : decode c_M_count 15 = .ok (.iload_n 1, 1) := by decide +kernel
theorem d_M_count_16 : decode c_M_count 16 = .ok (.iconst 2, 1) := by decide +kernel
theorem d_M_count_17 : decode c_M_count 17 = .ok (.if_icmp .ne 13, 3) := by decide +kernel
theorem d_M_count_20 : decode c_M_count 20 = .ok (.iload_n 2, 1) := by decide +kernel
theorem d_M_count_21 : decode c_M_count 21 = .ok (.iconst 0, 1) := by decide +kernel
theorem d_M_count_22 : decode c_M_count 22 = .ok (.bipush 15, 2) := by decide +kernel
theorem d_M_count_24 : decode c_M_count 24 = .ok (.invokestatic 66, 3) := by decide +kernel
theorem d_M_count_27 : decode c_M_count 27 = .ok (.ifCond .eq 32, 3) := by decide +kernel
theorem d_M_count_30 : decode c_M_count 30 = .ok (.iload_n 1, 1) := by decide +kernel
theorem d_M_count_31 : decode c_M_count 31 = .ok (.iconst 3, 1) := by decide +kernel
theorem d_M_count_32 : decode c_M_count 32 = .ok (.if_icmp .eq 8, 3) := by decide +kernel
theorem d_M_count_35 : decode c_M_count 35 = .ok (.iload_n 1, 1) := by decide +kernel
theorem d_M_count_36 : decode c_M_count 36 = .ok (.iconst 5, 1) := by decide +kernel
theorem d_M_count_37 : decode c_M_count 37 = .ok (.if_icmp .ne 10, 3) := by decide +kernel
theorem d_M_count_40 : decode c_M_count 40 = .ok (.iload_n 2, 1) := by decide +kernel
theorem d_M_count_41 : decode c_M_count 41 = .ok (.invokestatic 82, 3) := by decide +kernel
theorem d_M_count_44 : decode c_M_count 44 = .ok (.ifCond .eq 15, 3) := by decide +kernel
theorem d_M_count_47 : decode c_M_count 47 = .ok (.iload_n 1, 1) := by decide +kernel
theorem d_M_count_48 : decode c_M_count 48 = .ok (.iconst 4, 1) := by decide +kernel
theorem d_M_count_49 : decode c_M_count 49 = .ok (.if_icmp .ne 14, 3) := by decide +kernel
theorem d_M_count_52 : decode c_M_count 52 = .ok (.iload_n 2, 1) := by decide +kernel
theorem d_M_count_53 : decode c_M_count 53 = .ok (.invokestatic 96, 3) := by decide +kernel
theorem d_M_count_56 : decode c_M_count 56 = .ok (.ifCond .ne 7, 3) := by decide +kernel
theorem d_M_count_59 : decode c_M_count 59 = .ok (.iconst 1, 1) := by decide +kernel
theorem d_M_count_60 : decode c_M_count 60 = .ok (.goto 4, 3) := by decide +kernel
theorem d_M_count_63 : decode c_M_count 63 = .ok (.iconst 0, 1) := by decide +kernel
theorem d_M_count_64 : decode c_M_count 64 = .ok (.iconst 1, 1) := by decide +kernel
theorem d_M_count_65 : decode c_M_count 65 = .ok (.invokevirtual 70, 3) := by decide +kernel
theorem d_M_count_68 : decode c_M_count 68 = .ok (.ifCond .eq 5, 3) := by decide +kernel
theorem d_M_count_71 : decode c_M_count 71 = .ok (.iconst 0, 1) := by decide +kernel
theorem d_M_count_72 : decode c_M_count 72 = .ok (.ireturn, 1) := by decide +kernel
theorem d_M_count_73 : decode c_M_count 73 = .ok (.iconst 0, 1) := by decide +kernel
theorem d_M_count_74 : decode c_M_count 74 = .ok (.istore_n 3, 1) := by decide +kernel
theorem d_M_count_75 : decode c_M_count 75 = .ok (.iload_n 1, 1) := by decide +kernel
theorem d_M_count_76 : decode c_M_count 76 = .ok (.tableswitch 70 0 4 #[36, 41, 46, 56, 63], 36) := by decide +kernel
theorem d_M_count_112 : decode c_M_count 112 = .ok (.aload_n 0, 1) := by decide +kernel
theorem d_M_count_113 : decode c_M_count 113 = .ok (.getfield 63, 3) := by decide +kernel
theorem d_M_count_116 : decode c_M_count 116 = .ok (.ireturn, 1) := by decide +kernel
theorem d_M_count_117 : decode c_M_count 117 = .ok (.aload_n 0, 1) := by decide +kernel
theorem d_M_count_118 : decode c_M_count 118 = .ok (.getfield 99, 3) := by decide +kernel
theorem d_M_count_121 : decode c_M_count 121 = .ok (.ireturn, 1) := by decide +kernel
theorem d_M_count_122 : decode c_M_count 122 = .ok (.aload_n 0, 1) := by decide +kernel
theorem d_M_count_123 : decode c_M_count 123 = .ok (.iload_n 2, 1) := by decide +kernel
theorem d_M_count_124 : decode c_M_count 124 = .ok (.aload_n 0, 1) := by decide +kernel
theorem d_M_count_125 : decode c_M_count 125 = .ok (.getfield 63, 3) := by decide +kernel
theorem d_M_count_128 : decode c_M_count 128 = .ok (.invokevirtual 74, 3) := by decide +kernel
theorem d_M_count_131 : decode c_M_count 131 = .ok (.ireturn, 1) := by decide +kernel
theorem d_M_count_132 : decode c_M_count 132 = .ok (.aload_n 0, 1) := by decide +kernel
theorem d_M_count_133 : decode c_M_count 133 = .ok (.getfield 38, 3) := by decide +kernel
theorem d_M_count_136 : decode c_M_count 136 = .ok (.iload_n 2, 1) := by decide +kernel
theorem d_M_count_137 : decode c_M_count 137 = .ok (.iaload, 1) := by decide +kernel
theorem d_M_count_138 : decode c_M_count 138 = .ok (.ireturn, 1) := by decide +kernel
theorem d_M_count_139 : decode c_M_count 139 = .ok (.aload_n 0, 1) := by decide +kernel
theorem d_M_count_140 : decode c_M_count 140 = .ok (.getfield 53, 3) := by decide +kernel
theorem d_M_count_143 : decode c_M_count 143 = .ok (.iload_n 2, 1) := by decide +kernel
theorem d_M_count_144 : decode c_M_count 144 = .ok (.iaload, 1) := by decide +kernel
theorem d_M_count_145 : decode c_M_count 145 = .ok (.ireturn, 1) := by decide +kernel
theorem d_M_count_146 : decode c_M_count 146 = .ok (.iconst 0, 1) := by decide +kernel
theorem d_M_count_147 : decode c_M_count 147 = .ok (.istore 4, 2) := by decide +kernel
theorem d_M_count_149 : decode c_M_count 149 = .ok (.iload 4, 2) := by decide +kernel
theorem d_M_count_151 : decode c_M_count 151 = .ok (.aload_n 0, 1) := by decide +kernel
theorem d_M_count_152 : decode c_M_count 152 = .ok (.getfield 63, 3) := by decide +kernel
theorem d_M_count_155 : decode c_M_count 155 = .ok (.if_icmp .ge 23, 3) := by decide +kernel
theorem d_M_count_158 : decode c_M_count 158 = .ok (.aload_n 0, 1) := by decide +kernel
theorem d_M_count_159 : decode c_M_count 159 = .ok (.getfield 16, 3) := by decide +kernel
theorem d_M_count_162 : decode c_M_count 162 = .ok (.iload 4, 2) := by decide +kernel
theorem d_M_count_164 : decode c_M_count 164 = .ok (.iaload, 1) := by decide +kernel
theorem d_M_count_165 : decode c_M_count 165 = .ok (.iload_n 2, 1) := by decide +kernel
theorem d_M_count_166 : decode c_M_count 166 = .ok (.if_icmp .ne 6, 3) := by decide +kernel
theorem d_M_count_169 : decode c_M_count 169 = .ok (.iinc 3 1, 3) := by decide +kernel
theorem d_M_count_172 : decode c_M_count 172 = .ok (.iinc 4 1, 3) := by decide +kernel
theorem d_M_count_175 : decode c_M_count 175 = .ok (.goto (-26), 3) := by decide +kernel
theorem d_M_count_178 : decode c_M_count 178 = .ok (.iload_n 3, 1) := by decide +kernel
theorem d_M_count_179 : decode c_M_count 179 = .ok (.ireturn, 1) := by decide +kernel
