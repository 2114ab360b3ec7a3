abbrev c_W_append : ByteArray := method_3_code
def y_W_append : MethodName := ⟨"EventKeeperLaw", "append", "(LEventKeeper;IIIJ[J)I"⟩
theorem d_W_append_0 : decode c_W_append 0 = .ok (.aload 6, 2) := by decide +kernel
theorem d_W_append_2 : decode c_W_append 2 = .ok (.iconst 0, 1) := by decide +kernel
theorem d_W_append_3 : decode c_W_append 3 = .ok (.aload_n 0, 1) := by decide +kernel
theorem d_W_append_4 : decode c_W_append 4 = .ok (.iload_n 1, 1) := by decide +kernel
theorem d_W_append_5 : decode c_W_append 5 = .ok (.iload_n 2, 1) := by decide +kernel
theorem d_W_append_6 : decode c_W_append 6 = .ok (.iload_n 3, 1) := by decide +kernel
theorem d_W_append_7 : decode c_W_append 7 = .ok (.lload 4, 2) := by decide +kernel
theorem d_W_append_9 : decode c_W_append 9 = .ok (.invokevirtual 7, 3) := by decide +kernel
theorem d_W_append_12 : decode c_W_append 12 = .ok (.i2l, 1) := by decide +kernel
theorem d_W_append_13 : decode c_W_append 13 = .ok (.lastore, 1) := by decide +kernel
theorem d_W_append_14 : decode c_W_append 14 = .ok (.goto 15, 3) := by decide +kernel
theorem d_W_append_17 : decode c_W_append 17 = .ok (.astore 7, 2) := by decide +kernel
theorem d_W_append_19 : decode c_W_append 19 = .ok (.iconst 1, 1) := by decide +kernel
theorem d_W_append_20 : decode c_W_append 20 = .ok (.ireturn, 1) := by decide +kernel
theorem d_W_append_21 : decode c_W_append 21 = .ok (.astore 7, 2) := by decide +kernel
theorem d_W_append_23 : decode c_W_append 23 = .ok (.iconst 2, 1) := by decide +kernel
theorem d_W_append_24 : decode c_W_append 24 = .ok (.ireturn, 1) := by decide +kernel
theorem d_W_append_25 : decode c_W_append 25 = .ok (.astore 7, 2) := by decide +kernel
theorem d_W_append_27 : decode c_W_append 27 = .ok (.iconst 3, 1) := by decide +kernel
theorem d_W_append_28 : decode c_W_append 28 = .ok (.ireturn, 1) := by decide +kernel
theorem d_W_append_29 : decode c_W_append 29 = .ok (.iconst 0, 1) := by decide +kernel
theorem d_W_append_30 : decode c_W_append 30 = .ok (.ireturn, 1) := by decide +kernel
abbrev c_W_rule : ByteArray := method_4_code
def y_W_rule : MethodName := ⟨"EventKeeperLaw", "rule", "(LEventKeeper;IIII)I"⟩
theorem d_W_rule_0 : decode c_W_rule 0 = .ok (.aload_n 0, 1) := by decide +kernel
theorem d_W_rule_1 : decode c_W_rule 1 = .ok (.iload_n 1, 1) := by decide +kernel
theorem d_W_rule_2 : decode c_W_rule 2 = .ok (.iload_n 2, 1) := by decide +kernel
theorem d_W_rule_3 : decode c_W_rule 3 = .ok (.iload_n 3, 1) := by decide +kernel
theorem d_W_rule_4 : decode c_W_rule 4 = .ok (.iload 4, 2) := by decide +kernel
theorem d_W_rule_6 : decode c_W_rule 6 = .ok (.invokevirtual 19, 3) := by decide +kernel
theorem d_W_rule_9 : decode c_W_rule 9 = .ok (.goto 7, 3) := by decide +kernel
theorem d_W_rule_12 : decode c_W_rule 12 = .ok (.astore 5, 2) := by decide +kernel
theorem d_W_rule_14 : decode c_W_rule 14 = .ok (.iconst 1, 1) := by decide +kernel
theorem d_W_rule_15 : decode c_W_rule 15 = .ok (.ireturn, 1) := by decide +kernel
theorem d_W_rule_16 : decode c_W_rule 16 = .ok (.iconst 0, 1) := by decide +kernel
theorem d_W_rule_17 : decode c_W_rule 17 = .ok (.ireturn, 1) := by decide +kernel
abbrev c_W_advance : ByteArray := method_5_code
def y_W_advance : MethodName := ⟨"EventKeeperLaw", "advance", "(LEventKeeper;II[J)I"⟩
theorem d_W_advance_0 : decode c_W_advance 0 = .ok (.aload_n 3, 1) := by decide +kernel
theorem d_W_advance_1 : decode c_W_advance 1 = .ok (.iconst 0, 1) := by decide +kernel
theorem d_W_advance_2 : decode c_W_advance 2 = .ok (.aload_n 0, 1) := by decide +kernel
theorem d_W_advance_3 : decode c_W_advance 3 = .ok (.iload_n 1, 1) := by decide +kernel
theorem d_W_advance_4 : decode c_W_advance 4 = .ok (.iload_n 2, 1) := by decide +kernel
theorem d_W_advance_5 : decode c_W_advance 5 = .ok (.invokevirtual 23, 3) := by decide +kernel
theorem d_W_advance_8 : decode c_W_advance 8 = .ok (.i2l, 1) := by decide +kernel
theorem d_W_advance_9 : decode c_W_advance 9 = .ok (.lastore, 1) := by decide +kernel
theorem d_W_advance_10 : decode c_W_advance 10 = .ok (.goto 7, 3) := by decide +kernel
theorem d_W_advance_13 : decode c_W_advance 13 = .ok (.astore 4, 2) := by decide +kernel
theorem d_W_advance_15 : decode c_W_advance 15 = .ok (.iconst 1, 1) := by decide +kernel
theorem d_W_advance_16 : decode c_W_advance 16 = .ok (.ireturn, 1) := by decide +kernel
theorem d_W_advance_17 : decode c_W_advance 17 = .ok (.iconst 0, 1) := by decide +kernel
theorem d_W_advance_18 : decode c_W_advance 18 = .ok (.ireturn, 1) := by decide +kernel
abbrev c_W_save : ByteArray := method_6_code
def y_W_save : MethodName := ⟨"EventKeeperLaw", "save", "(LEventKeeper;I[J)I"⟩
theorem d_W_save_0 : decode c_W_save 0 = .ok (.aload_n 2, 1) := by decide +kernel
theorem d_W_save_1 : decode c_W_save 1 = .ok (.iconst 0, 1) := by decide +kernel
theorem d_W_save_2 : decode c_W_save 2 = .ok (.aload_n 0, 1) := by decide +kernel
theorem d_W_save_3 : decode c_W_save 3 = .ok (.iload_n 1, 1) := by decide +kernel
theorem d_W_save_4 : decode c_W_save 4 = .ok (.invokevirtual 27, 3) := by decide +kernel
theorem d_W_save_7 : decode c_W_save 7 = .ok (.i2l, 1) := by decide +kernel
theorem d_W_save_8 : decode c_W_save 8 = .ok (.lastore, 1) := by decide +kernel
theorem d_W_save_9 : decode c_W_save 9 = .ok (.goto 6, 3) := by decide +kernel
theorem d_W_save_12 : decode c_W_save 12 = .ok (.astore_n 3, 1) := by decide +kernel
theorem d_W_save_13 : decode c_W_save 13 = .ok (.iconst 1, 1) := by decide +kernel
theorem d_W_save_14 : decode c_W_save 14 = .ok (.ireturn, 1) := by decide +kernel
theorem d_W_save_15 : decode c_W_save 15 = .ok (.iconst 0, 1) := by decide +kernel
theorem d_W_save_16 : decode c_W_save 16 = .ok (.ireturn, 1) := by decide +kernel
abbrev c_W_cell : ByteArray := method_7_code
def y_W_cell : MethodName := ⟨"EventKeeperLaw", "cell", "(LEventKeeper;II[J)I"⟩
theorem d_W_cell_0 : decode c_W_cell 0 = .ok (.aload_n 3, 1) := by decide +kernel
theorem d_W_cell_1 : decode c_W_cell 1 = .ok (.iconst 0, 1) := by decide +kernel
theorem d_W_cell_2 : decode c_W_cell 2 = .ok (.aload_n 0, 1) := by decide +kernel
theorem d_W_cell_3 : decode c_W_cell 3 = .ok (.iload_n 1, 1) := by decide +kernel
theorem d_W_cell_4 : decode c_W_cell 4 = .ok (.iload_n 2, 1) := by decide +kernel
theorem d_W_cell_5 : decode c_W_cell 5 = .ok (.invokevirtual 31, 3) := by decide +kernel
theorem d_W_cell_8 : decode c_W_cell 8 = .ok (.lastore, 1) := by decide +kernel
theorem d_W_cell_9 : decode c_W_cell 9 = .ok (.goto 11, 3) := by decide +kernel
theorem d_W_cell_12 : decode c_W_cell 12 = .ok (.astore 4, 2) := by decide +kernel
theorem d_W_cell_14 : decode c_W_cell 14 = .ok (.iconst 1, 1) := by decide +kernel
theorem d_W_cell_15 : decode c_W_cell 15 = .ok (.ireturn, 1) := by decide +kernel
theorem d_W_cell_16 : decode c_W_cell 16 = .ok (.astore 4, 2) := by decide +kernel
theorem d_W_cell_18 : decode c_W_cell 18 = .ok (.iconst 2, 1) := by decide +kernel
theorem d_W_cell_19 : decode c_W_cell 19 = .ok (.ireturn, 1) := by decide +kernel
theorem d_W_cell_20 : decode c_W_cell 20 = .ok (.iconst 0, 1) := by decide +kernel
theorem d_W_cell_21 : decode c_W_cell 21 = .ok (.ireturn, 1) := by decide +kernel
abbrev c_W_filter : ByteArray := method_8_code
def y_W_filter : MethodName := ⟨"EventKeeperLaw", "filter", "(LEventKeeper;III)I"⟩
theorem d_W_filter_0 : decode c_W_filter 0 = .ok (.aload_n 0, 1) := by decide +kernel
theorem d_W_filter_1 : decode c_W_filter 1 = .ok (.iload_n 1, 1) := by decide +kernel
theorem d_W_filter_2 : decode c_W_filter 2 = .ok (.iload_n 2, 1) := by decide +kernel
theorem d_W_filter_3 : decode c_W_filter 3 = .ok (.iload_n 3, 1) := by decide +kernel
theorem d_W_filter_4 : decode c_W_filter 4 = .ok (.invokevirtual 35, 3) := by decide +kernel
theorem d_W_filter_7 : decode c_W_filter 7 = .ok (.goto 7, 3) := by decide +kernel
theorem d_W_filter_10 : decode c_W_filter 10 = .ok (.astore 4, 2) := by decide +kernel
theorem d_W_filter_12 : decode c_W_filter 12 = .ok (.iconst 1, 1) := by decide +kernel
theorem d_W_filter_13 : decode c_W_filter 13 = .ok (.ireturn, 1) := by decide +kernel
theorem d_W_filter_14 : decode c_W_filter 14 = .ok (.iconst 0, 1) := by decide +kernel
theorem d_W_filter_15 : decode c_W_filter 15 = .ok (.ireturn, 1) := by decide +kernel
abbrev c_W_next : ByteArray := method_9_code
def y_W_next : MethodName := ⟨"EventKeeperLaw", "next", "(LEventKeeper;I[J)I"⟩
theorem d_W_next_0 : decode c_W_next 0 = .ok (.aload_n 2, 1) := by decide +kernel
theorem d_W_next_1 : decode c_W_next 1 = .ok (.iconst 0, 1) := by decide +kernel
theorem d_W_next_2 : decode c_W_next 2 = .ok (.aload_n 0, 1) := by decide +kernel
theorem d_W_next_3 : decode c_W_next 3 = .ok (.iload_n 1, 1) := by decide +kernel
theorem d_W_next_4 : decode c_W_next 4 = .ok (.invokevirtual 39, 3) := by decide +kernel
theorem d_W_next_7 : decode c_W_next 7 = .ok (.i2l, 1) := by decide +kernel
theorem d_W_next_8 : decode c_W_next 8 = .ok (.lastore, 1) := by decide +kernel
theorem d_W_next_9 : decode c_W_next 9 = .ok (.goto 6, 3) := by decide +kernel
theorem d_W_next_12 : decode c_W_next 12 = .ok (.astore_n 3, 1) := by decide +kernel
theorem d_W_next_13 : decode c_W_next 13 = .ok (.iconst 1, 1) := by decide +kernel
theorem d_W_next_14 : decode c_W_next 14 = .ok (.ireturn, 1) := by decide +kernel
theorem d_W_next_15 : decode c_W_next 15 = .ok (.iconst 0, 1) := by decide +kernel
theorem d_W_next_16 : decode c_W_next 16 = .ok (.ireturn, 1) := by decide +kernel
abbrev c_W_acknowledge : ByteArray := method_10_code
def y_W_acknowledge : MethodName := ⟨"EventKeeperLaw", "acknowledge", "(LEventKeeper;II[J)I"⟩
theorem d_W_acknowledge_0 : decode c_W_acknowledge 0 = .ok (.aload_n 3, 1) := by decide +kernel
theorem d_W_acknowledge_1 : decode c_W_acknowledge 1 = .ok (.iconst 0, 1) := by decide +kernel
theorem d_W_acknowledge_2 : decode c_W_acknowledge 2 = .ok (.aload_n 0, 1) := by decide +kernel
theorem d_W_acknowledge_3 : decode c_W_acknowledge 3 = .ok (.iload_n 1, 1) := by decide +kernel
theorem d_W_acknowledge_4 : decode c_W_acknowledge 4 = .ok (.iload_n 2, 1) := by decide +kernel
theorem d_W_acknowledge_5 : decode c_W_acknowledge 5 = .ok (.invokevirtual 42, 3) := by decide +kernel
theorem d_W_acknowledge_8 : decode c_W_acknowledge 8 = .ok (.i2l, 1) := by decide +kernel
theorem d_W_acknowledge_9 : decode c_W_acknowledge 9 = .ok (.lastore, 1) := by decide +kernel
theorem d_W_acknowledge_10 : decode c_W_acknowledge 10 = .ok (.goto 11, 3) := by decide +kernel
theorem d_W_acknowledge_13 : decode c_W_acknowledge 13 = .ok (.astore 4, 2) := by decide +kernel
theorem d_W_acknowledge_15 : decode c_W_acknowledge 15 = .ok (.iconst 1, 1) := by decide +kernel
theorem d_W_acknowledge_16 : decode c_W_acknowledge 16 = .ok (.ireturn, 1) := by decide +kernel
theorem d_W_acknowledge_17 : decode c_W_acknowledge 17 = .ok (.astore 4, 2) := by decide +kernel
theorem d_W_acknowledge_19 : decode c_W_acknowledge 19 = .ok (.iconst 2, 1) := by decide +kernel
theorem d_W_acknowledge_20 : decode c_W_acknowledge 20 = .ok (.ireturn, 1) := by decide +kernel
theorem d_W_acknowledge_21 : decode c_W_acknowledge 21 = .ok (.iconst 0, 1) := by decide +kernel
theorem d_W_acknowledge_22 : decode c_W_acknowledge 22 = .ok (.ireturn, 1) := by decide +kernel
abbrev c_W_event : ByteArray := method_11_code
def y_W_event : MethodName := ⟨"EventKeeperLaw", "event", "(LEventKeeper;II[J)I"⟩
theorem d_W_event_0 : decode c_W_event 0 = .ok (.aload_n 3, 1) := by decide +kernel
theorem d_W_event_1 : decode c_W_event 1 = .ok (.iconst 0, 1) := by decide +kernel
theorem d_W_event_2 : decode c_W_event 2 = .ok (.aload_n 0, 1) := by decide +kernel
theorem d_W_event_3 : decode c_W_event 3 = .ok (.iload_n 1, 1) := by decide +kernel
theorem d_W_event_4 : decode c_W_event 4 = .ok (.iload_n 2, 1) := by decide +kernel
theorem d_W_event_5 : decode c_W_event 5 = .ok (.invokevirtual 45, 3) := by decide +kernel
theorem d_W_event_8 : decode c_W_event 8 = .ok (.i2l, 1) := by decide +kernel
theorem d_W_event_9 : decode c_W_event 9 = .ok (.lastore, 1) := by decide +kernel
theorem d_W_event_10 : decode c_W_event 10 = .ok (.goto 11, 3) := by decide +kernel
theorem d_W_event_13 : decode c_W_event 13 = .ok (.astore 4, 2) := by decide +kernel
theorem d_W_event_15 : decode c_W_event 15 = .ok (.iconst 1, 1) := by decide +kernel
theorem d_W_event_16 : decode c_W_event 16 = .ok (.ireturn, 1) := by decide +kernel
theorem d_W_event_17 : decode c_W_event 17 = .ok (.astore 4, 2) := by decide +kernel
theorem d_W_event_19 : decode c_W_event 19 = .ok (.iconst 2, 1) := by decide +kernel
theorem d_W_event_20 : decode c_W_event 20 = .ok (.ireturn, 1) := by decide +kernel
theorem d_W_event_21 : decode c_W_event 21 = .ok (.iconst 0, 1) := by decide +kernel
theorem d_W_event_22 : decode c_W_event 22 = .ok (.ireturn, 1) := by decide +kernel
abbrev c_W_value : ByteArray := method_12_code
def y_W_value : MethodName := ⟨"EventKeeperLaw", "value", "(LEventKeeper;I[J)I"⟩
theorem d_W_value_0 : decode c_W_value 0 = .ok (.aload_n 2, 1) := by decide +kernel
theorem d_W_value_1 : decode c_W_value 1 = .ok (.iconst 0, 1) := by decide +kernel
theorem d_W_value_2 : decode c_W_value 2 = .ok (.aload_n 0, 1) := by decide +kernel
theorem d_W_value_3 : decode c_W_value 3 = .ok (.iload_n 1, 1) := by decide +kernel
theorem d_W_value_4 : decode c_W_value 4 = .ok (.invokevirtual 48, 3) := by decide +kernel
theorem d_W_value_7 : decode c_W_value 7 = .ok (.lastore, 1) := by decide +kernel
theorem d_W_value_8 : decode c_W_value 8 = .ok (.goto 6, 3) := by decide +kernel
theorem d_W_value_11 : decode c_W_value 11 = .ok (.astore_n 3, 1) := by decide +kernel
theorem d_W_value_12 : decode c_W_value 12 = .ok (.iconst 1, 1) := by decide +kernel
theorem d_W_value_13 : decode c_W_value 13 = .ok (.ireturn, 1) := by decide +kernel
theorem d_W_value_14 : decode c_W_value 14 = .ok (.iconst 0, 1) := by decide +kernel
theorem d_W_value_15 : decode c_W_value 15 = .ok (.ireturn, 1) := by decide +kernel
abbrev c_W_find : ByteArray := method_13_code
def y_W_find : MethodName := ⟨"EventKeeperLaw", "find", "(LEventKeeper;II[J)I"⟩
theorem d_W_find_0 : decode c_W_find 0 = .ok (.aload_n 3, 1) := by decide +kernel
theorem d_W_find_1 : decode c_W_find 1 = .ok (.iconst 0, 1) := by decide +kernel
theorem d_W_find_2 : decode c_W_find 2 = .ok (.aload_n 0, 1) := by decide +kernel
theorem d_W_find_3 : decode c_W_find 3 = .ok (.iload_n 1, 1) := by decide +kernel
theorem d_W_find_4 : decode c_W_find 4 = .ok (.iload_n 2, 1) := by decide +kernel
theorem d_W_find_5 : decode c_W_find 5 = .ok (.invokevirtual 52, 3) := by decide +kernel
theorem d_W_find_8 : decode c_W_find 8 = .ok (.i2l, 1) := by decide +kernel
theorem d_W_find_9 : decode c_W_find 9 = .ok (.lastore, 1) := by decide +kernel
theorem d_W_find_10 : decode c_W_find 10 = .ok (.goto 11, 3) := by decide +kernel
theorem d_W_find_13 : decode c_W_find 13 = .ok (.astore 4, 2) := by decide +kernel
theorem d_W_find_15 : decode c_W_find 15 = .ok (.iconst 1, 1) := by decide +kernel
theorem d_W_find_16 : decode c_W_find 16 = .ok (.ireturn, 1) := by decide +kernel
theorem d_W_find_17 : decode c_W_find 17 = .ok (.astore 4, 2) := by decide +kernel
theorem d_W_find_19 : decode c_W_find 19 = .ok (.iconst 2, 1) := by decide +kernel
theorem d_W_find_20 : decode c_W_find 20 = .ok (.ireturn, 1) := by decide +kernel
theorem d_W_find_21 : decode c_W_find 21 = .ok (.iconst 0, 1) := by decide +kernel
theorem d_W_find_22 : decode c_W_find 22 = .ok (.ireturn, 1) := by decide +kernel
abbrev c_W_count : ByteArray := method_14_code
def y_W_count : MethodName := ⟨"EventKeeperLaw", "count", "(LEventKeeper;II[J)I"⟩
theorem d_W_count_0 : decode c_W_count 0 = .ok (.aload_n 3, 1) := by decide +kernel
theorem d_W_count_1 : decode c_W_count 1 = .ok (.iconst 0, 1) := by decide +kernel
theorem d_W_count_2 : decode c_W_count 2 = .ok (.aload_n 0, 1) := by decide +kernel
theorem d_W_count_3 : decode c_W_count 3 = .ok (.iload_n 1, 1) := by decide +kernel
theorem d_W_count_4 : decode c_W_count 4 = .ok (.iload_n 2, 1) := by decide +kernel
theorem d_W_count_5 : decode c_W_count 5 = .ok (.invokevirtual 55, 3) := by decide +kernel
theorem d_W_count_8 : decode c_W_count 8 = .ok (.i2l, 1) := by decide +kernel
theorem d_W_count_9 : decode c_W_count 9 = .ok (.lastore, 1) := by decide +kernel
theorem d_W_count_10 : decode c_W_count 10 = .ok (.goto 7, 3) := by decide +kernel
theorem d_W_count_13 : decode c_W_count 13 = .ok (.astore 4, 2) := by decide +kernel
theorem d_W_count_15 : decode c_W_count 15 = .ok (.iconst 1, 1) := by decide +kernel
theorem d_W_count_16 : decode c_W_count 16 = .ok (.ireturn, 1) := by decide +kernel
theorem d_W_count_17 : decode c_W_count 17 = .ok (.iconst 0, 1) := by decide +kernel
theorem d_W_count_18 : decode c_W_count 18 = .ok (.ireturn, 1) := by decide +kernel
abbrev c_W_law : ByteArray := code
def y_W_law : MethodName := ⟨"EventKeeperLaw", "law", "([I)Z"⟩
theorem d_W_law_0 : decode c_W_law 0 = .ok (.new 8, 3) := by decide +kernel
theorem d_W_law_3 : decode c_W_law 3 = .ok (.dup, 1) := by decide +kernel
theorem d_W_law_4 : decode c_W_law 4 = .ok (.invokespecial 58, 3) := by decide +kernel
theorem d_W_law_7 : decode c_W_law 7 = .ok (.astore_n 1, 1) := by decide +kernel
theorem d_W_law_8 : decode c_W_law 8 = .ok (.new 59, 3) := by decide +kernel
theorem d_W_law_11 : decode c_W_law 11 = .ok (.dup, 1) := by decide +kernel
theorem d_W_law_12 : decode c_W_law 12 = .ok (.invokespecial 61, 3) := by decide +kernel
theorem d_W_law_15 : decode c_W_law 15 = .ok (.astore_n 2, 1) := by decide +kernel
theorem d_W_law_16 : decode c_W_law 16 = .ok (.iconst 1, 1) := by decide +kernel
theorem d_W_law_17 : decode c_W_law 17 = .ok (.newarray .long, 2) := by decide +kernel
theorem d_W_law_19 : decode c_W_law 19 = .ok (.astore_n 3, 1) := by decide +kernel
theorem d_W_law_20 : decode c_W_law 20 = .ok (.iconst 0, 1) := by decide +kernel
theorem d_W_law_21 : decode c_W_law 21 = .ok (.istore 4, 2) := by decide +kernel
theorem d_W_law_23 : decode c_W_law 23 = .ok (.iload 4, 2) := by decide +kernel
theorem d_W_law_25 : decode c_W_law 25 = .ok (.aload_n 0, 1) := by decide +kernel
theorem d_W_law_26 : decode c_W_law 26 = .ok (.arraylength, 1) := by decide +kernel
theorem d_W_law_27 : decode c_W_law 27 = .ok (.bipush 6, 2) := by decide +kernel
theorem d_W_law_29 : decode c_W_law 29 = .ok (.isub, 1) := by decide +kernel
theorem d_W_law_30 : decode c_W_law 30 = .ok (.if_icmp .gt 944, 3) := by decide +kernel
theorem d_W_law_33 : decode c_W_law 33 = .ok (.aload_n 0, 1) := by decide +kernel
theorem d_W_law_34 : decode c_W_law 34 = .ok (.iload 4, 2) := by decide +kernel
theorem d_W_law_36 : decode c_W_law 36 = .ok (.iaload, 1) := by decide +kernel
theorem d_W_law_37 : decode c_W_law 37 = .ok (.bipush 15, 2) := by decide +kernel
theorem d_W_law_39 : decode c_W_law 39 = .ok (.iand, 1) := by decide +kernel
theorem d_W_law_40 : decode c_W_law 40 = .ok (.tableswitch 928 0 13 #[72, 196, 268, 336, 392, 459, 519, 575, 643, 656, 669, 737, 792, 860], 72) := by decide +kernel
theorem d_W_law_112 : decode c_W_law 112 = .ok (.aload_n 1, 1) := by decide +kernel
theorem d_W_law_113 : decode c_W_law 113 = .ok (.aload_n 0, 1) := by decide +kernel
theorem d_W_law_114 : decode c_W_law 114 = .ok (.iload 4, 2) := by decide +kernel
theorem d_W_law_116 : decode c_W_law 116 = .ok (.iconst 1, 1) := by decide +kernel
theorem d_W_law_117 : decode c_W_law 117 = .ok (.iadd, 1) := by decide +kernel
theorem d_W_law_118 : decode c_W_law 118 = .ok (.iaload, 1) := by decide +kernel
theorem d_W_law_119 : decode c_W_law 119 = .ok (.aload_n 0, 1) := by decide +kernel
theorem d_W_law_120 : decode c_W_law 120 = .ok (.iload 4, 2) := by decide +kernel
theorem d_W_law_122 : decode c_W_law 122 = .ok (.iconst 2, 1) := by decide +kernel
theorem d_W_law_123 : decode c_W_law 123 = .ok (.iadd, 1) := by decide +kernel
theorem d_W_law_124 : decode c_W_law 124 = .ok (.iaload, 1) := by decide +kernel
theorem d_W_law_125 : decode c_W_law 125 = .ok (.aload_n 0, 1) := by decide +kernel
theorem d_W_law_126 : decode c_W_law 126 = .ok (.iload 4, 2) := by decide +kernel
theorem d_W_law_128 : decode c_W_law 128 = .ok (.iconst 3, 1) := by decide +kernel
theorem d_W_law_129 : decode c_W_law 129 = .ok (.iadd, 1) := by decide +kernel
theorem d_W_law_130 : decode c_W_law 130 = .ok (.iaload, 1) := by decide +kernel
theorem d_W_law_131 : decode c_W_law 131 = .ok (.aload_n 0, 1) := by decide +kernel
theorem d_W_law_132 : decode c_W_law 132 = .ok (.iload 4, 2) := by decide +kernel
theorem d_W_law_134 : decode c_W_law 134 = .ok (.iconst 4, 1) := by decide +kernel
theorem d_W_law_135 : decode c_W_law 135 = .ok (.iadd, 1) := by decide +kernel
theorem d_W_law_136 : decode c_W_law 136 = .ok (.iaload, 1) := by decide +kernel
theorem d_W_law_137 : decode c_W_law 137 = .ok (.i2l, 1) := by decide +kernel
theorem d_W_law_138 : decode c_W_law 138 = .ok (.bipush 32, 2) := by decide +kernel
theorem d_W_law_140 : decode c_W_law 140 = .ok (.lshl, 1) := by decide +kernel
theorem d_W_law_141 : decode c_W_law 141 = .ok (.aload_n 0, 1) := by decide +kernel
theorem d_W_law_142 : decode c_W_law 142 = .ok (.iload 4, 2) := by decide +kernel
theorem d_W_law_144 : decode c_W_law 144 = .ok (.iconst 5, 1) := by decide +kernel
theorem d_W_law_145 : decode c_W_law 145 = .ok (.iadd, 1) := by decide +kernel
theorem d_W_law_146 : decode c_W_law 146 = .ok (.iaload, 1) := by decide +kernel
theorem d_W_law_147 : decode c_W_law 147 = .ok (.i2l, 1) := by decide +kernel
theorem d_W_law_148 : decode c_W_law 148 = .ok (.ldc2_w 62, 3) := by decide +kernel
theorem d_W_law_151 : decode c_W_law 151 = .ok (.land, 1) := by decide +kernel
theorem d_W_law_152 : decode c_W_law 152 = .ok (.lor, 1) := by decide +kernel
theorem d_W_law_153 : decode c_W_law 153 = .ok (.aload_n 3, 1) := by decide +kernel
theorem d_W_law_154 : decode c_W_law 154 = .ok (.invokestatic 64, 3) := by decide +kernel
theorem d_W_law_157 : decode c_W_law 157 = .ok (.istore 5, 2) := by decide +kernel
theorem d_W_law_159 : decode c_W_law 159 = .ok (.aload_n 2, 1) := by decide +kernel
theorem d_W_law_160 : decode c_W_law 160 = .ok (.aload_n 0, 1) := by decide +kernel
theorem d_W_law_161 : decode c_W_law 161 = .ok (.iload 4, 2) := by decide +kernel
theorem d_W_law_163 : decode c_W_law 163 = .ok (.iconst 1, 1) := by decide +kernel
theorem d_W_law_164 : decode c_W_law 164 = .ok (.iadd, 1) := by decide +kernel
theorem d_W_law_165 : decode c_W_law 165 = .ok (.iaload, 1) := by decide +kernel
theorem d_W_law_166 : decode c_W_law 166 = .ok (.aload_n 0, 1) := by decide +kernel
theorem d_W_law_167 : decode c_W_law 167 = .ok (.iload 4, 2) := by decide +kernel
theorem d_W_law_169 : decode c_W_law 169 = .ok (.iconst 2, 1) := by decide +kernel
theorem d_W_law_170 : decode c_W_law 170 = .ok (.iadd, 1) := by decide +kernel
theorem d_W_law_171 : decode c_W_law 171 = .ok (.iaload, 1) := by decide +kernel
theorem d_W_law_172 : decode c_W_law 172 = .ok (.aload_n 0, 1) := by decide +kernel
theorem d_W_law_173 : decode c_W_law 173 = .ok (.iload 4, 2) := by decide +kernel
theorem d_W_law_175 : decode c_W_law 175 = .ok (.iconst 3, 1) := by decide +kernel
theorem d_W_law_176 : decode c_W_law 176 = .ok (.iadd, 1) := by decide +kernel
theorem d_W_law_177 : decode c_W_law 177 = .ok (.iaload, 1) := by decide +kernel
theorem d_W_law_178 : decode c_W_law 178 = .ok (.aload_n 0, 1) := by decide +kernel
theorem d_W_law_179 : decode c_W_law 179 = .ok (.iload 4, 2) := by decide +kernel
theorem d_W_law_181 : decode c_W_law 181 = .ok (.iconst 4, 1) := by decide +kernel
theorem d_W_law_182 : decode c_W_law 182 = .ok (.iadd, 1) := by decide +kernel
theorem d_W_law_183 : decode c_W_law 183 = .ok (.iaload, 1) := by decide +kernel
theorem d_W_law_184 : decode c_W_law 184 = .ok (.i2l, 1) := by decide +kernel
theorem d_W_law_185 : decode c_W_law 185 = .ok (.bipush 32, 2) := by decide +kernel
theorem d_W_law_187 : decode c_W_law 187 = .ok (.lshl, 1) := by decide +kernel
theorem d_W_law_188 : decode c_W_law 188 = .ok (.aload_n 0, 1) := by decide +kernel
theorem d_W_law_189 : decode c_W_law 189 = .ok (.iload 4, 2) := by decide +kernel
theorem d_W_law_191 : decode c_W_law 191 = .ok (.iconst 5, 1) := by decide +kernel
theorem d_W_law_192 : decode c_W_law 192 = .ok (.iadd, 1) := by decide +kernel
theorem d_W_law_193 : decode c_W_law 193 = .ok (.iaload, 1) := by decide +kernel
theorem d_W_law_194 : decode c_W_law 194 = .ok (.i2l, 1) := by decide +kernel
theorem d_W_law_195 : decode c_W_law 195 = .ok (.ldc2_w 62, 3) := by decide +kernel
theorem d_W_law_198 : decode c_W_law 198 = .ok (.land, 1) := by decide +kernel
theorem d_W_law_199 : decode c_W_law 199 = .ok (.lor, 1) := by decide +kernel
theorem d_W_law_200 : decode c_W_law 200 = .ok (.invokevirtual 69, 3) := by decide +kernel
theorem d_W_law_203 : decode c_W_law 203 = .ok (.istore 6, 2) := by decide +kernel
theorem d_W_law_205 : decode c_W_law 205 = .ok (.aload_n 2, 1) := by decide +kernel
theorem d_W_law_206 : decode c_W_law 206 = .ok (.invokevirtual 70, 3) := by decide +kernel
theorem d_W_law_209 : decode c_W_law 209 = .ok (.iload 5, 2) := by decide +kernel
theorem d_W_law_211 : decode c_W_law 211 = .ok (.if_icmp .eq 5, 3) := by decide +kernel
theorem d_W_law_214 : decode c_W_law 214 = .ok (.iconst 0, 1) := by decide +kernel
theorem d_W_law_215 : decode c_W_law 215 = .ok (.ireturn, 1) := by decide +kernel
theorem d_W_law_216 : decode c_W_law 216 = .ok (.iload 5, 2) := by decide +kernel
theorem d_W_law_218 : decode c_W_law 218 = .ok (.ifCond .ne 15, 3) := by decide +kernel
theorem d_W_law_221 : decode c_W_law 221 = .ok (.aload_n 3, 1) := by decide +kernel
theorem d_W_law_222 : decode c_W_law 222 = .ok (.iconst 0, 1) := by decide +kernel
theorem d_W_law_223 : decode c_W_law 223 = .ok (.laload, 1) := by decide +kernel
theorem d_W_law_224 : decode c_W_law 224 = .ok (.iload 6, 2) := by decide +kernel
theorem d_W_law_226 : decode c_W_law 226 = .ok (.i2l, 1) := by decide +kernel
theorem d_W_law_227 : decode c_W_law 227 = .ok (.lcmp, 1) := by decide +kernel
theorem d_W_law_228 : decode c_W_law 228 = .ok (.ifCond .eq 5, 3) := by decide +kernel
theorem d_W_law_231 : decode c_W_law 231 = .ok (.iconst 0, 1) := by decide +kernel
theorem d_W_law_232 : decode c_W_law 232 = .ok (.ireturn, 1) := by decide +kernel
theorem d_W_law_233 : decode c_W_law 233 = .ok (.goto 735, 3) := by decide +kernel
theorem d_W_law_236 : decode c_W_law 236 = .ok (.aload_n 1, 1) := by decide +kernel
theorem d_W_law_237 : decode c_W_law 237 = .ok (.aload_n 0, 1) := by decide +kernel
theorem d_W_law_238 : decode c_W_law 238 = .ok (.iload 4, 2) := by decide +kernel
theorem d_W_law_240 : decode c_W_law 240 = .ok (.iconst 1, 1) := by decide +kernel
theorem d_W_law_241 : decode c_W_law 241 = .ok (.iadd, 1) := by decide +kernel
theorem d_W_law_242 : decode c_W_law 242 = .ok (.iaload, 1) := by decide +kernel
theorem d_W_law_243 : decode c_W_law 243 = .ok (.aload_n 0, 1) := by decide +kernel
theorem d_W_law_244 : decode c_W_law 244 = .ok (.iload 4, 2) := by decide +kernel
theorem d_W_law_246 : decode c_W_law 246 = .ok (.iconst 2, 1) := by decide +kernel
theorem d_W_law_247 : decode c_W_law 247 = .ok (.iadd, 1) := by decide +kernel
theorem d_W_law_248 : decode c_W_law 248 = .ok (.iaload, 1) := by decide +kernel
theorem d_W_law_249 : decode c_W_law 249 = .ok (.aload_n 0, 1) := by decide +kernel
theorem d_W_law_250 : decode c_W_law 250 = .ok (.iload 4, 2) := by decide +kernel
theorem d_W_law_252 : decode c_W_law 252 = .ok (.iconst 3, 1) := by decide +kernel
theorem d_W_law_253 : decode c_W_law 253 = .ok (.iadd, 1) := by decide +kernel
theorem d_W_law_254 : decode c_W_law 254 = .ok (.iaload, 1) := by decide +kernel
theorem d_W_law_255 : decode c_W_law 255 = .ok (.aload_n 0, 1) := by decide +kernel
theorem d_W_law_256 : decode c_W_law 256 = .ok (.iload 4, 2) := by decide +kernel
theorem d_W_law_258 : decode c_W_law 258 = .ok (.iconst 4, 1) := by decide +kernel
theorem d_W_law_259 : decode c_W_law 259 = .ok (.iadd, 1) := by decide +kernel
theorem d_W_law_260 : decode c_W_law 260 = .ok (.iaload, 1) := by decide +kernel
theorem d_W_law_261 : decode c_W_law 261 = .ok (.invokestatic 74, 3) := by decide +kernel
theorem d_W_law_264 : decode c_W_law 264 = .ok (.istore 5, 2) := by decide +kernel
theorem d_W_law_266 : decode c_W_law 266 = .ok (.aload_n 2, 1) := by decide +kernel
theorem d_W_law_267 : decode c_W_law 267 = .ok (.aload_n 0, 1) := by decide +kernel
theorem d_W_law_268 : decode c_W_law 268 = .ok (.iload 4, 2) := by decide +kernel
theorem d_W_law_270 : decode c_W_law 270 = .ok (.iconst 1, 1) := by decide +kernel
theorem d_W_law_271 : decode c_W_law 271 = .ok (.iadd, 1) := by decide +kernel
theorem d_W_law_272 : decode c_W_law 272 = .ok (.iaload, 1) := by decide +kernel
theorem d_W_law_273 : decode c_W_law 273 = .ok (.aload_n 0, 1) := by decide +kernel
theorem d_W_law_274 : decode c_W_law 274 = .ok (.iload 4, 2) := by decide +kernel
theorem d_W_law_276 : decode c_W_law 276 = .ok (.iconst 2, 1) := by decide +kernel
theorem d_W_law_277 : decode c_W_law 277 = .ok (.iadd, 1) := by decide +kernel
theorem d_W_law_278 : decode c_W_law 278 = .ok (.iaload, 1) := by decide +kernel
theorem d_W_law_279 : decode c_W_law 279 = .ok (.aload_n 0, 1) := by decide +kernel
theorem d_W_law_280 : decode c_W_law 280 = .ok (.iload 4, 2) := by decide +kernel
theorem d_W_law_282 : decode c_W_law 282 = .ok (.iconst 3, 1) := by decide +kernel
theorem d_W_law_283 : decode c_W_law 283 = .ok (.iadd, 1) := by decide +kernel
theorem d_W_law_284 : decode c_W_law 284 = .ok (.iaload, 1) := by decide +kernel
theorem d_W_law_285 : decode c_W_law 285 = .ok (.aload_n 0, 1) := by decide +kernel
theorem d_W_law_286 : decode c_W_law 286 = .ok (.iload 4, 2) := by decide +kernel
theorem d_W_law_288 : decode c_W_law 288 = .ok (.iconst 4, 1) := by decide +kernel
theorem d_W_law_289 : decode c_W_law 289 = .ok (.iadd, 1) := by decide +kernel
theorem d_W_law_290 : decode c_W_law 290 = .ok (.iaload, 1) := by decide +kernel
theorem d_W_law_291 : decode c_W_law 291 = .ok (.invokevirtual 77, 3) := by decide +kernel
theorem d_W_law_294 : decode c_W_law 294 = .ok (.aload_n 2, 1) := by decide +kernel
theorem d_W_law_295 : decode c_W_law 295 = .ok (.invokevirtual 70, 3) := by decide +kernel
theorem d_W_law_298 : decode c_W_law 298 = .ok (.iload 5, 2) := by decide +kernel
theorem d_W_law_300 : decode c_W_law 300 = .ok (.if_icmp .eq 5, 3) := by decide +kernel
theorem d_W_law_303 : decode c_W_law 303 = .ok (.iconst 0, 1) := by decide +kernel
theorem d_W_law_304 : decode c_W_law 304 = .ok (.ireturn, 1) := by decide +kernel
theorem d_W_law_305 : decode c_W_law 305 = .ok (.goto 663, 3) := by decide +kernel
theorem d_W_law_308 : decode c_W_law 308 = .ok (.aload_n 1, 1) := by decide +kernel
theorem d_W_law_309 : decode c_W_law 309 = .ok (.aload_n 0, 1) := by decide +kernel
theorem d_W_law_310 : decode c_W_law 310 = .ok (.iload 4, 2) := by decide +kernel
theorem d_W_law_312 : decode c_W_law 312 = .ok (.iconst 1, 1) := by decide +kernel
theorem d_W_law_313 : decode c_W_law 313 = .ok (.iadd, 1) := by decide +kernel
theorem d_W_law_314 : decode c_W_law 314 = .ok (.iaload, 1) := by decide +kernel
theorem d_W_law_315 : decode c_W_law 315 = .ok (.aload_n 0, 1) := by decide +kernel
theorem d_W_law_316 : decode c_W_law 316 = .ok (.iload 4, 2) := by decide +kernel
theorem d_W_law_318 : decode c_W_law 318 = .ok (.iconst 2, 1) := by decide +kernel
theorem d_W_law_319 : decode c_W_law 319 = .ok (.iadd, 1) := by decide +kernel
theorem d_W_law_320 : decode c_W_law 320 = .ok (.iaload, 1) := by decide +kernel
theorem d_W_law_321 : decode c_W_law 321 = .ok (.aload_n 3, 1) := by decide +kernel
theorem d_W_law_322 : decode c_W_law 322 = .ok (.invokestatic 78, 3) := by decide +kernel
theorem d_W_law_325 : decode c_W_law 325 = .ok (.istore 5, 2) := by decide +kernel
theorem d_W_law_327 : decode c_W_law 327 = .ok (.aload_n 2, 1) := by decide +kernel
theorem d_W_law_328 : decode c_W_law 328 = .ok (.aload_n 0, 1) := by decide +kernel
theorem d_W_law_329 : decode c_W_law 329 = .ok (.iload 4, 2) := by decide +kernel
theorem d_W_law_331 : decode c_W_law 331 = .ok (.iconst 1, 1) := by decide +kernel
theorem d_W_law_332 : decode c_W_law 332 = .ok (.iadd, 1) := by decide +kernel
theorem d_W_law_333 : decode c_W_law 333 = .ok (.iaload, 1) := by decide +kernel
theorem d_W_law_334 : decode c_W_law 334 = .ok (.aload_n 0, 1) := by decide +kernel
theorem d_W_law_335 : decode c_W_law 335 = .ok (.iload 4, 2) := by decide +kernel
theorem d_W_law_337 : decode c_W_law 337 = .ok (.iconst 2, 1) := by decide +kernel
theorem d_W_law_338 : decode c_W_law 338 = .ok (.iadd, 1) := by decide +kernel
theorem d_W_law_339 : decode c_W_law 339 = .ok (.iaload, 1) := by decide +kernel
theorem d_W_law_340 : decode c_W_law 340 = .ok (.invokevirtual 81, 3) := by decide +kernel
theorem d_W_law_343 : decode c_W_law 343 = .ok (.istore 6, 2) := by decide +kernel
theorem d_W_law_345 : decode c_W_law 345 = .ok (.aload_n 2, 1) := by decide +kernel
theorem d_W_law_346 : decode c_W_law 346 = .ok (.invokevirtual 70, 3) := by decide +kernel
theorem d_W_law_349 : decode c_W_law 349 = .ok (.iload 5, 2) := by decide +kernel
theorem d_W_law_351 : decode c_W_law 351 = .ok (.if_icmp .eq 5, 3) := by decide +kernel
theorem d_W_law_354 : decode c_W_law 354 = .ok (.iconst 0, 1) := by decide +kernel
theorem d_W_law_355 : decode c_W_law 355 = .ok (.ireturn, 1) := by decide +kernel
theorem d_W_law_356 : decode c_W_law 356 = .ok (.iload 5, 2) := by decide +kernel
theorem d_W_law_358 : decode c_W_law 358 = .ok (.ifCond .ne 15, 3) := by decide +kernel
theorem d_W_law_361 : decode c_W_law 361 = .ok (.aload_n 3, 1) := by decide +kernel
theorem d_W_law_362 : decode c_W_law 362 = .ok (.iconst 0, 1) := by decide +kernel
theorem d_W_law_363 : decode c_W_law 363 = .ok (.laload, 1) := by decide +kernel
theorem d_W_law_364 : decode c_W_law 364 = .ok (.iload 6, 2) := by decide +kernel
theorem d_W_law_366 : decode c_W_law 366 = .ok (.i2l, 1) := by decide +kernel
theorem d_W_law_367 : decode c_W_law 367 = .ok (.lcmp, 1) := by decide +kernel
theorem d_W_law_368 : decode c_W_law 368 = .ok (.ifCond .eq 5, 3) := by decide +kernel
theorem d_W_law_371 : decode c_W_law 371 = .ok (.iconst 0, 1) := by decide +kernel
theorem d_W_law_372 : decode c_W_law 372 = .ok (.ireturn, 1) := by decide +kernel
theorem d_W_law_373 : decode c_W_law 373 = .ok (.goto 595, 3) := by decide +kernel
theorem d_W_law_376 : decode c_W_law 376 = .ok (.aload_n 1, 1) := by decide +kernel
theorem d_W_law_377 : decode c_W_law 377 = .ok (.aload_n 0, 1) := by decide +kernel
theorem d_W_law_378 : decode c_W_law 378 = .ok (.iload 4, 2) := by decide +kernel
theorem d_W_law_380 : decode c_W_law 380 = .ok (.iconst 1, 1) := by decide +kernel
theorem d_W_law_381 : decode c_W_law 381 = .ok (.iadd, 1) := by decide +kernel
theorem d_W_law_382 : decode c_W_law 382 = .ok (.iaload, 1) := by decide +kernel
theorem d_W_law_383 : decode c_W_law 383 = .ok (.aload_n 3, 1) := by decide +kernel
theorem d_W_law_384 : decode c_W_law 384 = .ok (.invokestatic 82, 3) := by decide +kernel
theorem d_W_law_387 : decode c_W_law 387 = .ok (.istore 5, 2) := by decide +kernel
theorem d_W_law_389 : decode c_W_law 389 = .ok (.aload_n 2, 1) := by decide +kernel
theorem d_W_law_390 : decode c_W_law 390 = .ok (.aload_n 0, 1) := by decide +kernel
theorem d_W_law_391 : decode c_W_law 391 = .ok (.iload 4, 2) := by decide +kernel
theorem d_W_law_393 : decode c_W_law 393 = .ok (.iconst 1, 1) := by decide +kernel
theorem d_W_law_394 : decode c_W_law 394 = .ok (.iadd, 1) := by decide +kernel
theorem d_W_law_395 : decode c_W_law 395 = .ok (.iaload, 1) := by decide +kernel
theorem d_W_law_396 : decode c_W_law 396 = .ok (.invokevirtual 85, 3) := by decide +kernel
theorem d_W_law_399 : decode c_W_law 399 = .ok (.istore 6, 2) := by decide +kernel
theorem d_W_law_401 : decode c_W_law 401 = .ok (.aload_n 2, 1) := by decide +kernel
theorem d_W_law_402 : decode c_W_law 402 = .ok (.invokevirtual 70, 3) := by decide +kernel
theorem d_W_law_405 : decode c_W_law 405 = .ok (.iload 5, 2) := by decide +kernel
theorem d_W_law_407 : decode c_W_law 407 = .ok (.if_icmp .eq 5, 3) := by decide +kernel
theorem d_W_law_410 : decode c_W_law 410 = .ok (.iconst 0, 1) := by decide +kernel
theorem d_W_law_411 : decode c_W_law 411 = .ok (.ireturn, 1) := by decide +kernel
theorem d_W_law_412 : decode c_W_law 412 = .ok (.iload 5, 2) := by decide +kernel
theorem d_W_law_414 : decode c_W_law 414 = .ok (.ifCond .ne 15, 3) := by decide +kernel
theorem d_W_law_417 : decode c_W_law 417 = .ok (.aload_n 3, 1) := by decide +kernel
theorem d_W_law_418 : decode c_W_law 418 = .ok (.iconst 0, 1) := by decide +kernel
theorem d_W_law_419 : decode c_W_law 419 = .ok (.laload, 1) := by decide +kernel
theorem d_W_law_420 : decode c_W_law 420 = .ok (.iload 6, 2) := by decide +kernel
theorem d_W_law_422 : decode c_W_law 422 = .ok (.i2l, 1) := by decide +kernel
theorem d_W_law_423 : decode c_W_law 423 = .ok (.lcmp, 1) := by decide +kernel
theorem d_W_law_424 : decode c_W_law 424 = .ok (.ifCond .eq 5, 3) := by decide +kernel
theorem d_W_law_427 : decode c_W_law 427 = .ok (.iconst 0, 1) := by decide +kernel
theorem d_W_law_428 : decode c_W_law 428 = .ok (.ireturn, 1) := by decide +kernel
theorem d_W_law_429 : decode c_W_law 429 = .ok (.goto 539, 3) := by decide +kernel
theorem d_W_law_432 : decode c_W_law 432 = .ok (.aload_n 1, 1) := by decide +kernel
theorem d_W_law_433 : decode c_W_law 433 = .ok (.aload_n 0, 1) := by decide +kernel
theorem d_W_law_434 : decode c_W_law 434 = .ok (.iload 4, 2) := by decide +kernel
theorem d_W_law_436 : decode c_W_law 436 = .ok (.iconst 1, 1) := by decide +kernel
theorem d_W_law_437 : decode c_W_law 437 = .ok (.iadd, 1) := by decide +kernel
theorem d_W_law_438 : decode c_W_law 438 = .ok (.iaload, 1) := by decide +kernel
theorem d_W_law_439 : decode c_W_law 439 = .ok (.aload_n 0, 1) := by decide +kernel
theorem d_W_law_440 : decode c_W_law 440 = .ok (.iload 4, 2) := by decide +kernel
theorem d_W_law_442 : decode c_W_law 442 = .ok (.iconst 2, 1) := by decide +kernel
theorem d_W_law_443 : decode c_W_law 443 = .ok (.iadd, 1) := by decide +kernel
theorem d_W_law_444 : decode c_W_law 444 = .ok (.iaload, 1) := by decide +kernel
theorem d_W_law_445 : decode c_W_law 445 = .ok (.aload_n 3, 1) := by decide +kernel
theorem d_W_law_446 : decode c_W_law 446 = .ok (.invokestatic 86, 3) := by decide +kernel
theorem d_W_law_449 : decode c_W_law 449 = .ok (.istore 5, 2) := by decide +kernel
theorem d_W_law_451 : decode c_W_law 451 = .ok (.aload_n 2, 1) := by decide +kernel
theorem d_W_law_452 : decode c_W_law 452 = .ok (.aload_n 0, 1) := by decide +kernel
theorem d_W_law_453 : decode c_W_law 453 = .ok (.iload 4, 2) := by decide +kernel
theorem d_W_law_455 : decode c_W_law 455 = .ok (.iconst 1, 1) := by decide +kernel
theorem d_W_law_456 : decode c_W_law 456 = .ok (.iadd, 1) := by decide +kernel
theorem d_W_law_457 : decode c_W_law 457 = .ok (.iaload, 1) := by decide +kernel
theorem d_W_law_458 : decode c_W_law 458 = .ok (.aload_n 0, 1) := by decide +kernel
theorem d_W_law_459 : decode c_W_law 459 = .ok (.iload 4, 2) := by decide +kernel
theorem d_W_law_461 : decode c_W_law 461 = .ok (.iconst 2, 1) := by decide +kernel
theorem d_W_law_462 : decode c_W_law 462 = .ok (.iadd, 1) := by decide +kernel
theorem d_W_law_463 : decode c_W_law 463 = .ok (.iaload, 1) := by decide +kernel
theorem d_W_law_464 : decode c_W_law 464 = .ok (.invokevirtual 88, 3) := by decide +kernel
theorem d_W_law_467 : decode c_W_law 467 = .ok (.lstore 6, 2) := by decide +kernel
theorem d_W_law_469 : decode c_W_law 469 = .ok (.aload_n 2, 1) := by decide +kernel
theorem d_W_law_470 : decode c_W_law 470 = .ok (.invokevirtual 70, 3) := by decide +kernel
theorem d_W_law_473 : decode c_W_law 473 = .ok (.iload 5, 2) := by decide +kernel
theorem d_W_law_475 : decode c_W_law 475 = .ok (.if_icmp .eq 5, 3) := by decide +kernel
theorem d_W_law_478 : decode c_W_law 478 = .ok (.iconst 0, 1) := by decide +kernel
theorem d_W_law_479 : decode c_W_law 479 = .ok (.ireturn, 1) := by decide +kernel
theorem d_W_law_480 : decode c_W_law 480 = .ok (.iload 5, 2) := by decide +kernel
theorem d_W_law_482 : decode c_W_law 482 = .ok (.ifCond .ne 14, 3) := by decide +kernel
theorem d_W_law_485 : decode c_W_law 485 = .ok (.aload_n 3, 1) := by decide +kernel
theorem d_W_law_486 : decode c_W_law 486 = .ok (.iconst 0, 1) := by decide +kernel
theorem d_W_law_487 : decode c_W_law 487 = .ok (.laload, 1) := by decide +kernel
theorem d_W_law_488 : decode c_W_law 488 = .ok (.lload 6, 2) := by decide +kernel
theorem d_W_law_490 : decode c_W_law 490 = .ok (.lcmp, 1) := by decide +kernel
theorem d_W_law_491 : decode c_W_law 491 = .ok (.ifCond .eq 5, 3) := by decide +kernel
theorem d_W_law_494 : decode c_W_law 494 = .ok (.iconst 0, 1) := by decide +kernel
theorem d_W_law_495 : decode c_W_law 495 = .ok (.ireturn, 1) := by decide +kernel
theorem d_W_law_496 : decode c_W_law 496 = .ok (.goto 472, 3) := by decide +kernel
theorem d_W_law_499 : decode c_W_law 499 = .ok (.aload_n 1, 1) := by decide +kernel
theorem d_W_law_500 : decode c_W_law 500 = .ok (.aload_n 0, 1) := by decide +kernel
theorem d_W_law_501 : decode c_W_law 501 = .ok (.iload 4, 2) := by decide +kernel
theorem d_W_law_503 : decode c_W_law 503 = .ok (.iconst 1, 1) := by decide +kernel
theorem d_W_law_504 : decode c_W_law 504 = .ok (.iadd, 1) := by decide +kernel
theorem d_W_law_505 : decode c_W_law 505 = .ok (.iaload, 1) := by decide +kernel
theorem d_W_law_506 : decode c_W_law 506 = .ok (.aload_n 0, 1) := by decide +kernel
theorem d_W_law_507 : decode c_W_law 507 = .ok (.iload 4, 2) := by decide +kernel
theorem d_W_law_509 : decode c_W_law 509 = .ok (.iconst 2, 1) := by decide +kernel
theorem d_W_law_510 : decode c_W_law 510 = .ok (.iadd, 1) := by decide +kernel
theorem d_W_law_511 : decode c_W_law 511 = .ok (.iaload, 1) := by decide +kernel
theorem d_W_law_512 : decode c_W_law 512 = .ok (.aload_n 0, 1) := by decide +kernel
theorem d_W_law_513 : decode c_W_law 513 = .ok (.iload 4, 2) := by decide +kernel
theorem d_W_law_515 : decode c_W_law 515 = .ok (.iconst 3, 1) := by decide +kernel
theorem d_W_law_516 : decode c_W_law 516 = .ok (.iadd, 1) := by decide +kernel
theorem d_W_law_517 : decode c_W_law 517 = .ok (.iaload, 1) := by decide +kernel
theorem d_W_law_518 : decode c_W_law 518 = .ok (.invokestatic 89, 3) := by decide +kernel
theorem d_W_law_521 : decode c_W_law 521 = .ok (.istore 5, 2) := by decide +kernel
theorem d_W_law_523 : decode c_W_law 523 = .ok (.aload_n 2, 1) := by decide +kernel
theorem d_W_law_524 : decode c_W_law 524 = .ok (.aload_n 0, 1) := by decide +kernel
theorem d_W_law_525 : decode c_W_law 525 = .ok (.iload 4, 2) := by decide +kernel
theorem d_W_law_527 : decode c_W_law 527 = .ok (.iconst 1, 1) := by decide +kernel
theorem d_W_law_528 : decode c_W_law 528 = .ok (.iadd, 1) := by decide +kernel
theorem d_W_law_529 : decode c_W_law 529 = .ok (.iaload, 1) := by decide +kernel
theorem d_W_law_530 : decode c_W_law 530 = .ok (.aload_n 0, 1) := by decide +kernel
theorem d_W_law_531 : decode c_W_law 531 = .ok (.iload 4, 2) := by decide +kernel
theorem d_W_law_533 : decode c_W_law 533 = .ok (.iconst 2, 1) := by decide +kernel
theorem d_W_law_534 : decode c_W_law 534 = .ok (.iadd, 1) := by decide +kernel
theorem d_W_law_535 : decode c_W_law 535 = .ok (.iaload, 1) := by decide +kernel
theorem d_W_law_536 : decode c_W_law 536 = .ok (.aload_n 0, 1) := by decide +kernel
theorem d_W_law_537 : decode c_W_law 537 = .ok (.iload 4, 2) := by decide +kernel
theorem d_W_law_539 : decode c_W_law 539 = .ok (.iconst 3, 1) := by decide +kernel
theorem d_W_law_540 : decode c_W_law 540 = .ok (.iadd, 1) := by decide +kernel
theorem d_W_law_541 : decode c_W_law 541 = .ok (.iaload, 1) := by decide +kernel
theorem d_W_law_542 : decode c_W_law 542 = .ok (.invokevirtual 92, 3) := by decide +kernel
theorem d_W_law_545 : decode c_W_law 545 = .ok (.aload_n 2, 1) := by decide +kernel
theorem d_W_law_546 : decode c_W_law 546 = .ok (.invokevirtual 70, 3) := by decide +kernel
theorem d_W_law_549 : decode c_W_law 549 = .ok (.iload 5, 2) := by decide +kernel
theorem d_W_law_551 : decode c_W_law 551 = .ok (.if_icmp .eq 5, 3) := by decide +kernel
theorem d_W_law_554 : decode c_W_law 554 = .ok (.iconst 0, 1) := by decide +kernel
theorem d_W_law_555 : decode c_W_law 555 = .ok (.ireturn, 1) := by decide +kernel
theorem d_W_law_556 : decode c_W_law 556 = .ok (.goto 412, 3) := by decide +kernel
theorem d_W_law_559 : decode c_W_law 559 = .ok (.aload_n 1, 1) := by decide +kernel
theorem d_W_law_560 : decode c_W_law 560 = .ok (.aload_n 0, 1) := by decide +kernel
theorem d_W_law_561 : decode c_W_law 561 = .ok (.iload 4, 2) := by decide +kernel
theorem d_W_law_563 : decode c_W_law 563 = .ok (.iconst 1, 1) := by decide +kernel
theorem d_W_law_564 : decode c_W_law 564 = .ok (.iadd, 1) := by decide +kernel
theorem d_W_law_565 : decode c_W_law 565 = .ok (.iaload, 1) := by decide +kernel
theorem d_W_law_566 : decode c_W_law 566 = .ok (.aload_n 3, 1) := by decide +kernel
theorem d_W_law_567 : decode c_W_law 567 = .ok (.invokestatic 93, 3) := by decide +kernel
theorem d_W_law_570 : decode c_W_law 570 = .ok (.istore 5, 2) := by decide +kernel
theorem d_W_law_572 : decode c_W_law 572 = .ok (.aload_n 2, 1) := by decide +kernel
theorem d_W_law_573 : decode c_W_law 573 = .ok (.aload_n 0, 1) := by decide +kernel
theorem d_W_law_574 : decode c_W_law 574 = .ok (.iload 4, 2) := by decide +kernel
theorem d_W_law_576 : decode c_W_law 576 = .ok (.iconst 1, 1) := by decide +kernel
theorem d_W_law_577 : decode c_W_law 577 = .ok (.iadd, 1) := by decide +kernel
theorem d_W_law_578 : decode c_W_law 578 = .ok (.iaload, 1) := by decide +kernel
theorem d_W_law_579 : decode c_W_law 579 = .ok (.invokevirtual 95, 3) := by decide +kernel
theorem d_W_law_582 : decode c_W_law 582 = .ok (.istore 6, 2) := by decide +kernel
theorem d_W_law_584 : decode c_W_law 584 = .ok (.aload_n 2, 1) := by decide +kernel
theorem d_W_law_585 : decode c_W_law 585 = .ok (.invokevirtual 70, 3) := by decide +kernel
theorem d_W_law_588 : decode c_W_law 588 = .ok (.iload 5, 2) := by decide +kernel
theorem d_W_law_590 : decode c_W_law 590 = .ok (.if_icmp .eq 5, 3) := by decide +kernel
theorem d_W_law_593 : decode c_W_law 593 = .ok (.iconst 0, 1) := by decide +kernel
theorem d_W_law_594 : decode c_W_law 594 = .ok (.ireturn, 1) := by decide +kernel
theorem d_W_law_595 : decode c_W_law 595 = .ok (.iload 5, 2) := by decide +kernel
theorem d_W_law_597 : decode c_W_law 597 = .ok (.ifCond .ne 15, 3) := by decide +kernel
theorem d_W_law_600 : decode c_W_law 600 = .ok (.aload_n 3, 1) := by decide +kernel
theorem d_W_law_601 : decode c_W_law 601 = .ok (.iconst 0, 1) := by decide +kernel
theorem d_W_law_602 : decode c_W_law 602 = .ok (.laload, 1) := by decide +kernel
theorem d_W_law_603 : decode c_W_law 603 = .ok (.iload 6, 2) := by decide +kernel
theorem d_W_law_605 : decode c_W_law 605 = .ok (.i2l, 1) := by decide +kernel
theorem d_W_law_606 : decode c_W_law 606 = .ok (.lcmp, 1) := by decide +kernel
theorem d_W_law_607 : decode c_W_law 607 = .ok (.ifCond .eq 5, 3) := by decide +kernel
theorem d_W_law_610 : decode c_W_law 610 = .ok (.iconst 0, 1) := by decide +kernel
theorem d_W_law_611 : decode c_W_law 611 = .ok (.ireturn, 1) := by decide +kernel
theorem d_W_law_612 : decode c_W_law 612 = .ok (.goto 356, 3) := by decide +kernel
theorem d_W_law_615 : decode c_W_law 615 = .ok (.aload_n 1, 1) := by decide +kernel
theorem d_W_law_616 : decode c_W_law 616 = .ok (.aload_n 0, 1) := by decide +kernel
theorem d_W_law_617 : decode c_W_law 617 = .ok (.iload 4, 2) := by decide +kernel
theorem d_W_law_619 : decode c_W_law 619 = .ok (.iconst 1, 1) := by decide +kernel
theorem d_W_law_620 : decode c_W_law 620 = .ok (.iadd, 1) := by decide +kernel
theorem d_W_law_621 : decode c_W_law 621 = .ok (.iaload, 1) := by decide +kernel
theorem d_W_law_622 : decode c_W_law 622 = .ok (.aload_n 0, 1) := by decide +kernel
theorem d_W_law_623 : decode c_W_law 623 = .ok (.iload 4, 2) := by decide +kernel
theorem d_W_law_625 : decode c_W_law 625 = .ok (.iconst 2, 1) := by decide +kernel
theorem d_W_law_626 : decode c_W_law 626 = .ok (.iadd, 1) := by decide +kernel
theorem d_W_law_627 : decode c_W_law 627 = .ok (.iaload, 1) := by decide +kernel
theorem d_W_law_628 : decode c_W_law 628 = .ok (.aload_n 3, 1) := by decide +kernel
theorem d_W_law_629 : decode c_W_law 629 = .ok (.invokestatic 96, 3) := by decide +kernel
theorem d_W_law_632 : decode c_W_law 632 = .ok (.istore 5, 2) := by decide +kernel
theorem d_W_law_634 : decode c_W_law 634 = .ok (.aload_n 2, 1) := by decide +kernel
theorem d_W_law_635 : decode c_W_law 635 = .ok (.aload_n 0, 1) := by decide +kernel
theorem d_W_law_636 : decode c_W_law 636 = .ok (.iload 4, 2) := by decide +kernel
theorem d_W_law_638 : decode c_W_law 638 = .ok (.iconst 1, 1) := by decide +kernel
theorem d_W_law_639 : decode c_W_law 639 = .ok (.iadd, 1) := by decide +kernel
theorem d_W_law_640 : decode c_W_law 640 = .ok (.iaload, 1) := by decide +kernel
theorem d_W_law_641 : decode c_W_law 641 = .ok (.aload_n 0, 1) := by decide +kernel
theorem d_W_law_642 : decode c_W_law 642 = .ok (.iload 4, 2) := by decide +kernel
theorem d_W_law_644 : decode c_W_law 644 = .ok (.iconst 2, 1) := by decide +kernel
theorem d_W_law_645 : decode c_W_law 645 = .ok (.iadd, 1) := by decide +kernel
theorem d_W_law_646 : decode c_W_law 646 = .ok (.iaload, 1) := by decide +kernel
theorem d_W_law_647 : decode c_W_law 647 = .ok (.invokevirtual 98, 3) := by decide +kernel
theorem d_W_law_650 : decode c_W_law 650 = .ok (.istore 6, 2) := by decide +kernel
theorem d_W_law_652 : decode c_W_law 652 = .ok (.aload_n 2, 1) := by decide +kernel
theorem d_W_law_653 : decode c_W_law 653 = .ok (.invokevirtual 70, 3) := by decide +kernel
theorem d_W_law_656 : decode c_W_law 656 = .ok (.iload 5, 2) := by decide +kernel
theorem d_W_law_658 : decode c_W_law 658 = .ok (.if_icmp .eq 5, 3) := by decide +kernel
theorem d_W_law_661 : decode c_W_law 661 = .ok (.iconst 0, 1) := by decide +kernel
theorem d_W_law_662 : decode c_W_law 662 = .ok (.ireturn, 1) := by decide +kernel
theorem d_W_law_663 : decode c_W_law 663 = .ok (.iload 5, 2) := by decide +kernel
theorem d_W_law_665 : decode c_W_law 665 = .ok (.ifCond .ne 15, 3) := by decide +kernel
theorem d_W_law_668 : decode c_W_law 668 = .ok (.aload_n 3, 1) := by decide +kernel
theorem d_W_law_669 : decode c_W_law 669 = .ok (.iconst 0, 1) := by decide +kernel
theorem d_W_law_670 : decode c_W_law 670 = .ok (.laload, 1) := by decide +kernel
theorem d_W_law_671 : decode c_W_law 671 = .ok (.iload 6, 2) := by decide +kernel
theorem d_W_law_673 : decode c_W_law 673 = .ok (.i2l, 1) := by decide +kernel
theorem d_W_law_674 : decode c_W_law 674 = .ok (.lcmp, 1) := by decide +kernel
theorem d_W_law_675 : decode c_W_law 675 = .ok (.ifCond .eq 5, 3) := by decide +kernel
theorem d_W_law_678 : decode c_W_law 678 = .ok (.iconst 0, 1) := by decide +kernel
theorem d_W_law_679 : decode c_W_law 679 = .ok (.ireturn, 1) := by decide +kernel
theorem d_W_law_680 : decode c_W_law 680 = .ok (.goto 288, 3) := by decide +kernel
theorem d_W_law_683 : decode c_W_law 683 = .ok (.aload_n 1, 1) := by decide +kernel
theorem d_W_law_684 : decode c_W_law 684 = .ok (.invokevirtual 99, 3) := by decide +kernel
theorem d_W_law_687 : decode c_W_law 687 = .ok (.aload_n 2, 1) := by decide +kernel
theorem d_W_law_688 : decode c_W_law 688 = .ok (.invokevirtual 102, 3) := by decide +kernel
theorem d_W_law_691 : decode c_W_law 691 = .ok (.if_icmp .eq 277, 3) := by decide +kernel
theorem d_W_law_694 : decode c_W_law 694 = .ok (.iconst 0, 1) := by decide +kernel
theorem d_W_law_695 : decode c_W_law 695 = .ok (.ireturn, 1) := by decide +kernel
theorem d_W_law_696 : decode c_W_law 696 = .ok (.aload_n 1, 1) := by decide +kernel
theorem d_W_law_697 : decode c_W_law 697 = .ok (.invokevirtual 103, 3) := by decide +kernel
theorem d_W_law_700 : decode c_W_law 700 = .ok (.aload_n 2, 1) := by decide +kernel
theorem d_W_law_701 : decode c_W_law 701 = .ok (.invokevirtual 106, 3) := by decide +kernel
theorem d_W_law_704 : decode c_W_law 704 = .ok (.if_icmp .eq 264, 3) := by decide +kernel
theorem d_W_law_707 : decode c_W_law 707 = .ok (.iconst 0, 1) := by decide +kernel
theorem d_W_law_708 : decode c_W_law 708 = .ok (.ireturn, 1) := by decide +kernel
theorem d_W_law_709 : decode c_W_law 709 = .ok (.aload_n 1, 1) := by decide +kernel
theorem d_W_law_710 : decode c_W_law 710 = .ok (.aload_n 0, 1) := by decide +kernel
theorem d_W_law_711 : decode c_W_law 711 = .ok (.iload 4, 2) := by decide +kernel
theorem d_W_law_713 : decode c_W_law 713 = .ok (.iconst 1, 1) := by decide +kernel
theorem d_W_law_714 : decode c_W_law 714 = .ok (.iadd, 1) := by decide +kernel
theorem d_W_law_715 : decode c_W_law 715 = .ok (.iaload, 1) := by decide +kernel
theorem d_W_law_716 : decode c_W_law 716 = .ok (.aload_n 0, 1) := by decide +kernel
theorem d_W_law_717 : decode c_W_law 717 = .ok (.iload 4, 2) := by decide +kernel
theorem d_W_law_719 : decode c_W_law 719 = .ok (.iconst 2, 1) := by decide +kernel
theorem d_W_law_720 : decode c_W_law 720 = .ok (.iadd, 1) := by decide +kernel
theorem d_W_law_721 : decode c_W_law 721 = .ok (.iaload, 1) := by decide +kernel
theorem d_W_law_722 : decode c_W_law 722 = .ok (.aload_n 3, 1) := by decide +kernel
theorem d_W_law_723 : decode c_W_law 723 = .ok (.invokestatic 107, 3) := by decide +kernel
theorem d_W_law_726 : decode c_W_law 726 = .ok (.istore 5, 2) := by decide +kernel
theorem d_W_law_728 : decode c_W_law 728 = .ok (.aload_n 2, 1) := by decide +kernel
theorem d_W_law_729 : decode c_W_law 729 = .ok (.aload_n 0, 1) := by decide +kernel
theorem d_W_law_730 : decode c_W_law 730 = .ok (.iload 4, 2) := by decide +kernel
theorem d_W_law_732 : decode c_W_law 732 = .ok (.iconst 1, 1) := by decide +kernel
theorem d_W_law_733 : decode c_W_law 733 = .ok (.iadd, 1) := by decide +kernel
theorem d_W_law_734 : decode c_W_law 734 = .ok (.iaload, 1) := by decide +kernel
theorem d_W_law_735 : decode c_W_law 735 = .ok (.aload_n 0, 1) := by decide +kernel
theorem d_W_law_736 : decode c_W_law 736 = .ok (.iload 4, 2) := by decide +kernel
theorem d_W_law_738 : decode c_W_law 738 = .ok (.iconst 2, 1) := by decide +kernel
theorem d_W_law_739 : decode c_W_law 739 = .ok (.iadd, 1) := by decide +kernel
theorem d_W_law_740 : decode c_W_law 740 = .ok (.iaload, 1) := by decide +kernel
theorem d_W_law_741 : decode c_W_law 741 = .ok (.invokevirtual 109, 3) := by decide +kernel
theorem d_W_law_744 : decode c_W_law 744 = .ok (.istore 6, 2) := by decide +kernel
theorem d_W_law_746 : decode c_W_law 746 = .ok (.aload_n 2, 1) := by decide +kernel
theorem d_W_law_747 : decode c_W_law 747 = .ok (.invokevirtual 70, 3) := by decide +kernel
theorem d_W_law_750 : decode c_W_law 750 = .ok (.iload 5, 2) := by decide +kernel
theorem d_W_law_752 : decode c_W_law 752 = .ok (.if_icmp .eq 5, 3) := by decide +kernel
theorem d_W_law_755 : decode c_W_law 755 = .ok (.iconst 0, 1) := by decide +kernel
theorem d_W_law_756 : decode c_W_law 756 = .ok (.ireturn, 1) := by decide +kernel
theorem d_W_law_757 : decode c_W_law 757 = .ok (.iload 5, 2) := by decide +kernel
theorem d_W_law_759 : decode c_W_law 759 = .ok (.ifCond .ne 15, 3) := by decide +kernel
theorem d_W_law_762 : decode c_W_law 762 = .ok (.aload_n 3, 1) := by decide +kernel
theorem d_W_law_763 : decode c_W_law 763 = .ok (.iconst 0, 1) := by decide +kernel
theorem d_W_law_764 : decode c_W_law 764 = .ok (.laload, 1) := by decide +kernel
theorem d_W_law_765 : decode c_W_law 765 = .ok (.iload 6, 2) := by decide +kernel
theorem d_W_law_767 : decode c_W_law 767 = .ok (.i2l, 1) := by decide +kernel
theorem d_W_law_768 : decode c_W_law 768 = .ok (.lcmp, 1) := by decide +kernel
theorem d_W_law_769 : decode c_W_law 769 = .ok (.ifCond .eq 5, 3) := by decide +kernel
theorem d_W_law_772 : decode c_W_law 772 = .ok (.iconst 0, 1) := by decide +kernel
theorem d_W_law_773 : decode c_W_law 773 = .ok (.ireturn, 1) := by decide +kernel
theorem d_W_law_774 : decode c_W_law 774 = .ok (.goto 194, 3) := by decide +kernel
theorem d_W_law_777 : decode c_W_law 777 = .ok (.aload_n 1, 1) := by decide +kernel
theorem d_W_law_778 : decode c_W_law 778 = .ok (.aload_n 0, 1) := by decide +kernel
theorem d_W_law_779 : decode c_W_law 779 = .ok (.iload 4, 2) := by decide +kernel
theorem d_W_law_781 : decode c_W_law 781 = .ok (.iconst 1, 1) := by decide +kernel
theorem d_W_law_782 : decode c_W_law 782 = .ok (.iadd, 1) := by decide +kernel
theorem d_W_law_783 : decode c_W_law 783 = .ok (.iaload, 1) := by decide +kernel
theorem d_W_law_784 : decode c_W_law 784 = .ok (.aload_n 3, 1) := by decide +kernel
theorem d_W_law_785 : decode c_W_law 785 = .ok (.invokestatic 110, 3) := by decide +kernel
theorem d_W_law_788 : decode c_W_law 788 = .ok (.istore 5, 2) := by decide +kernel
theorem d_W_law_790 : decode c_W_law 790 = .ok (.aload_n 2, 1) := by decide +kernel
theorem d_W_law_791 : decode c_W_law 791 = .ok (.aload_n 0, 1) := by decide +kernel
theorem d_W_law_792 : decode c_W_law 792 = .ok (.iload 4, 2) := by decide +kernel
theorem d_W_law_794 : decode c_W_law 794 = .ok (.iconst 1, 1) := by decide +kernel
theorem d_W_law_795 : decode c_W_law 795 = .ok (.iadd, 1) := by decide +kernel
theorem d_W_law_796 : decode c_W_law 796 = .ok (.iaload, 1) := by decide +kernel
theorem d_W_law_797 : decode c_W_law 797 = .ok (.invokevirtual 112, 3) := by decide +kernel
theorem d_W_law_800 : decode c_W_law 800 = .ok (.lstore 6, 2) := by decide +kernel
theorem d_W_law_802 : decode c_W_law 802 = .ok (.aload_n 2, 1) := by decide +kernel
theorem d_W_law_803 : decode c_W_law 803 = .ok (.invokevirtual 70, 3) := by decide +kernel
theorem d_W_law_806 : decode c_W_law 806 = .ok (.iload 5, 2) := by decide +kernel
theorem d_W_law_808 : decode c_W_law 808 = .ok (.if_icmp .eq 5, 3) := by decide +kernel
theorem d_W_law_811 : decode c_W_law 811 = .ok (.iconst 0, 1) := by decide +kernel
theorem d_W_law_812 : decode c_W_law 812 = .ok (.ireturn, 1) := by decide +kernel
theorem d_W_law_813 : decode c_W_law 813 = .ok (.iload 5, 2) := by decide +kernel
theorem d_W_law_815 : decode c_W_law 815 = .ok (.ifCond .ne 14, 3) := by decide +kernel
theorem d_W_law_818 : decode c_W_law 818 = .ok (.aload_n 3, 1) := by decide +kernel
theorem d_W_law_819 : decode c_W_law 819 = .ok (.iconst 0, 1) := by decide +kernel
theorem d_W_law_820 : decode c_W_law 820 = .ok (.laload, 1) := by decide +kernel
theorem d_W_law_821 : decode c_W_law 821 = .ok (.lload 6, 2) := by decide +kernel
theorem d_W_law_823 : decode c_W_law 823 = .ok (.lcmp, 1) := by decide +kernel
theorem d_W_law_824 : decode c_W_law 824 = .ok (.ifCond .eq 5, 3) := by decide +kernel
theorem d_W_law_827 : decode c_W_law 827 = .ok (.iconst 0, 1) := by decide +kernel
theorem d_W_law_828 : decode c_W_law 828 = .ok (.ireturn, 1) := by decide +kernel
theorem d_W_law_829 : decode c_W_law 829 = .ok (.goto 139, 3) := by decide +kernel
theorem d_W_law_832 : decode c_W_law 832 = .ok (.aload_n 1, 1) := by decide +kernel
theorem d_W_law_833 : decode c_W_law 833 = .ok (.aload_n 0, 1) := by decide +kernel
theorem d_W_law_834 : decode c_W_law 834 = .ok (.iload 4, 2) := by decide +kernel
theorem d_W_law_836 : decode c_W_law 836 = .ok (.iconst 1, 1) := by decide +kernel
theorem d_W_law_837 : decode c_W_law 837 = .ok (.iadd, 1) := by decide +kernel
theorem d_W_law_838 : decode c_W_law 838 = .ok (.iaload, 1) := by decide +kernel
theorem d_W_law_839 : decode c_W_law 839 = .ok (.aload_n 0, 1) := by decide +kernel
theorem d_W_law_840 : decode c_W_law 840 = .ok (.iload 4, 2) := by decide +kernel
theorem d_W_law_842 : decode c_W_law 842 = .ok (.iconst 2, 1) := by decide +kernel
theorem d_W_law_843 : decode c_W_law 843 = .ok (.iadd, 1) := by decide +kernel
theorem d_W_law_844 : decode c_W_law 844 = .ok (.iaload, 1) := by decide +kernel
theorem d_W_law_845 : decode c_W_law 845 = .ok (.aload_n 3, 1) := by decide +kernel
theorem d_W_law_846 : decode c_W_law 846 = .ok (.invokestatic 113, 3) := by decide +kernel
theorem d_W_law_849 : decode c_W_law 849 = .ok (.istore 5, 2) := by decide +kernel
theorem d_W_law_851 : decode c_W_law 851 = .ok (.aload_n 2, 1) := by decide +kernel
theorem d_W_law_852 : decode c_W_law 852 = .ok (.aload_n 0, 1) := by decide +kernel
theorem d_W_law_853 : decode c_W_law 853 = .ok (.iload 4, 2) := by decide +kernel
theorem d_W_law_855 : decode c_W_law 855 = .ok (.iconst 1, 1) := by decide +kernel
theorem d_W_law_856 : decode c_W_law 856 = .ok (.iadd, 1) := by decide +kernel
theorem d_W_law_857 : decode c_W_law 857 = .ok (.iaload, 1) := by decide +kernel
theorem d_W_law_858 : decode c_W_law 858 = .ok (.aload_n 0, 1) := by decide +kernel
theorem d_W_law_859 : decode c_W_law 859 = .ok (.iload 4, 2) := by decide +kernel
theorem d_W_law_861 : decode c_W_law 861 = .ok (.iconst 2, 1) := by decide +kernel
theorem d_W_law_862 : decode c_W_law 862 = .ok (.iadd, 1) := by decide +kernel
theorem d_W_law_863 : decode c_W_law 863 = .ok (.iaload, 1) := by decide +kernel
theorem d_W_law_864 : decode c_W_law 864 = .ok (.invokevirtual 115, 3) := by decide +kernel
theorem d_W_law_867 : decode c_W_law 867 = .ok (.istore 6, 2) := by decide +kernel
theorem d_W_law_869 : decode c_W_law 869 = .ok (.aload_n 2, 1) := by decide +kernel
theorem d_W_law_870 : decode c_W_law 870 = .ok (.invokevirtual 70, 3) := by decide +kernel
theorem d_W_law_873 : decode c_W_law 873 = .ok (.iload 5, 2) := by decide +kernel
theorem d_W_law_875 : decode c_W_law 875 = .ok (.if_icmp .eq 5, 3) := by decide +kernel
theorem d_W_law_878 : decode c_W_law 878 = .ok (.iconst 0, 1) := by decide +kernel
theorem d_W_law_879 : decode c_W_law 879 = .ok (.ireturn, 1) := by decide +kernel
theorem d_W_law_880 : decode c_W_law 880 = .ok (.iload 5, 2) := by decide +kernel
theorem d_W_law_882 : decode c_W_law 882 = .ok (.ifCond .ne 15, 3) := by decide +kernel
theorem d_W_law_885 : decode c_W_law 885 = .ok (.aload_n 3, 1) := by decide +kernel
theorem d_W_law_886 : decode c_W_law 886 = .ok (.iconst 0, 1) := by decide +kernel
theorem d_W_law_887 : decode c_W_law 887 = .ok (.laload, 1) := by decide +kernel
theorem d_W_law_888 : decode c_W_law 888 = .ok (.iload 6, 2) := by decide +kernel
theorem d_W_law_890 : decode c_W_law 890 = .ok (.i2l, 1) := by decide +kernel
theorem d_W_law_891 : decode c_W_law 891 = .ok (.lcmp, 1) := by decide +kernel
theorem d_W_law_892 : decode c_W_law 892 = .ok (.ifCond .eq 5, 3) := by decide +kernel
theorem d_W_law_895 : decode c_W_law 895 = .ok (.iconst 0, 1) := by decide +kernel
theorem d_W_law_896 : decode c_W_law 896 = .ok (.ireturn, 1) := by decide +kernel
theorem d_W_law_897 : decode c_W_law 897 = .ok (.goto 71, 3) := by decide +kernel
theorem d_W_law_900 : decode c_W_law 900 = .ok (.aload_n 1, 1) := by decide +kernel
theorem d_W_law_901 : decode c_W_law 901 = .ok (.aload_n 0, 1) := by decide +kernel
theorem d_W_law_902 : decode c_W_law 902 = .ok (.iload 4, 2) := by decide +kernel
theorem d_W_law_904 : decode c_W_law 904 = .ok (.iconst 1, 1) := by decide +kernel
theorem d_W_law_905 : decode c_W_law 905 = .ok (.iadd, 1) := by decide +kernel
theorem d_W_law_906 : decode c_W_law 906 = .ok (.iaload, 1) := by decide +kernel
theorem d_W_law_907 : decode c_W_law 907 = .ok (.aload_n 0, 1) := by decide +kernel
theorem d_W_law_908 : decode c_W_law 908 = .ok (.iload 4, 2) := by decide +kernel
theorem d_W_law_910 : decode c_W_law 910 = .ok (.iconst 2, 1) := by decide +kernel
theorem d_W_law_911 : decode c_W_law 911 = .ok (.iadd, 1) := by decide +kernel
theorem d_W_law_912 : decode c_W_law 912 = .ok (.iaload, 1) := by decide +kernel
theorem d_W_law_913 : decode c_W_law 913 = .ok (.aload_n 3, 1) := by decide +kernel
theorem d_W_law_914 : decode c_W_law 914 = .ok (.invokestatic 116, 3) := by decide +kernel
theorem d_W_law_917 : decode c_W_law 917 = .ok (.istore 5, 2) := by decide +kernel
theorem d_W_law_919 : decode c_W_law 919 = .ok (.aload_n 2, 1) := by decide +kernel
theorem d_W_law_920 : decode c_W_law 920 = .ok (.aload_n 0, 1) := by decide +kernel
theorem d_W_law_921 : decode c_W_law 921 = .ok (.iload 4, 2) := by decide +kernel
theorem d_W_law_923 : decode c_W_law 923 = .ok (.iconst 1, 1) := by decide +kernel
theorem d_W_law_924 : decode c_W_law 924 = .ok (.iadd, 1) := by decide +kernel
theorem d_W_law_925 : decode c_W_law 925 = .ok (.iaload, 1) := by decide +kernel
theorem d_W_law_926 : decode c_W_law 926 = .ok (.aload_n 0, 1) := by decide +kernel
theorem d_W_law_927 : decode c_W_law 927 = .ok (.iload 4, 2) := by decide +kernel
theorem d_W_law_929 : decode c_W_law 929 = .ok (.iconst 2, 1) := by decide +kernel
theorem d_W_law_930 : decode c_W_law 930 = .ok (.iadd, 1) := by decide +kernel
theorem d_W_law_931 : decode c_W_law 931 = .ok (.iaload, 1) := by decide +kernel
theorem d_W_law_932 : decode c_W_law 932 = .ok (.invokevirtual 118, 3) := by decide +kernel
theorem d_W_law_935 : decode c_W_law 935 = .ok (.istore 6, 2) := by decide +kernel
theorem d_W_law_937 : decode c_W_law 937 = .ok (.aload_n 2, 1) := by decide +kernel
theorem d_W_law_938 : decode c_W_law 938 = .ok (.invokevirtual 70, 3) := by decide +kernel
theorem d_W_law_941 : decode c_W_law 941 = .ok (.iload 5, 2) := by decide +kernel
theorem d_W_law_943 : decode c_W_law 943 = .ok (.if_icmp .eq 5, 3) := by decide +kernel
theorem d_W_law_946 : decode c_W_law 946 = .ok (.iconst 0, 1) := by decide +kernel
theorem d_W_law_947 : decode c_W_law 947 = .ok (.ireturn, 1) := by decide +kernel
theorem d_W_law_948 : decode c_W_law 948 = .ok (.iload 5, 2) := by decide +kernel
theorem d_W_law_950 : decode c_W_law 950 = .ok (.ifCond .ne 15, 3) := by decide +kernel
theorem d_W_law_953 : decode c_W_law 953 = .ok (.aload_n 3, 1) := by decide +kernel
theorem d_W_law_954 : decode c_W_law 954 = .ok (.iconst 0, 1) := by decide +kernel
theorem d_W_law_955 : decode c_W_law 955 = .ok (.laload, 1) := by decide +kernel
theorem d_W_law_956 : decode c_W_law 956 = .ok (.iload 6, 2) := by decide +kernel
theorem d_W_law_958 : decode c_W_law 958 = .ok (.i2l, 1) := by decide +kernel
theorem d_W_law_959 : decode c_W_law 959 = .ok (.lcmp, 1) := by decide +kernel
theorem d_W_law_960 : decode c_W_law 960 = .ok (.ifCond .eq 5, 3) := by decide +kernel
theorem d_W_law_963 : decode c_W_law 963 = .ok (.iconst 0, 1) := by decide +kernel
theorem d_W_law_964 : decode c_W_law 964 = .ok (.ireturn, 1) := by decide +kernel
theorem d_W_law_965 : decode c_W_law 965 = .ok (.goto 3, 3) := by decide +kernel
theorem d_W_law_968 : decode c_W_law 968 = .ok (.iinc 4 6, 3) := by decide +kernel
theorem d_W_law_971 : decode c_W_law 971 = .ok (.goto (-948), 3) := by decide +kernel
theorem d_W_law_974 : decode c_W_law 974 = .ok (.iconst 1, 1) := by decide +kernel
theorem d_W_law_975 : decode c_W_law 975 = .ok (.ireturn, 1) := by decide +kernel
