abbrev i_EK_init : kx_I := ("EventKeeper", c_EK_init, 2, none, [], "<init>")
abbrev i_EK_append : kx_I := ("EventKeeper", c_EK_append, 6, some .int, [], "append")
abbrev i_EK_rule : kx_I := ("EventKeeper", c_EK_rule, 5, none, [], "rule")
abbrev i_EK_advance : kx_I := ("EventKeeper", c_EK_advance, 4, some .int, [], "advance")
abbrev i_EK_save : kx_I := ("EventKeeper", c_EK_save, 2, some .int, [], "save")
abbrev i_EK_cell : kx_I := ("EventKeeper", c_EK_cell, 3, some .long, [], "cell")
abbrev i_EK_filter : kx_I := ("EventKeeper", c_EK_filter, 4, none, [], "filter")
abbrev i_EK_next : kx_I := ("EventKeeper", c_EK_next, 2, some .int, [], "next")
abbrev i_EK_acknowledge : kx_I := ("EventKeeper", c_EK_acknowledge, 3, some .int, [], "acknowledge")
abbrev i_EK_sync : kx_I := ("EventKeeper", c_EK_sync, 2, some .int, [], "sync")
abbrev i_EK_crash : kx_I := ("EventKeeper", c_EK_crash, 2, some .int, [], "crash")
abbrev i_EK_event : kx_I := ("EventKeeper", c_EK_event, 3, some .int, [], "event")
abbrev i_EK_value : kx_I := ("EventKeeper", c_EK_value, 2, some .long, [], "value")
abbrev i_EK_find : kx_I := ("EventKeeper", c_EK_find, 4, some .int, [], "find")
abbrev i_EK_count : kx_I := ("EventKeeper", c_EK_count, 3, some .int, [], "count")
abbrev i_EK_checkArgument : kx_I := ("EventKeeper", c_EK_checkArgument, 1, none, [], "checkArgument")
abbrev i_EK_checkStream : kx_I := ("EventKeeper", c_EK_checkStream, 1, none, [], "checkStream")
abbrev i_EK_checkKind : kx_I := ("EventKeeper", c_EK_checkKind, 1, none, [], "checkKind")
abbrev i_EK_checkProjection : kx_I := ("EventKeeper", c_EK_checkProjection, 1, none, [], "checkProjection")
abbrev i_EK_checkSubscription : kx_I := ("EventKeeper", c_EK_checkSubscription, 1, none, [], "checkSubscription")
abbrev i_EK_checkPlace : kx_I := ("EventKeeper", c_EK_checkPlace, 2, none, [], "checkPlace")
abbrev i_M_init : kx_I := ("EventKeeperModel", c_M_init, 2, none, [], "<init>")
abbrev i_M_thrown : kx_I := ("EventKeeperModel", c_M_thrown, 1, some .int, [], "thrown")
abbrev i_M_in : kx_I := ("EventKeeperModel", c_M_in, 3, some .boolean, [], "in")
abbrev i_M_fails : kx_I := ("EventKeeperModel", c_M_fails, 3, some .boolean, [], "fails")
abbrev i_M_inStream : kx_I := ("EventKeeperModel", c_M_inStream, 5, some .int, [], "inStream")
abbrev i_M_put : kx_I := ("EventKeeperModel", c_M_put, 7, some .int, [], "put")
abbrev i_M_append : kx_I := ("EventKeeperModel", c_M_append, 6, some .int, [], "append")
abbrev i_M_isProjection : kx_I := ("EventKeeperModel", c_M_isProjection, 1, some .boolean, [], "isProjection")
abbrev i_M_begin : kx_I := ("EventKeeperModel", c_M_begin, 3, none, [], "begin")
abbrev i_M_rule : kx_I := ("EventKeeperModel", c_M_rule, 5, none, [], "rule")
abbrev i_M_advance : kx_I := ("EventKeeperModel", c_M_advance, 4, some .int, [], "advance")
abbrev i_M_takes : kx_I := ("EventKeeperModel", c_M_takes, 12, some .boolean, [], "takes")
abbrev i_M_save : kx_I := ("EventKeeperModel", c_M_save, 3, some .int, [], "save")
abbrev i_M_cell : kx_I := ("EventKeeperModel", c_M_cell, 3, some .long, [], "cell")
abbrev i_M_isSubscription : kx_I := ("EventKeeperModel", c_M_isSubscription, 1, some .boolean, [], "isSubscription")
abbrev i_M_filter : kx_I := ("EventKeeperModel", c_M_filter, 4, none, [], "filter")
abbrev i_M_next : kx_I := ("EventKeeperModel", c_M_next, 3, some .int, [], "next")
abbrev i_M_acknowledge : kx_I := ("EventKeeperModel", c_M_acknowledge, 3, some .int, [], "acknowledge")
abbrev i_M_sync : kx_I := ("EventKeeperModel", c_M_sync, 2, some .int, [], "sync")
abbrev i_M_crash : kx_I := ("EventKeeperModel", c_M_crash, 3, some .int, [], "crash")
abbrev i_M_isNone : kx_I := ("EventKeeperModel", c_M_isNone, 2, some .boolean, [], "isNone")
abbrev i_M_event : kx_I := ("EventKeeperModel", c_M_event, 3, some .int, [], "event")
abbrev i_M_value : kx_I := ("EventKeeperModel", c_M_value, 2, some .long, [], "value")
abbrev i_M_find : kx_I := ("EventKeeperModel", c_M_find, 4, some .int, [], "find")
abbrev i_M_count : kx_I := ("EventKeeperModel", c_M_count, 5, some .int, [], "count")
abbrev i_L_init : kx_I := ("EventKeeper$Log", c_L_init, 1, none, [], "<init>")
abbrev i_L_isFull : kx_I := ("EventKeeper$Log", c_L_isFull, 1, some .boolean, [], "isFull")
abbrev i_L_put : kx_I := ("EventKeeper$Log", c_L_put, 6, some .int, [], "put")
abbrev i_L_putEmitted : kx_I := ("EventKeeper$Log", c_L_putEmitted, 6, none, [], "putEmitted")
abbrev i_L_hasEmitted : kx_I := ("EventKeeper$Log", c_L_hasEmitted, 3, some .boolean, [], "hasEmitted")
abbrev i_L_dropUndurable : kx_I := ("EventKeeper$Log", c_L_dropUndurable, 2, none, [], "dropUndurable")
abbrev i_L_forgetCause : kx_I := ("EventKeeper$Log", c_L_forgetCause, 3, none, [], "forgetCause")
abbrev i_L_placeOf : kx_I := ("EventKeeper$Log", c_L_placeOf, 4, some .int, [], "placeOf")
abbrev i_P_init : kx_I := ("EventKeeper$Projection", c_P_init, 2, none, [], "<init>")
abbrev i_P_setRule : kx_I := ("EventKeeper$Projection", c_P_setRule, 4, none, [], "setRule")
abbrev i_P_takeOne : kx_I := ("EventKeeper$Projection", c_P_takeOne, 4, some .boolean, [], "takeOne")
abbrev i_P_targetCell : kx_I := ("EventKeeper$Projection", c_P_targetCell, 2, some .int, [], "targetCell")
abbrev i_P_folded : kx_I := ("EventKeeper$Projection", c_P_folded, 5, some .long, [], "folded")
abbrev i_P_countAndEmit : kx_I := ("EventKeeper$Projection", c_P_countAndEmit, 6, some .boolean, [], "countAndEmit")
abbrev i_P_keep : kx_I := ("EventKeeper$Projection", c_P_keep, 2, some .int, [], "keep")
abbrev i_P_recover : kx_I := ("EventKeeper$Projection", c_P_recover, 2, none, [], "recover")
abbrev i_P_startOver : kx_I := ("EventKeeper$Projection", c_P_startOver, 2, none, [], "startOver")
abbrev i_S_init : kx_I := ("EventKeeper$Subscription", c_S_init, 1, none, [], "<init>")
abbrev i_S_setFilter : kx_I := ("EventKeeper$Subscription", c_S_setFilter, 3, none, [], "setFilter")
abbrev i_S_firstWaiting : kx_I := ("EventKeeper$Subscription", c_S_firstWaiting, 3, some .int, [], "firstWaiting")
abbrev i_S_letsThrough : kx_I := ("EventKeeper$Subscription", c_S_letsThrough, 4, some .boolean, [], "letsThrough")
abbrev i_S_passBehind : kx_I := ("EventKeeper$Subscription", c_S_passBehind, 2, some .int, [], "passBehind")
abbrev i_S_makeSafe : kx_I := ("EventKeeper$Subscription", c_S_makeSafe, 1, none, [], "makeSafe")
abbrev i_S_recover : kx_I := ("EventKeeper$Subscription", c_S_recover, 2, none, [], "recover")
abbrev i_W_append : kx_I := ("EventKeeperLaw", c_W_append, 8, some .int, [(0, 14, 17, 13), (0, 14, 21, 15), (0, 14, 25, 17)], "append")
abbrev i_W_rule : kx_I := ("EventKeeperLaw", c_W_rule, 6, some .int, [(0, 9, 12, 13)], "rule")
abbrev i_W_advance : kx_I := ("EventKeeperLaw", c_W_advance, 5, some .int, [(0, 10, 13, 13)], "advance")
abbrev i_W_save : kx_I := ("EventKeeperLaw", c_W_save, 4, some .int, [(0, 9, 12, 13)], "save")
abbrev i_W_cell : kx_I := ("EventKeeperLaw", c_W_cell, 5, some .int, [(0, 9, 12, 13), (0, 9, 16, 17)], "cell")
abbrev i_W_filter : kx_I := ("EventKeeperLaw", c_W_filter, 5, some .int, [(0, 7, 10, 13)], "filter")
abbrev i_W_next : kx_I := ("EventKeeperLaw", c_W_next, 4, some .int, [(0, 9, 12, 13)], "next")
abbrev i_W_acknowledge : kx_I := ("EventKeeperLaw", c_W_acknowledge, 5, some .int, [(0, 10, 13, 13), (0, 10, 17, 17)], "acknowledge")
abbrev i_W_event : kx_I := ("EventKeeperLaw", c_W_event, 5, some .int, [(0, 10, 13, 13), (0, 10, 17, 17)], "event")
abbrev i_W_value : kx_I := ("EventKeeperLaw", c_W_value, 4, some .int, [(0, 8, 11, 17)], "value")
abbrev i_W_find : kx_I := ("EventKeeperLaw", c_W_find, 5, some .int, [(0, 10, 13, 13), (0, 10, 17, 17)], "find")
abbrev i_W_count : kx_I := ("EventKeeperLaw", c_W_count, 5, some .int, [(0, 10, 13, 13)], "count")
abbrev i_W_law : kx_I := ("EventKeeperLaw", c_W_law, 8, some .boolean, [], "law")
theorem fw_EK_0 : kx_fw "EventKeeper" "<init>" 0 0 (.object "EventKeeper$Log") := ⟨_, T_EK, 3, ty_EK, rfl, by decide +kernel, kp_EK, kn_EK, Or.inr ⟨rfl, rfl, rfl⟩⟩
theorem fw_EK_1 : kx_fw "EventKeeper" "<init>" 0 1 (.array (.object "EventKeeper$Projection")) := ⟨_, T_EK, 3, ty_EK, rfl, by decide +kernel, kp_EK, kn_EK, Or.inr ⟨rfl, rfl, rfl⟩⟩
theorem fw_EK_2 : kx_fw "EventKeeper" "<init>" 0 2 (.array (.object "EventKeeper$Subscription")) := ⟨_, T_EK, 3, ty_EK, rfl, by decide +kernel, kp_EK, kn_EK, Or.inr ⟨rfl, rfl, rfl⟩⟩
theorem fw_L_0 : kx_fw "EventKeeper$Log" "<init>" 1 0 (.array .int) := ⟨_, T_L, 11, ty_L, rfl, by decide +kernel, kp_L, kn_L, Or.inr ⟨rfl, rfl, rfl⟩⟩
theorem fw_L_1 : kx_fw "EventKeeper$Log" "<init>" 1 1 (.array .int) := ⟨_, T_L, 11, ty_L, rfl, by decide +kernel, kp_L, kn_L, Or.inr ⟨rfl, rfl, rfl⟩⟩
theorem fw_L_2 : kx_fw "EventKeeper$Log" "<init>" 1 2 (.array .int) := ⟨_, T_L, 11, ty_L, rfl, by decide +kernel, kp_L, kn_L, Or.inr ⟨rfl, rfl, rfl⟩⟩
theorem fw_L_3 : kx_fw "EventKeeper$Log" "<init>" 1 3 (.array .long) := ⟨_, T_L, 11, ty_L, rfl, by decide +kernel, kp_L, kn_L, Or.inr ⟨rfl, rfl, rfl⟩⟩
theorem fw_L_4 : kx_fw "EventKeeper$Log" "<init>" 1 4 (.array .int) := ⟨_, T_L, 11, ty_L, rfl, by decide +kernel, kp_L, kn_L, Or.inr ⟨rfl, rfl, rfl⟩⟩
theorem fw_L_5 : kx_fw "EventKeeper$Log" "<init>" 1 5 (.array .int) := ⟨_, T_L, 11, ty_L, rfl, by decide +kernel, kp_L, kn_L, Or.inr ⟨rfl, rfl, rfl⟩⟩
theorem fw_L_6 : kx_fw "EventKeeper$Log" "<init>" 1 6 (.array .int) := ⟨_, T_L, 11, ty_L, rfl, by decide +kernel, kp_L, kn_L, Or.inr ⟨rfl, rfl, rfl⟩⟩
theorem fw_L_7 : kx_fw "EventKeeper$Log" "<init>" 1 7 (.array .int) := ⟨_, T_L, 11, ty_L, rfl, by decide +kernel, kp_L, kn_L, Or.inr ⟨rfl, rfl, rfl⟩⟩
theorem fw_L_8 : kx_fw "EventKeeper$Log" "<init>" 1 8 (.array .int) := ⟨_, T_L, 11, ty_L, rfl, by decide +kernel, kp_L, kn_L, Or.inr ⟨rfl, rfl, rfl⟩⟩
theorem fw_L_9 {own nm : String} : kx_fw own nm 1 9 .int := ⟨_, T_L, 11, ty_L, rfl, by decide +kernel, kp_L, kn_L, Or.inl rfl⟩
theorem fw_L_10 {own nm : String} : kx_fw own nm 1 10 .int := ⟨_, T_L, 11, ty_L, rfl, by decide +kernel, kp_L, kn_L, Or.inl rfl⟩
theorem fw_P_0 : kx_fw "EventKeeper$Projection" "<init>" 2 0 .int := ⟨_, T_P, 8, ty_P, rfl, by decide +kernel, kp_P, kn_P, Or.inr ⟨rfl, rfl, rfl⟩⟩
theorem fw_P_1 : kx_fw "EventKeeper$Projection" "<init>" 2 1 (.array .int) := ⟨_, T_P, 8, ty_P, rfl, by decide +kernel, kp_P, kn_P, Or.inr ⟨rfl, rfl, rfl⟩⟩
theorem fw_P_2 : kx_fw "EventKeeper$Projection" "<init>" 2 2 (.array .int) := ⟨_, T_P, 8, ty_P, rfl, by decide +kernel, kp_P, kn_P, Or.inr ⟨rfl, rfl, rfl⟩⟩
theorem fw_P_3 : kx_fw "EventKeeper$Projection" "<init>" 2 3 (.array .long) := ⟨_, T_P, 8, ty_P, rfl, by decide +kernel, kp_P, kn_P, Or.inr ⟨rfl, rfl, rfl⟩⟩
theorem fw_P_4 {own nm : String} : kx_fw own nm 2 4 .int := ⟨_, T_P, 8, ty_P, rfl, by decide +kernel, kp_P, kn_P, Or.inl rfl⟩
theorem fw_P_5 : kx_fw "EventKeeper$Projection" "<init>" 2 5 (.array .long) := ⟨_, T_P, 8, ty_P, rfl, by decide +kernel, kp_P, kn_P, Or.inr ⟨rfl, rfl, rfl⟩⟩
theorem fw_P_6 {own nm : String} : kx_fw own nm 2 6 .int := ⟨_, T_P, 8, ty_P, rfl, by decide +kernel, kp_P, kn_P, Or.inl rfl⟩
theorem fw_P_7 {own nm : String} : kx_fw own nm 2 7 .int := ⟨_, T_P, 8, ty_P, rfl, by decide +kernel, kp_P, kn_P, Or.inl rfl⟩
theorem fw_S_0 {own nm : String} : kx_fw own nm 3 0 .int := ⟨_, T_S, 4, ty_S, rfl, by decide +kernel, kp_S, kn_S, Or.inl rfl⟩
theorem fw_S_1 {own nm : String} : kx_fw own nm 3 1 .int := ⟨_, T_S, 4, ty_S, rfl, by decide +kernel, kp_S, kn_S, Or.inl rfl⟩
theorem fw_S_2 {own nm : String} : kx_fw own nm 3 2 .int := ⟨_, T_S, 4, ty_S, rfl, by decide +kernel, kp_S, kn_S, Or.inl rfl⟩
theorem fw_S_3 {own nm : String} : kx_fw own nm 3 3 .int := ⟨_, T_S, 4, ty_S, rfl, by decide +kernel, kp_S, kn_S, Or.inl rfl⟩
theorem fw_M_0 {own nm : String} : kx_fw own nm 4 0 .int := ⟨_, T_M, 19, ty_M, rfl, by decide +kernel, kp_M, kn_M, Or.inl rfl⟩
theorem fw_M_1 {own nm : String} : kx_fw own nm 4 1 .int := ⟨_, T_M, 19, ty_M, rfl, by decide +kernel, kp_M, kn_M, Or.inl rfl⟩
theorem fw_M_2 {own nm : String} : kx_fw own nm 4 2 .int := ⟨_, T_M, 19, ty_M, rfl, by decide +kernel, kp_M, kn_M, Or.inl rfl⟩
theorem fw_M_3 : kx_fw "EventKeeperModel" "<init>" 4 3 (.array .int) := ⟨_, T_M, 19, ty_M, rfl, by decide +kernel, kp_M, kn_M, Or.inr ⟨rfl, rfl, rfl⟩⟩
theorem fw_M_4 : kx_fw "EventKeeperModel" "<init>" 4 4 (.array .int) := ⟨_, T_M, 19, ty_M, rfl, by decide +kernel, kp_M, kn_M, Or.inr ⟨rfl, rfl, rfl⟩⟩
theorem fw_M_5 : kx_fw "EventKeeperModel" "<init>" 4 5 (.array .int) := ⟨_, T_M, 19, ty_M, rfl, by decide +kernel, kp_M, kn_M, Or.inr ⟨rfl, rfl, rfl⟩⟩
theorem fw_M_6 : kx_fw "EventKeeperModel" "<init>" 4 6 (.array .int) := ⟨_, T_M, 19, ty_M, rfl, by decide +kernel, kp_M, kn_M, Or.inr ⟨rfl, rfl, rfl⟩⟩
theorem fw_M_7 : kx_fw "EventKeeperModel" "<init>" 4 7 (.array .long) := ⟨_, T_M, 19, ty_M, rfl, by decide +kernel, kp_M, kn_M, Or.inr ⟨rfl, rfl, rfl⟩⟩
theorem fw_M_8 : kx_fw "EventKeeperModel" "<init>" 4 8 (.array .long) := ⟨_, T_M, 19, ty_M, rfl, by decide +kernel, kp_M, kn_M, Or.inr ⟨rfl, rfl, rfl⟩⟩
theorem fw_M_9 : kx_fw "EventKeeperModel" "<init>" 4 9 (.array .long) := ⟨_, T_M, 19, ty_M, rfl, by decide +kernel, kp_M, kn_M, Or.inr ⟨rfl, rfl, rfl⟩⟩
theorem fw_M_10 : kx_fw "EventKeeperModel" "<init>" 4 10 (.array .int) := ⟨_, T_M, 19, ty_M, rfl, by decide +kernel, kp_M, kn_M, Or.inr ⟨rfl, rfl, rfl⟩⟩
theorem fw_M_11 : kx_fw "EventKeeperModel" "<init>" 4 11 (.array .int) := ⟨_, T_M, 19, ty_M, rfl, by decide +kernel, kp_M, kn_M, Or.inr ⟨rfl, rfl, rfl⟩⟩
theorem fw_M_12 : kx_fw "EventKeeperModel" "<init>" 4 12 (.array .int) := ⟨_, T_M, 19, ty_M, rfl, by decide +kernel, kp_M, kn_M, Or.inr ⟨rfl, rfl, rfl⟩⟩
theorem fw_M_13 : kx_fw "EventKeeperModel" "<init>" 4 13 (.array .int) := ⟨_, T_M, 19, ty_M, rfl, by decide +kernel, kp_M, kn_M, Or.inr ⟨rfl, rfl, rfl⟩⟩
theorem fw_M_14 : kx_fw "EventKeeperModel" "<init>" 4 14 (.array .int) := ⟨_, T_M, 19, ty_M, rfl, by decide +kernel, kp_M, kn_M, Or.inr ⟨rfl, rfl, rfl⟩⟩
theorem fw_M_15 : kx_fw "EventKeeperModel" "<init>" 4 15 (.array .int) := ⟨_, T_M, 19, ty_M, rfl, by decide +kernel, kp_M, kn_M, Or.inr ⟨rfl, rfl, rfl⟩⟩
theorem fw_M_16 : kx_fw "EventKeeperModel" "<init>" 4 16 (.array .int) := ⟨_, T_M, 19, ty_M, rfl, by decide +kernel, kp_M, kn_M, Or.inr ⟨rfl, rfl, rfl⟩⟩
theorem fw_M_17 : kx_fw "EventKeeperModel" "<init>" 4 17 (.array .int) := ⟨_, T_M, 19, ty_M, rfl, by decide +kernel, kp_M, kn_M, Or.inr ⟨rfl, rfl, rfl⟩⟩
theorem fw_M_18 : kx_fw "EventKeeperModel" "<init>" 4 18 (.array .int) := ⟨_, T_M, 19, ty_M, rfl, by decide +kernel, kp_M, kn_M, Or.inr ⟨rfl, rfl, rfl⟩⟩
theorem nw_EK_7 : kx_nw "EventKeeper" 7 1 11 [.null, .null, .null, .null, .null, .null, .null, .null, .null, .int 0, .int 0] := ⟨_, T_L, ty_L, rfl, kt_L, kp_L, (kx_t 22 (by decide +kernel) rfl), (kx_t 23 (by decide +kernel) rfl), (kx_t 2 (by decide +kernel) rfl), fun B z hz => by
  match z, hz with
  | 0, _ => rfl
  | 1, _ => rfl
  | 2, _ => rfl
  | 3, _ => rfl
  | 4, _ => rfl
  | 5, _ => rfl
  | 6, _ => rfl
  | 7, _ => rfl
  | 8, _ => rfl
  | 9, _ => rfl
  | 10, _ => rfl
  | z + 11, hz => exact absurd hz (by omega)⟩
theorem wi_EK_9 : kx_wI "EventKeeper" 9 y_L_init i_L_init 0 := ⟨(kx_t 26 (by decide +kernel) rfl), rfl, rfl, (kx_t 24 (by decide +kernel) rfl), (kx_t 25 (by decide +kernel) rfl), rfl, by decide +kernel, by decide, by decide +kernel, rfl, rfl, by decide⟩
theorem fl_EK_10 : kx_fl "EventKeeper" 10 0 0 := ⟨_, T_EK, 3, rfl, by decide, kt_EK, (kx_t 136 (by decide +kernel) rfl)⟩
theorem fl_EK_18 : kx_fl "EventKeeper" 18 0 1 := ⟨_, T_EK, 3, rfl, by decide, kt_EK, (kx_t 137 (by decide +kernel) rfl)⟩
theorem nw_EK_16 : kx_nw "EventKeeper" 16 2 8 [.int 0, .null, .null, .null, .int 0, .null, .int 0, .int 0] := ⟨_, T_P, ty_P, rfl, kt_P, kp_P, (kx_t 81 (by decide +kernel) rfl), (kx_t 83 (by decide +kernel) rfl), (kx_t 3 (by decide +kernel) rfl), fun B z hz => by
  match z, hz with
  | 0, _ => rfl
  | 1, _ => rfl
  | 2, _ => rfl
  | 3, _ => rfl
  | 4, _ => rfl
  | 5, _ => rfl
  | 6, _ => rfl
  | 7, _ => rfl
  | z + 8, hz => exact absurd hz (by omega)⟩
theorem wi_EK_22 : kx_wI "EventKeeper" 22 y_P_init i_P_init 1 := ⟨(kx_t 86 (by decide +kernel) rfl), rfl, rfl, (kx_t 84 (by decide +kernel) rfl), (kx_t 85 (by decide +kernel) rfl), rfl, by decide +kernel, by decide, by decide +kernel, rfl, rfl, by decide⟩
theorem fl_EK_27 : kx_fl "EventKeeper" 27 0 2 := ⟨_, T_EK, 3, rfl, by decide, kt_EK, (kx_t 138 (by decide +kernel) rfl)⟩
theorem nw_EK_25 : kx_nw "EventKeeper" 25 3 4 [.int 0, .int 0, .int 0, .int 0] := ⟨_, T_S, ty_S, rfl, kt_S, kp_S, (kx_t 115 (by decide +kernel) rfl), (kx_t 117 (by decide +kernel) rfl), (kx_t 4 (by decide +kernel) rfl), fun B z hz => by
  match z, hz with
  | 0, _ => rfl
  | 1, _ => rfl
  | 2, _ => rfl
  | 3, _ => rfl
  | z + 4, hz => exact absurd hz (by omega)⟩
theorem wi_EK_31 : kx_wI "EventKeeper" 31 y_S_init i_S_init 0 := ⟨(kx_t 120 (by decide +kernel) rfl), rfl, rfl, (kx_t 118 (by decide +kernel) rfl), (kx_t 119 (by decide +kernel) rfl), rfl, by decide +kernel, by decide, by decide +kernel, rfl, rfl, by decide⟩
theorem ws_EK_32 : kx_wS "EventKeeper" 32 y_EK_checkStream (.code y_EK_checkStream c_EK_checkStream 1 (none)) i_EK_checkStream 1 := ⟨kx_kw0, (kx_t 196 (by decide +kernel) rfl), (kx_t 194 (by decide +kernel) rfl), (kx_t 195 (by decide +kernel) rfl), (kx_t 1 (by decide +kernel) rfl), by decide +kernel, by decide, by decide +kernel, rfl, rfl, by decide⟩
theorem ws_EK_35 : kx_wS "EventKeeper" 35 y_EK_checkArgument (.code y_EK_checkArgument c_EK_checkArgument 1 (none)) i_EK_checkArgument 1 := ⟨kx_kw0, (kx_t 199 (by decide +kernel) rfl), (kx_t 197 (by decide +kernel) rfl), (kx_t 198 (by decide +kernel) rfl), (kx_t 1 (by decide +kernel) rfl), by decide +kernel, by decide, by decide +kernel, rfl, rfl, by decide⟩
theorem ws_EK_39 : kx_wS "EventKeeper" 39 y_EK_checkKind (.code y_EK_checkKind c_EK_checkKind 1 (none)) i_EK_checkKind 1 := ⟨kx_kw0, (kx_t 270 (by decide +kernel) rfl), (kx_t 268 (by decide +kernel) rfl), (kx_t 269 (by decide +kernel) rfl), (kx_t 1 (by decide +kernel) rfl), by decide +kernel, by decide, by decide +kernel, rfl, rfl, by decide⟩
theorem fl_EK_42 : kx_fl "EventKeeper" 42 1 7 := ⟨_, T_L, 11, rfl, by decide, kt_L, (kx_t 47 (by decide +kernel) rfl)⟩
theorem tx_EK_46_50 : kx_tx "EventKeeper" 46 50 "java/lang/IllegalStateException" ["java/lang/RuntimeException", "java/lang/Exception"] := by
  refine ⟨by decide +kernel, by decide +kernel, (kx_t 271 (by decide +kernel) rfl), (kx_t 272 (by decide +kernel) rfl), (kx_t 10 (by decide +kernel) rfl), ?_⟩
  have h : (Bundle.ownAtoms "EventKeeper" 50 "java/lang/IllegalStateException" ["java/lang/RuntimeException", "java/lang/Exception"]).all (fun w => (decide (w ∈ lw_tbl) && (goodWord w || kx_dc w)) || decide (w ∈ kx_hw) || decide (w ∈ kx_hr)) = true := by decide +kernel
  intro w hw
  have h1 := List.all_eq_true.mp h w hw
  simp only [Bool.or_eq_true, Bool.and_eq_true, decide_eq_true_eq] at h1
  rcases h1 with (⟨h1, h2 | h2⟩ | h1) | h1
  · exact Or.inl (List.mem_filter.mpr ⟨h1, h2⟩)
  · exact Or.inr (Or.inr (Or.inr ⟨h1, h2⟩))
  · exact Or.inr (Or.inl h1)
  · exact Or.inr (Or.inr (Or.inl h1))
theorem wv_EK_53 : kx_wV "EventKeeper" 53 1 y_L_isFull (.code y_L_isFull c_L_isFull 1 (some .boolean)) i_L_isFull 0 := ⟨kx_kw0, (kx_t 290 (by decide +kernel) rfl), (kx_t 287 (by decide +kernel) rfl), (kx_t 288 (by decide +kernel) rfl), ⟨_, rfl, rfl⟩, (kx_t 289 (by decide +kernel) rfl), by decide +kernel, by decide, by decide +kernel, rfl, rfl, by decide⟩
theorem tx_EK_57_61 : kx_tx "EventKeeper" 57 61 "java/lang/IndexOutOfBoundsException" ["java/lang/RuntimeException", "java/lang/Exception"] := by
  refine ⟨by decide +kernel, by decide +kernel, (kx_t 291 (by decide +kernel) rfl), (kx_t 292 (by decide +kernel) rfl), (kx_t 11 (by decide +kernel) rfl), ?_⟩
  have h : (Bundle.ownAtoms "EventKeeper" 61 "java/lang/IndexOutOfBoundsException" ["java/lang/RuntimeException", "java/lang/Exception"]).all (fun w => (decide (w ∈ lw_tbl) && (goodWord w || kx_dc w)) || decide (w ∈ kx_hw) || decide (w ∈ kx_hr)) = true := by decide +kernel
  intro w hw
  have h1 := List.all_eq_true.mp h w hw
  simp only [Bool.or_eq_true, Bool.and_eq_true, decide_eq_true_eq] at h1
  rcases h1 with (⟨h1, h2 | h2⟩ | h1) | h1
  · exact Or.inl (List.mem_filter.mpr ⟨h1, h2⟩)
  · exact Or.inr (Or.inr (Or.inr ⟨h1, h2⟩))
  · exact Or.inr (Or.inl h1)
  · exact Or.inr (Or.inr (Or.inl h1))
theorem wv_EK_62 : kx_wV "EventKeeper" 62 1 y_L_put (.code y_L_put c_L_put 6 (some .int)) i_L_put 3 := ⟨kx_kw0, (kx_t 310 (by decide +kernel) rfl), (kx_t 307 (by decide +kernel) rfl), (kx_t 308 (by decide +kernel) rfl), ⟨_, rfl, rfl⟩, (kx_t 309 (by decide +kernel) rfl), by decide +kernel, by decide, by decide +kernel, rfl, rfl, by decide⟩
theorem ws_EK_66 : kx_wS "EventKeeper" 66 y_EK_checkProjection (.code y_EK_checkProjection c_EK_checkProjection 1 (none)) i_EK_checkProjection 1 := ⟨kx_kw0, (kx_t 320 (by decide +kernel) rfl), (kx_t 318 (by decide +kernel) rfl), (kx_t 319 (by decide +kernel) rfl), (kx_t 1 (by decide +kernel) rfl), by decide +kernel, by decide, by decide +kernel, rfl, rfl, by decide⟩
theorem wv_EK_69 : kx_wV "EventKeeper" 69 2 y_P_setRule (.code y_P_setRule c_P_setRule 4 (none)) i_P_setRule 3 := ⟨kx_kw0, (kx_t 324 (by decide +kernel) rfl), (kx_t 321 (by decide +kernel) rfl), (kx_t 322 (by decide +kernel) rfl), ⟨_, rfl, rfl⟩, (kx_t 323 (by decide +kernel) rfl), by decide +kernel, by decide, by decide +kernel, rfl, rfl, by decide⟩
theorem wv_EK_73 : kx_wV "EventKeeper" 73 2 y_P_takeOne (.code y_P_takeOne c_P_takeOne 4 (some .boolean)) i_P_takeOne 1 := ⟨kx_kw0, (kx_t 335 (by decide +kernel) rfl), (kx_t 332 (by decide +kernel) rfl), (kx_t 333 (by decide +kernel) rfl), ⟨_, rfl, rfl⟩, (kx_t 334 (by decide +kernel) rfl), by decide +kernel, by decide, by decide +kernel, rfl, rfl, by decide⟩
theorem fl_EK_77 : kx_fl "EventKeeper" 77 1 9 := ⟨_, T_L, 11, rfl, by decide, kt_L, (kx_t 53 (by decide +kernel) rfl)⟩
theorem wv_EK_81 : kx_wV "EventKeeper" 81 2 y_P_keep (.code y_P_keep c_P_keep 2 (some .int)) i_P_keep 1 := ⟨kx_kw0, (kx_t 375 (by decide +kernel) rfl), (kx_t 372 (by decide +kernel) rfl), (kx_t 373 (by decide +kernel) rfl), ⟨_, rfl, rfl⟩, (kx_t 374 (by decide +kernel) rfl), by decide +kernel, by decide, by decide +kernel, rfl, rfl, by decide⟩
theorem fl_EK_87 : kx_fl "EventKeeper" 87 2 3 := ⟨_, T_P, 8, rfl, by decide, kt_P, (kx_t 92 (by decide +kernel) rfl)⟩
theorem ws_EK_91 : kx_wS "EventKeeper" 91 y_EK_checkSubscription (.code y_EK_checkSubscription c_EK_checkSubscription 1 (none)) i_EK_checkSubscription 1 := ⟨kx_kw0, (kx_t 393 (by decide +kernel) rfl), (kx_t 391 (by decide +kernel) rfl), (kx_t 392 (by decide +kernel) rfl), (kx_t 1 (by decide +kernel) rfl), by decide +kernel, by decide, by decide +kernel, rfl, rfl, by decide⟩
theorem wv_EK_94 : kx_wV "EventKeeper" 94 3 y_S_setFilter (.code y_S_setFilter c_S_setFilter 3 (none)) i_S_setFilter 2 := ⟨kx_kw0, (kx_t 397 (by decide +kernel) rfl), (kx_t 394 (by decide +kernel) rfl), (kx_t 395 (by decide +kernel) rfl), ⟨_, rfl, rfl⟩, (kx_t 396 (by decide +kernel) rfl), by decide +kernel, by decide, by decide +kernel, rfl, rfl, by decide⟩
theorem wv_EK_98 : kx_wV "EventKeeper" 98 3 y_S_firstWaiting (.code y_S_firstWaiting c_S_firstWaiting 3 (some .int)) i_S_firstWaiting 1 := ⟨kx_kw0, (kx_t 408 (by decide +kernel) rfl), (kx_t 405 (by decide +kernel) rfl), (kx_t 406 (by decide +kernel) rfl), ⟨_, rfl, rfl⟩, (kx_t 407 (by decide +kernel) rfl), by decide +kernel, by decide, by decide +kernel, rfl, rfl, by decide⟩
theorem wv_EK_102 : kx_wV "EventKeeper" 102 0 y_EK_checkPlace (.code y_EK_checkPlace c_EK_checkPlace 2 (none)) i_EK_checkPlace 1 := ⟨kx_kw0, (kx_t 423 (by decide +kernel) rfl), (kx_t 420 (by decide +kernel) rfl), (kx_t 422 (by decide +kernel) rfl), ⟨_, rfl, rfl⟩, (kx_ts 6 (by decide +kernel) rfl), by decide +kernel, by decide, by decide +kernel, rfl, rfl, by decide⟩
theorem wv_EK_105 : kx_wV "EventKeeper" 105 3 y_S_passBehind (.code y_S_passBehind c_S_passBehind 2 (some .int)) i_S_passBehind 1 := ⟨kx_kw0, (kx_t 428 (by decide +kernel) rfl), (kx_t 425 (by decide +kernel) rfl), (kx_t 426 (by decide +kernel) rfl), ⟨_, rfl, rfl⟩, (kx_t 427 (by decide +kernel) rfl), by decide +kernel, by decide, by decide +kernel, rfl, rfl, by decide⟩
theorem fl_EK_108 : kx_fl "EventKeeper" 108 1 10 := ⟨_, T_L, 11, rfl, by decide, kt_L, (kx_t 55 (by decide +kernel) rfl)⟩
theorem wv_EK_111 : kx_wV "EventKeeper" 111 3 y_S_makeSafe (.code y_S_makeSafe c_S_makeSafe 1 (none)) i_S_makeSafe 0 := ⟨kx_kw0, (kx_t 153 (by decide +kernel) rfl), (kx_t 150 (by decide +kernel) rfl), (kx_t 151 (by decide +kernel) rfl), ⟨_, rfl, rfl⟩, (kx_t 152 (by decide +kernel) rfl), by decide +kernel, by decide, by decide +kernel, rfl, rfl, by decide⟩
theorem wv_EK_114 : kx_wV "EventKeeper" 114 1 y_L_dropUndurable (.code y_L_dropUndurable c_L_dropUndurable 2 (none)) i_L_dropUndurable 0 := ⟨kx_kw0, (kx_t 161 (by decide +kernel) rfl), (kx_t 158 (by decide +kernel) rfl), (kx_t 159 (by decide +kernel) rfl), ⟨_, rfl, rfl⟩, (kx_t 160 (by decide +kernel) rfl), by decide +kernel, by decide, by decide +kernel, rfl, rfl, by decide⟩
theorem wv_EK_117 : kx_wV "EventKeeper" 117 2 y_P_recover (.code y_P_recover c_P_recover 2 (none)) i_P_recover 1 := ⟨kx_kw0, (kx_t 169 (by decide +kernel) rfl), (kx_t 166 (by decide +kernel) rfl), (kx_t 167 (by decide +kernel) rfl), ⟨_, rfl, rfl⟩, (kx_t 168 (by decide +kernel) rfl), by decide +kernel, by decide, by decide +kernel, rfl, rfl, by decide⟩
theorem wv_EK_120 : kx_wV "EventKeeper" 120 3 y_S_recover (.code y_S_recover c_S_recover 2 (none)) i_S_recover 1 := ⟨kx_kw0, (kx_t 180 (by decide +kernel) rfl), (kx_t 177 (by decide +kernel) rfl), (kx_t 178 (by decide +kernel) rfl), ⟨_, rfl, rfl⟩, (kx_t 179 (by decide +kernel) rfl), by decide +kernel, by decide, by decide +kernel, rfl, rfl, by decide⟩
theorem fl_EK_121 : kx_fl "EventKeeper" 121 1 0 := ⟨_, T_L, 11, rfl, by decide, kt_L, (kx_t 31 (by decide +kernel) rfl)⟩
theorem fl_EK_124 : kx_fl "EventKeeper" 124 1 1 := ⟨_, T_L, 11, rfl, by decide, kt_L, (kx_t 33 (by decide +kernel) rfl)⟩
theorem fl_EK_127 : kx_fl "EventKeeper" 127 1 2 := ⟨_, T_L, 11, rfl, by decide, kt_L, (kx_t 37 (by decide +kernel) rfl)⟩
theorem fl_EK_130 : kx_fl "EventKeeper" 130 1 4 := ⟨_, T_L, 11, rfl, by decide, kt_L, (kx_t 42 (by decide +kernel) rfl)⟩
theorem fl_EK_133 : kx_fl "EventKeeper" 133 1 5 := ⟨_, T_L, 11, rfl, by decide, kt_L, (kx_t 44 (by decide +kernel) rfl)⟩
theorem fl_EK_136 : kx_fl "EventKeeper" 136 1 3 := ⟨_, T_L, 11, rfl, by decide, kt_L, (kx_t 40 (by decide +kernel) rfl)⟩
theorem wv_EK_139 : kx_wV "EventKeeper" 139 1 y_L_placeOf (.code y_L_placeOf c_L_placeOf 4 (some .int)) i_L_placeOf 2 := ⟨kx_kw0, (kx_t 456 (by decide +kernel) rfl), (kx_t 453 (by decide +kernel) rfl), (kx_t 454 (by decide +kernel) rfl), ⟨_, rfl, rfl⟩, (kx_t 455 (by decide +kernel) rfl), by decide +kernel, by decide, by decide +kernel, rfl, rfl, by decide⟩
theorem fl_EK_145 : kx_fl "EventKeeper" 145 2 4 := ⟨_, T_P, 8, rfl, by decide, kt_P, (kx_t 94 (by decide +kernel) rfl)⟩
theorem fl_EK_148 : kx_fl "EventKeeper" 148 3 2 := ⟨_, T_S, 4, rfl, by decide, kt_S, (kx_t 125 (by decide +kernel) rfl)⟩
theorem fl_EK_149 : kx_fl "EventKeeper" 149 1 8 := ⟨_, T_L, 11, rfl, by decide, kt_L, (kx_t 49 (by decide +kernel) rfl)⟩
theorem tx_EK_152_156 : kx_tx "EventKeeper" 152 156 "java/lang/IllegalArgumentException" ["java/lang/RuntimeException", "java/lang/Exception"] := by
  refine ⟨by decide +kernel, by decide +kernel, (kx_t 200 (by decide +kernel) rfl), (kx_t 201 (by decide +kernel) rfl), (kx_t 9 (by decide +kernel) rfl), ?_⟩
  have h : (Bundle.ownAtoms "EventKeeper" 156 "java/lang/IllegalArgumentException" ["java/lang/RuntimeException", "java/lang/Exception"]).all (fun w => (decide (w ∈ lw_tbl) && (goodWord w || kx_dc w)) || decide (w ∈ kx_hw) || decide (w ∈ kx_hr)) = true := by decide +kernel
  intro w hw
  have h1 := List.all_eq_true.mp h w hw
  simp only [Bool.or_eq_true, Bool.and_eq_true, decide_eq_true_eq] at h1
  rcases h1 with (⟨h1, h2 | h2⟩ | h1) | h1
  · exact Or.inl (List.mem_filter.mpr ⟨h1, h2⟩)
  · exact Or.inr (Or.inr (Or.inr ⟨h1, h2⟩))
  · exact Or.inr (Or.inl h1)
  · exact Or.inr (Or.inr (Or.inl h1))
theorem fl_M_9 : kx_fl "EventKeeperModel" 9 4 3 := ⟨_, T_M, 19, rfl, by decide, kt_M, (kx_t 475 (by decide +kernel) rfl)⟩
theorem fl_M_13 : kx_fl "EventKeeperModel" 13 4 4 := ⟨_, T_M, 19, rfl, by decide, kt_M, (kx_t 476 (by decide +kernel) rfl)⟩
theorem fl_M_16 : kx_fl "EventKeeperModel" 16 4 5 := ⟨_, T_M, 19, rfl, by decide, kt_M, (kx_t 477 (by decide +kernel) rfl)⟩
theorem fl_M_19 : kx_fl "EventKeeperModel" 19 4 6 := ⟨_, T_M, 19, rfl, by decide, kt_M, (kx_t 478 (by decide +kernel) rfl)⟩
theorem fl_M_22 : kx_fl "EventKeeperModel" 22 4 7 := ⟨_, T_M, 19, rfl, by decide, kt_M, (kx_t 479 (by decide +kernel) rfl)⟩
theorem fl_M_26 : kx_fl "EventKeeperModel" 26 4 8 := ⟨_, T_M, 19, rfl, by decide, kt_M, (kx_t 480 (by decide +kernel) rfl)⟩
theorem fl_M_29 : kx_fl "EventKeeperModel" 29 4 9 := ⟨_, T_M, 19, rfl, by decide, kt_M, (kx_t 481 (by decide +kernel) rfl)⟩
theorem fl_M_32 : kx_fl "EventKeeperModel" 32 4 10 := ⟨_, T_M, 19, rfl, by decide, kt_M, (kx_t 482 (by decide +kernel) rfl)⟩
theorem fl_M_35 : kx_fl "EventKeeperModel" 35 4 11 := ⟨_, T_M, 19, rfl, by decide, kt_M, (kx_t 483 (by decide +kernel) rfl)⟩
theorem fl_M_38 : kx_fl "EventKeeperModel" 38 4 12 := ⟨_, T_M, 19, rfl, by decide, kt_M, (kx_t 484 (by decide +kernel) rfl)⟩
theorem fl_M_41 : kx_fl "EventKeeperModel" 41 4 13 := ⟨_, T_M, 19, rfl, by decide, kt_M, (kx_t 485 (by decide +kernel) rfl)⟩
theorem fl_M_44 : kx_fl "EventKeeperModel" 44 4 14 := ⟨_, T_M, 19, rfl, by decide, kt_M, (kx_t 486 (by decide +kernel) rfl)⟩
theorem fl_M_47 : kx_fl "EventKeeperModel" 47 4 15 := ⟨_, T_M, 19, rfl, by decide, kt_M, (kx_t 487 (by decide +kernel) rfl)⟩
theorem fl_M_50 : kx_fl "EventKeeperModel" 50 4 16 := ⟨_, T_M, 19, rfl, by decide, kt_M, (kx_t 488 (by decide +kernel) rfl)⟩
theorem fl_M_53 : kx_fl "EventKeeperModel" 53 4 17 := ⟨_, T_M, 19, rfl, by decide, kt_M, (kx_t 489 (by decide +kernel) rfl)⟩
theorem fl_M_56 : kx_fl "EventKeeperModel" 56 4 18 := ⟨_, T_M, 19, rfl, by decide, kt_M, (kx_t 490 (by decide +kernel) rfl)⟩
theorem fl_M_59 : kx_fl "EventKeeperModel" 59 4 0 := ⟨_, T_M, 19, rfl, by decide, kt_M, (kx_t 472 (by decide +kernel) rfl)⟩
theorem fl_M_63 : kx_fl "EventKeeperModel" 63 4 1 := ⟨_, T_M, 19, rfl, by decide, kt_M, (kx_t 473 (by decide +kernel) rfl)⟩
theorem ws_M_66 : kx_wS "EventKeeperModel" 66 y_M_in (.code y_M_in c_M_in 3 (some .boolean)) i_M_in 3 := ⟨kx_kw0, (kx_t 540 (by decide +kernel) rfl), (kx_t 538 (by decide +kernel) rfl), (kx_t 539 (by decide +kernel) rfl), (kx_t 5 (by decide +kernel) rfl), by decide +kernel, by decide, by decide +kernel, rfl, rfl, by decide⟩
theorem wv_M_70 : kx_wV "EventKeeperModel" 70 4 y_M_fails (.code y_M_fails c_M_fails 3 (some .boolean)) i_M_fails 2 := ⟨kx_kw0, (kx_t 544 (by decide +kernel) rfl), (kx_t 541 (by decide +kernel) rfl), (kx_t 543 (by decide +kernel) rfl), ⟨_, rfl, rfl⟩, (kx_ts 7 (by decide +kernel) rfl), by decide +kernel, by decide, by decide +kernel, rfl, rfl, by decide⟩
theorem wv_M_74 : kx_wV "EventKeeperModel" 74 4 y_M_inStream (.code y_M_inStream c_M_inStream 5 (some .int)) i_M_inStream 2 := ⟨kx_kw0, (kx_t 548 (by decide +kernel) rfl), (kx_t 545 (by decide +kernel) rfl), (kx_t 547 (by decide +kernel) rfl), ⟨_, rfl, rfl⟩, (kx_ts 8 (by decide +kernel) rfl), by decide +kernel, by decide, by decide +kernel, rfl, rfl, by decide⟩
theorem wv_M_78 : kx_wV "EventKeeperModel" 78 4 y_M_put (.code y_M_put c_M_put 7 (some .int)) i_M_put 5 := ⟨kx_kw0, (kx_t 552 (by decide +kernel) rfl), (kx_t 549 (by decide +kernel) rfl), (kx_t 551 (by decide +kernel) rfl), ⟨_, rfl, rfl⟩, (kx_ts 9 (by decide +kernel) rfl), by decide +kernel, by decide, by decide +kernel, rfl, rfl, by decide⟩
theorem ws_M_82 : kx_wS "EventKeeperModel" 82 y_M_isProjection (.code y_M_isProjection c_M_isProjection 1 (some .boolean)) i_M_isProjection 1 := ⟨kx_kw0, (kx_t 559 (by decide +kernel) rfl), (kx_t 557 (by decide +kernel) rfl), (kx_t 558 (by decide +kernel) rfl), (kx_t 5 (by decide +kernel) rfl), by decide +kernel, by decide, by decide +kernel, rfl, rfl, by decide⟩
theorem wv_M_86 : kx_wV "EventKeeperModel" 86 4 y_M_begin (.code y_M_begin c_M_begin 3 (none)) i_M_begin 1 := ⟨kx_kw0, (kx_t 563 (by decide +kernel) rfl), (kx_t 560 (by decide +kernel) rfl), (kx_t 562 (by decide +kernel) rfl), ⟨_, rfl, rfl⟩, (kx_ts 10 (by decide +kernel) rfl), by decide +kernel, by decide, by decide +kernel, rfl, rfl, by decide⟩
theorem wv_M_90 : kx_wV "EventKeeperModel" 90 4 y_M_takes (.code y_M_takes c_M_takes 12 (some .boolean)) i_M_takes 2 := ⟨kx_kw0, (kx_t 571 (by decide +kernel) rfl), (kx_t 568 (by decide +kernel) rfl), (kx_t 570 (by decide +kernel) rfl), ⟨_, rfl, rfl⟩, (kx_ts 11 (by decide +kernel) rfl), by decide +kernel, by decide, by decide +kernel, rfl, rfl, by decide⟩
theorem ws_M_96 : kx_wS "EventKeeperModel" 96 y_M_isSubscription (.code y_M_isSubscription c_M_isSubscription 1 (some .boolean)) i_M_isSubscription 1 := ⟨kx_kw0, (kx_t 587 (by decide +kernel) rfl), (kx_t 585 (by decide +kernel) rfl), (kx_t 586 (by decide +kernel) rfl), (kx_t 5 (by decide +kernel) rfl), by decide +kernel, by decide, by decide +kernel, rfl, rfl, by decide⟩
theorem fl_M_99 : kx_fl "EventKeeperModel" 99 4 2 := ⟨_, T_M, 19, rfl, by decide, kt_M, (kx_t 474 (by decide +kernel) rfl)⟩
theorem wv_M_102 : kx_wV "EventKeeperModel" 102 4 y_M_isNone (.code y_M_isNone c_M_isNone 2 (some .boolean)) i_M_isNone 1 := ⟨kx_kw0, (kx_t 611 (by decide +kernel) rfl), (kx_t 608 (by decide +kernel) rfl), (kx_t 610 (by decide +kernel) rfl), ⟨_, rfl, rfl⟩, (kx_ts 12 (by decide +kernel) rfl), by decide +kernel, by decide, by decide +kernel, rfl, rfl, by decide⟩
theorem fl_L_9 : kx_fl "EventKeeper$Log" 9 1 0 := ⟨_, T_L, 11, rfl, by decide, kt_L, (kx_t 28 (by decide +kernel) rfl)⟩
theorem fl_L_15 : kx_fl "EventKeeper$Log" 15 1 1 := ⟨_, T_L, 11, rfl, by decide, kt_L, (kx_t 32 (by decide +kernel) rfl)⟩
theorem fl_L_18 : kx_fl "EventKeeper$Log" 18 1 2 := ⟨_, T_L, 11, rfl, by decide, kt_L, (kx_t 34 (by decide +kernel) rfl)⟩
theorem fl_L_21 : kx_fl "EventKeeper$Log" 21 1 3 := ⟨_, T_L, 11, rfl, by decide, kt_L, (kx_t 38 (by decide +kernel) rfl)⟩
theorem fl_L_25 : kx_fl "EventKeeper$Log" 25 1 4 := ⟨_, T_L, 11, rfl, by decide, kt_L, (kx_t 41 (by decide +kernel) rfl)⟩
theorem fl_L_28 : kx_fl "EventKeeper$Log" 28 1 5 := ⟨_, T_L, 11, rfl, by decide, kt_L, (kx_t 43 (by decide +kernel) rfl)⟩
theorem fl_L_31 : kx_fl "EventKeeper$Log" 31 1 6 := ⟨_, T_L, 11, rfl, by decide, kt_L, (kx_t 45 (by decide +kernel) rfl)⟩
theorem fl_L_34 : kx_fl "EventKeeper$Log" 34 1 7 := ⟨_, T_L, 11, rfl, by decide, kt_L, (kx_t 46 (by decide +kernel) rfl)⟩
theorem fl_L_37 : kx_fl "EventKeeper$Log" 37 1 8 := ⟨_, T_L, 11, rfl, by decide, kt_L, (kx_t 48 (by decide +kernel) rfl)⟩
theorem fl_L_40 : kx_fl "EventKeeper$Log" 40 1 9 := ⟨_, T_L, 11, rfl, by decide, kt_L, (kx_t 50 (by decide +kernel) rfl)⟩
theorem wv_L_46 : kx_wV "EventKeeper$Log" 46 1 y_L_put (.code y_L_put c_L_put 6 (some .int)) i_L_put 3 := ⟨kx_kw0, (kx_t 310 (by decide +kernel) rfl), (kx_t 355 (by decide +kernel) rfl), (kx_t 308 (by decide +kernel) rfl), ⟨_, rfl, rfl⟩, (kx_t 309 (by decide +kernel) rfl), by decide +kernel, by decide, by decide +kernel, rfl, rfl, by decide⟩
theorem fl_L_50 : kx_fl "EventKeeper$Log" 50 1 10 := ⟨_, T_L, 11, rfl, by decide, kt_L, (kx_t 54 (by decide +kernel) rfl)⟩
theorem wv_L_53 : kx_wV "EventKeeper$Log" 53 1 y_L_forgetCause (.code y_L_forgetCause c_L_forgetCause 3 (none)) i_L_forgetCause 1 := ⟨kx_kw0, (kx_t 165 (by decide +kernel) rfl), (kx_t 162 (by decide +kernel) rfl), (kx_t 164 (by decide +kernel) rfl), ⟨_, rfl, rfl⟩, (kx_ts 0 (by decide +kernel) rfl), by decide +kernel, by decide, by decide +kernel, rfl, rfl, by decide⟩
theorem fl_P_9 : kx_fl "EventKeeper$Projection" 9 2 0 := ⟨_, T_P, 8, rfl, by decide, kt_P, (kx_t 88 (by decide +kernel) rfl)⟩
theorem fl_P_15 : kx_fl "EventKeeper$Projection" 15 2 1 := ⟨_, T_P, 8, rfl, by decide, kt_P, (kx_t 89 (by decide +kernel) rfl)⟩
theorem fl_P_19 : kx_fl "EventKeeper$Projection" 19 2 2 := ⟨_, T_P, 8, rfl, by decide, kt_P, (kx_t 90 (by decide +kernel) rfl)⟩
theorem fl_P_22 : kx_fl "EventKeeper$Projection" 22 2 3 := ⟨_, T_P, 8, rfl, by decide, kt_P, (kx_t 91 (by decide +kernel) rfl)⟩
theorem fl_P_26 : kx_fl "EventKeeper$Projection" 26 2 5 := ⟨_, T_P, 8, rfl, by decide, kt_P, (kx_t 95 (by decide +kernel) rfl)⟩
theorem fl_P_29 : kx_fl "EventKeeper$Projection" 29 2 7 := ⟨_, T_P, 8, rfl, by decide, kt_P, (kx_t 97 (by decide +kernel) rfl)⟩
theorem wv_P_32 : kx_wV "EventKeeper$Projection" 32 2 y_P_startOver (.code y_P_startOver c_P_startOver 2 (none)) i_P_startOver 0 := ⟨kx_kw0, (kx_t 173 (by decide +kernel) rfl), (kx_t 170 (by decide +kernel) rfl), (kx_t 172 (by decide +kernel) rfl), ⟨_, rfl, rfl⟩, (kx_ts 1 (by decide +kernel) rfl), by decide +kernel, by decide, by decide +kernel, rfl, rfl, by decide⟩
theorem fl_P_35 : kx_fl "EventKeeper$Projection" 35 2 4 := ⟨_, T_P, 8, rfl, by decide, kt_P, (kx_t 93 (by decide +kernel) rfl)⟩
theorem fl_P_38 : kx_fl "EventKeeper$Projection" 38 1 9 := ⟨_, T_L, 11, rfl, by decide, kt_L, (kx_t 51 (by decide +kernel) rfl)⟩
theorem fl_P_43 : kx_fl "EventKeeper$Projection" 43 1 2 := ⟨_, T_L, 11, rfl, by decide, kt_L, (kx_t 35 (by decide +kernel) rfl)⟩
theorem wv_P_46 : kx_wV "EventKeeper$Projection" 46 2 y_P_targetCell (.code y_P_targetCell c_P_targetCell 2 (some .int)) i_P_targetCell 1 := ⟨kx_kw0, (kx_t 339 (by decide +kernel) rfl), (kx_t 336 (by decide +kernel) rfl), (kx_t 338 (by decide +kernel) rfl), ⟨_, rfl, rfl⟩, (kx_ts 3 (by decide +kernel) rfl), by decide +kernel, by decide, by decide +kernel, rfl, rfl, by decide⟩
theorem wv_P_50 : kx_wV "EventKeeper$Projection" 50 2 y_P_countAndEmit (.code y_P_countAndEmit c_P_countAndEmit 6 (some .boolean)) i_P_countAndEmit 2 := ⟨kx_kw0, (kx_t 344 (by decide +kernel) rfl), (kx_t 341 (by decide +kernel) rfl), (kx_t 343 (by decide +kernel) rfl), ⟨_, rfl, rfl⟩, (kx_ts 4 (by decide +kernel) rfl), by decide +kernel, by decide, by decide +kernel, rfl, rfl, by decide⟩
theorem fl_P_54 : kx_fl "EventKeeper$Projection" 54 1 3 := ⟨_, T_L, 11, rfl, by decide, kt_L, (kx_t 39 (by decide +kernel) rfl)⟩
theorem ws_P_57 : kx_wS "EventKeeper$Projection" 57 y_P_folded (.code y_P_folded c_P_folded 5 (some .long)) i_P_folded 3 := ⟨kx_kw0, (kx_t 358 (by decide +kernel) rfl), (kx_t 356 (by decide +kernel) rfl), (kx_t 357 (by decide +kernel) rfl), (kx_t 3 (by decide +kernel) rfl), by decide +kernel, by decide, by decide +kernel, rfl, rfl, by decide⟩
theorem fl_P_61 : kx_fl "EventKeeper$Projection" 61 1 0 := ⟨_, T_L, 11, rfl, by decide, kt_L, (kx_t 30 (by decide +kernel) rfl)⟩
theorem wv_P_75 : kx_wV "EventKeeper$Projection" 75 1 y_L_hasEmitted (.code y_L_hasEmitted c_L_hasEmitted 3 (some .boolean)) i_L_hasEmitted 2 := ⟨kx_kw0, (kx_t 348 (by decide +kernel) rfl), (kx_t 345 (by decide +kernel) rfl), (kx_t 346 (by decide +kernel) rfl), ⟨_, rfl, rfl⟩, (kx_t 347 (by decide +kernel) rfl), by decide +kernel, by decide, by decide +kernel, rfl, rfl, by decide⟩
theorem wv_P_79 : kx_wV "EventKeeper$Projection" 79 1 y_L_isFull (.code y_L_isFull c_L_isFull 1 (some .boolean)) i_L_isFull 0 := ⟨kx_kw0, (kx_t 290 (by decide +kernel) rfl), (kx_t 349 (by decide +kernel) rfl), (kx_t 288 (by decide +kernel) rfl), ⟨_, rfl, rfl⟩, (kx_t 289 (by decide +kernel) rfl), by decide +kernel, by decide, by decide +kernel, rfl, rfl, by decide⟩
theorem wv_P_83 : kx_wV "EventKeeper$Projection" 83 1 y_L_putEmitted (.code y_L_putEmitted c_L_putEmitted 6 (none)) i_L_putEmitted 3 := ⟨kx_kw0, (kx_t 353 (by decide +kernel) rfl), (kx_t 350 (by decide +kernel) rfl), (kx_t 351 (by decide +kernel) rfl), ⟨_, rfl, rfl⟩, (kx_t 352 (by decide +kernel) rfl), by decide +kernel, by decide, by decide +kernel, rfl, rfl, by decide⟩
theorem fl_P_93 : kx_fl "EventKeeper$Projection" 93 2 6 := ⟨_, T_P, 8, rfl, by decide, kt_P, (kx_t 96 (by decide +kernel) rfl)⟩
theorem fl_S_9 : kx_fl "EventKeeper$Subscription" 9 3 0 := ⟨_, T_S, 4, rfl, by decide, kt_S, (kx_t 122 (by decide +kernel) rfl)⟩
theorem fl_S_15 : kx_fl "EventKeeper$Subscription" 15 3 1 := ⟨_, T_S, 4, rfl, by decide, kt_S, (kx_t 123 (by decide +kernel) rfl)⟩
theorem fl_S_18 : kx_fl "EventKeeper$Subscription" 18 3 2 := ⟨_, T_S, 4, rfl, by decide, kt_S, (kx_t 124 (by decide +kernel) rfl)⟩
theorem fl_S_21 : kx_fl "EventKeeper$Subscription" 21 3 3 := ⟨_, T_S, 4, rfl, by decide, kt_S, (kx_t 126 (by decide +kernel) rfl)⟩
theorem fl_S_24 : kx_fl "EventKeeper$Subscription" 24 1 9 := ⟨_, T_L, 11, rfl, by decide, kt_L, (kx_t 52 (by decide +kernel) rfl)⟩
theorem fl_S_29 : kx_fl "EventKeeper$Subscription" 29 1 0 := ⟨_, T_L, 11, rfl, by decide, kt_L, (kx_t 29 (by decide +kernel) rfl)⟩
theorem fl_S_33 : kx_fl "EventKeeper$Subscription" 33 1 2 := ⟨_, T_L, 11, rfl, by decide, kt_L, (kx_t 36 (by decide +kernel) rfl)⟩
theorem wv_S_36 : kx_wV "EventKeeper$Subscription" 36 3 y_S_letsThrough (.code y_S_letsThrough c_S_letsThrough 4 (some .boolean)) i_S_letsThrough 2 := ⟨kx_kw0, (kx_t 412 (by decide +kernel) rfl), (kx_t 409 (by decide +kernel) rfl), (kx_t 411 (by decide +kernel) rfl), ⟨_, rfl, rfl⟩, (kx_ts 5 (by decide +kernel) rfl), by decide +kernel, by decide, by decide +kernel, rfl, rfl, by decide⟩
theorem wv_W_7 : kx_wV "EventKeeperLaw" 7 0 y_EK_append (.code y_EK_append c_EK_append 6 (some .int)) i_EK_append 4 := ⟨kx_kw0, (kx_t 193 (by decide +kernel) rfl), (kx_t 190 (by decide +kernel) rfl), (kx_t 191 (by decide +kernel) rfl), ⟨_, rfl, rfl⟩, (kx_t 192 (by decide +kernel) rfl), by decide +kernel, by decide, by decide +kernel, rfl, rfl, by decide⟩
theorem wv_W_19 : kx_wV "EventKeeperLaw" 19 0 y_EK_rule (.code y_EK_rule c_EK_rule 5 (none)) i_EK_rule 4 := ⟨kx_kw0, (kx_t 317 (by decide +kernel) rfl), (kx_t 314 (by decide +kernel) rfl), (kx_t 315 (by decide +kernel) rfl), ⟨_, rfl, rfl⟩, (kx_t 316 (by decide +kernel) rfl), by decide +kernel, by decide, by decide +kernel, rfl, rfl, by decide⟩
theorem wv_W_23 : kx_wV "EventKeeperLaw" 23 0 y_EK_advance (.code y_EK_advance c_EK_advance 4 (some .int)) i_EK_advance 2 := ⟨kx_kw0, (kx_t 331 (by decide +kernel) rfl), (kx_t 328 (by decide +kernel) rfl), (kx_t 329 (by decide +kernel) rfl), ⟨_, rfl, rfl⟩, (kx_t 330 (by decide +kernel) rfl), by decide +kernel, by decide, by decide +kernel, rfl, rfl, by decide⟩
theorem wv_W_27 : kx_wV "EventKeeperLaw" 27 0 y_EK_save (.code y_EK_save c_EK_save 2 (some .int)) i_EK_save 1 := ⟨kx_kw0, (kx_t 371 (by decide +kernel) rfl), (kx_t 368 (by decide +kernel) rfl), (kx_t 369 (by decide +kernel) rfl), ⟨_, rfl, rfl⟩, (kx_t 370 (by decide +kernel) rfl), by decide +kernel, by decide, by decide +kernel, rfl, rfl, by decide⟩
theorem wv_W_31 : kx_wV "EventKeeperLaw" 31 0 y_EK_cell (.code y_EK_cell c_EK_cell 3 (some .long)) i_EK_cell 2 := ⟨kx_kw0, (kx_t 382 (by decide +kernel) rfl), (kx_t 379 (by decide +kernel) rfl), (kx_t 380 (by decide +kernel) rfl), ⟨_, rfl, rfl⟩, (kx_t 381 (by decide +kernel) rfl), by decide +kernel, by decide, by decide +kernel, rfl, rfl, by decide⟩
theorem wv_W_35 : kx_wV "EventKeeperLaw" 35 0 y_EK_filter (.code y_EK_filter c_EK_filter 4 (none)) i_EK_filter 3 := ⟨kx_kw0, (kx_t 390 (by decide +kernel) rfl), (kx_t 387 (by decide +kernel) rfl), (kx_t 388 (by decide +kernel) rfl), ⟨_, rfl, rfl⟩, (kx_t 389 (by decide +kernel) rfl), by decide +kernel, by decide, by decide +kernel, rfl, rfl, by decide⟩
theorem wv_W_39 : kx_wV "EventKeeperLaw" 39 0 y_EK_next (.code y_EK_next c_EK_next 2 (some .int)) i_EK_next 1 := ⟨kx_kw0, (kx_t 404 (by decide +kernel) rfl), (kx_t 401 (by decide +kernel) rfl), (kx_t 402 (by decide +kernel) rfl), ⟨_, rfl, rfl⟩, (kx_t 403 (by decide +kernel) rfl), by decide +kernel, by decide, by decide +kernel, rfl, rfl, by decide⟩
theorem wv_W_42 : kx_wV "EventKeeperLaw" 42 0 y_EK_acknowledge (.code y_EK_acknowledge c_EK_acknowledge 3 (some .int)) i_EK_acknowledge 2 := ⟨kx_kw0, (kx_t 419 (by decide +kernel) rfl), (kx_t 416 (by decide +kernel) rfl), (kx_t 417 (by decide +kernel) rfl), ⟨_, rfl, rfl⟩, (kx_t 418 (by decide +kernel) rfl), by decide +kernel, by decide, by decide +kernel, rfl, rfl, by decide⟩
theorem wv_W_45 : kx_wV "EventKeeperLaw" 45 0 y_EK_event (.code y_EK_event c_EK_event 3 (some .int)) i_EK_event 2 := ⟨kx_kw0, (kx_t 438 (by decide +kernel) rfl), (kx_t 435 (by decide +kernel) rfl), (kx_t 436 (by decide +kernel) rfl), ⟨_, rfl, rfl⟩, (kx_t 437 (by decide +kernel) rfl), by decide +kernel, by decide, by decide +kernel, rfl, rfl, by decide⟩
theorem wv_W_48 : kx_wV "EventKeeperLaw" 48 0 y_EK_value (.code y_EK_value c_EK_value 2 (some .long)) i_EK_value 1 := ⟨kx_kw0, (kx_t 445 (by decide +kernel) rfl), (kx_t 442 (by decide +kernel) rfl), (kx_t 443 (by decide +kernel) rfl), ⟨_, rfl, rfl⟩, (kx_t 444 (by decide +kernel) rfl), by decide +kernel, by decide, by decide +kernel, rfl, rfl, by decide⟩
theorem wv_W_52 : kx_wV "EventKeeperLaw" 52 0 y_EK_find (.code y_EK_find c_EK_find 4 (some .int)) i_EK_find 2 := ⟨kx_kw0, (kx_t 452 (by decide +kernel) rfl), (kx_t 449 (by decide +kernel) rfl), (kx_t 450 (by decide +kernel) rfl), ⟨_, rfl, rfl⟩, (kx_t 451 (by decide +kernel) rfl), by decide +kernel, by decide, by decide +kernel, rfl, rfl, by decide⟩
theorem wv_W_55 : kx_wV "EventKeeperLaw" 55 0 y_EK_count (.code y_EK_count c_EK_count 3 (some .int)) i_EK_count 2 := ⟨kx_kw0, (kx_t 464 (by decide +kernel) rfl), (kx_t 461 (by decide +kernel) rfl), (kx_t 462 (by decide +kernel) rfl), ⟨_, rfl, rfl⟩, (kx_t 463 (by decide +kernel) rfl), by decide +kernel, by decide, by decide +kernel, rfl, rfl, by decide⟩
theorem nw_W_8 : kx_nw "EventKeeperLaw" 8 0 3 [.null, .null, .null] := ⟨_, T_EK, ty_EK, rfl, kt_EK, kp_EK, (kx_t 14 (by decide +kernel) rfl), (kx_t 15 (by decide +kernel) rfl), (kx_t 1 (by decide +kernel) rfl), fun B z hz => by
  match z, hz with
  | 0, _ => rfl
  | 1, _ => rfl
  | 2, _ => rfl
  | z + 3, hz => exact absurd hz (by omega)⟩
theorem wi_W_58 : kx_wI "EventKeeperLaw" 58 y_EK_init i_EK_init 0 := ⟨(kx_t 18 (by decide +kernel) rfl), rfl, rfl, (kx_t 16 (by decide +kernel) rfl), (kx_t 17 (by decide +kernel) rfl), rfl, by decide +kernel, by decide, by decide +kernel, rfl, rfl, by decide⟩
theorem nw_W_59 : kx_nw "EventKeeperLaw" 59 4 19 [.int 0, .int 0, .int 0, .null, .null, .null, .null, .null, .null, .null, .null, .null, .null, .null, .null, .null, .null, .null, .null] := ⟨_, T_M, ty_M, rfl, kt_M, kp_M, (kx_t 466 (by decide +kernel) rfl), (kx_t 467 (by decide +kernel) rfl), (kx_t 5 (by decide +kernel) rfl), fun B z hz => by
  match z, hz with
  | 0, _ => rfl
  | 1, _ => rfl
  | 2, _ => rfl
  | 3, _ => rfl
  | 4, _ => rfl
  | 5, _ => rfl
  | 6, _ => rfl
  | 7, _ => rfl
  | 8, _ => rfl
  | 9, _ => rfl
  | 10, _ => rfl
  | 11, _ => rfl
  | 12, _ => rfl
  | 13, _ => rfl
  | 14, _ => rfl
  | 15, _ => rfl
  | 16, _ => rfl
  | 17, _ => rfl
  | 18, _ => rfl
  | z + 19, hz => exact absurd hz (by omega)⟩
theorem wi_W_61 : kx_wI "EventKeeperLaw" 61 y_M_init i_M_init 0 := ⟨(kx_t 470 (by decide +kernel) rfl), rfl, rfl, (kx_t 468 (by decide +kernel) rfl), (kx_t 469 (by decide +kernel) rfl), rfl, by decide +kernel, by decide, by decide +kernel, rfl, rfl, by decide⟩
theorem ws_W_64 : kx_wS "EventKeeperLaw" 64 y_W_append (.codeWith y_W_append c_W_append 8 (some .int) i_W_append.2.2.2.2.1) i_W_append 6 := ⟨kx_kwH, (kx_t 186 (by decide +kernel) rfl), (kx_t 184 (by decide +kernel) rfl), (kx_t 185 (by decide +kernel) rfl), (kx_t 0 (by decide +kernel) rfl), by decide +kernel, by decide, by decide +kernel, rfl, rfl, by decide⟩
theorem wv_W_69 : kx_wV "EventKeeperLaw" 69 4 y_M_append (.code y_M_append c_M_append 6 (some .int)) i_M_append 4 := ⟨kx_kw0, (kx_t 537 (by decide +kernel) rfl), (kx_t 534 (by decide +kernel) rfl), (kx_t 535 (by decide +kernel) rfl), ⟨_, rfl, rfl⟩, (kx_t 536 (by decide +kernel) rfl), by decide +kernel, by decide, by decide +kernel, rfl, rfl, by decide⟩
theorem wv_W_70 : kx_wV "EventKeeperLaw" 70 4 y_M_thrown (.code y_M_thrown c_M_thrown 1 (some .int)) i_M_thrown 0 := ⟨kx_kw0, (kx_t 533 (by decide +kernel) rfl), (kx_t 530 (by decide +kernel) rfl), (kx_t 531 (by decide +kernel) rfl), ⟨_, rfl, rfl⟩, (kx_t 532 (by decide +kernel) rfl), by decide +kernel, by decide, by decide +kernel, rfl, rfl, by decide⟩
theorem ws_W_74 : kx_wS "EventKeeperLaw" 74 y_W_rule (.codeWith y_W_rule c_W_rule 6 (some .int) i_W_rule.2.2.2.2.1) i_W_rule 5 := ⟨kx_kwH, (kx_t 313 (by decide +kernel) rfl), (kx_t 311 (by decide +kernel) rfl), (kx_t 312 (by decide +kernel) rfl), (kx_t 0 (by decide +kernel) rfl), by decide +kernel, by decide, by decide +kernel, rfl, rfl, by decide⟩
theorem wv_W_77 : kx_wV "EventKeeperLaw" 77 4 y_M_rule (.code y_M_rule c_M_rule 5 (none)) i_M_rule 4 := ⟨kx_kw0, (kx_t 556 (by decide +kernel) rfl), (kx_t 553 (by decide +kernel) rfl), (kx_t 554 (by decide +kernel) rfl), ⟨_, rfl, rfl⟩, (kx_t 555 (by decide +kernel) rfl), by decide +kernel, by decide, by decide +kernel, rfl, rfl, by decide⟩
theorem ws_W_78 : kx_wS "EventKeeperLaw" 78 y_W_advance (.codeWith y_W_advance c_W_advance 5 (some .int) i_W_advance.2.2.2.2.1) i_W_advance 4 := ⟨kx_kwH, (kx_t 327 (by decide +kernel) rfl), (kx_t 325 (by decide +kernel) rfl), (kx_t 326 (by decide +kernel) rfl), (kx_t 0 (by decide +kernel) rfl), by decide +kernel, by decide, by decide +kernel, rfl, rfl, by decide⟩
theorem wv_W_81 : kx_wV "EventKeeperLaw" 81 4 y_M_advance (.code y_M_advance c_M_advance 4 (some .int)) i_M_advance 2 := ⟨kx_kw0, (kx_t 567 (by decide +kernel) rfl), (kx_t 564 (by decide +kernel) rfl), (kx_t 565 (by decide +kernel) rfl), ⟨_, rfl, rfl⟩, (kx_t 566 (by decide +kernel) rfl), by decide +kernel, by decide, by decide +kernel, rfl, rfl, by decide⟩
theorem ws_W_82 : kx_wS "EventKeeperLaw" 82 y_W_save (.codeWith y_W_save c_W_save 4 (some .int) i_W_save.2.2.2.2.1) i_W_save 3 := ⟨kx_kwH, (kx_t 367 (by decide +kernel) rfl), (kx_t 365 (by decide +kernel) rfl), (kx_t 366 (by decide +kernel) rfl), (kx_t 0 (by decide +kernel) rfl), by decide +kernel, by decide, by decide +kernel, rfl, rfl, by decide⟩
theorem wv_W_85 : kx_wV "EventKeeperLaw" 85 4 y_M_save (.code y_M_save c_M_save 3 (some .int)) i_M_save 1 := ⟨kx_kw0, (kx_t 576 (by decide +kernel) rfl), (kx_t 573 (by decide +kernel) rfl), (kx_t 574 (by decide +kernel) rfl), ⟨_, rfl, rfl⟩, (kx_t 575 (by decide +kernel) rfl), by decide +kernel, by decide, by decide +kernel, rfl, rfl, by decide⟩
theorem ws_W_86 : kx_wS "EventKeeperLaw" 86 y_W_cell (.codeWith y_W_cell c_W_cell 5 (some .int) i_W_cell.2.2.2.2.1) i_W_cell 4 := ⟨kx_kwH, (kx_t 378 (by decide +kernel) rfl), (kx_t 376 (by decide +kernel) rfl), (kx_t 377 (by decide +kernel) rfl), (kx_t 0 (by decide +kernel) rfl), by decide +kernel, by decide, by decide +kernel, rfl, rfl, by decide⟩
theorem wv_W_88 : kx_wV "EventKeeperLaw" 88 4 y_M_cell (.code y_M_cell c_M_cell 3 (some .long)) i_M_cell 2 := ⟨kx_kw0, (kx_t 580 (by decide +kernel) rfl), (kx_t 577 (by decide +kernel) rfl), (kx_t 578 (by decide +kernel) rfl), ⟨_, rfl, rfl⟩, (kx_t 579 (by decide +kernel) rfl), by decide +kernel, by decide, by decide +kernel, rfl, rfl, by decide⟩
theorem ws_W_89 : kx_wS "EventKeeperLaw" 89 y_W_filter (.codeWith y_W_filter c_W_filter 5 (some .int) i_W_filter.2.2.2.2.1) i_W_filter 4 := ⟨kx_kwH, (kx_t 386 (by decide +kernel) rfl), (kx_t 384 (by decide +kernel) rfl), (kx_t 385 (by decide +kernel) rfl), (kx_t 0 (by decide +kernel) rfl), by decide +kernel, by decide, by decide +kernel, rfl, rfl, by decide⟩
theorem wv_W_92 : kx_wV "EventKeeperLaw" 92 4 y_M_filter (.code y_M_filter c_M_filter 4 (none)) i_M_filter 3 := ⟨kx_kw0, (kx_t 584 (by decide +kernel) rfl), (kx_t 581 (by decide +kernel) rfl), (kx_t 582 (by decide +kernel) rfl), ⟨_, rfl, rfl⟩, (kx_t 583 (by decide +kernel) rfl), by decide +kernel, by decide, by decide +kernel, rfl, rfl, by decide⟩
theorem ws_W_93 : kx_wS "EventKeeperLaw" 93 y_W_next (.codeWith y_W_next c_W_next 4 (some .int) i_W_next.2.2.2.2.1) i_W_next 3 := ⟨kx_kwH, (kx_t 400 (by decide +kernel) rfl), (kx_t 398 (by decide +kernel) rfl), (kx_t 399 (by decide +kernel) rfl), (kx_t 0 (by decide +kernel) rfl), by decide +kernel, by decide, by decide +kernel, rfl, rfl, by decide⟩
theorem wv_W_95 : kx_wV "EventKeeperLaw" 95 4 y_M_next (.code y_M_next c_M_next 3 (some .int)) i_M_next 1 := ⟨kx_kw0, (kx_t 591 (by decide +kernel) rfl), (kx_t 588 (by decide +kernel) rfl), (kx_t 589 (by decide +kernel) rfl), ⟨_, rfl, rfl⟩, (kx_t 590 (by decide +kernel) rfl), by decide +kernel, by decide, by decide +kernel, rfl, rfl, by decide⟩
theorem ws_W_96 : kx_wS "EventKeeperLaw" 96 y_W_acknowledge (.codeWith y_W_acknowledge c_W_acknowledge 5 (some .int) i_W_acknowledge.2.2.2.2.1) i_W_acknowledge 4 := ⟨kx_kwH, (kx_t 415 (by decide +kernel) rfl), (kx_t 413 (by decide +kernel) rfl), (kx_t 414 (by decide +kernel) rfl), (kx_t 0 (by decide +kernel) rfl), by decide +kernel, by decide, by decide +kernel, rfl, rfl, by decide⟩
theorem wv_W_98 : kx_wV "EventKeeperLaw" 98 4 y_M_acknowledge (.code y_M_acknowledge c_M_acknowledge 3 (some .int)) i_M_acknowledge 2 := ⟨kx_kw0, (kx_t 595 (by decide +kernel) rfl), (kx_t 592 (by decide +kernel) rfl), (kx_t 593 (by decide +kernel) rfl), ⟨_, rfl, rfl⟩, (kx_t 594 (by decide +kernel) rfl), by decide +kernel, by decide, by decide +kernel, rfl, rfl, by decide⟩
theorem wv_W_99 : kx_wV "EventKeeperLaw" 99 0 y_EK_sync (.code y_EK_sync c_EK_sync 2 (some .int)) i_EK_sync 0 := ⟨kx_kw0, (kx_t 149 (by decide +kernel) rfl), (kx_t 146 (by decide +kernel) rfl), (kx_t 147 (by decide +kernel) rfl), ⟨_, rfl, rfl⟩, (kx_t 148 (by decide +kernel) rfl), by decide +kernel, by decide, by decide +kernel, rfl, rfl, by decide⟩
theorem wv_W_102 : kx_wV "EventKeeperLaw" 102 4 y_M_sync (.code y_M_sync c_M_sync 2 (some .int)) i_M_sync 0 := ⟨kx_kw0, (kx_t 599 (by decide +kernel) rfl), (kx_t 596 (by decide +kernel) rfl), (kx_t 597 (by decide +kernel) rfl), ⟨_, rfl, rfl⟩, (kx_t 598 (by decide +kernel) rfl), by decide +kernel, by decide, by decide +kernel, rfl, rfl, by decide⟩
theorem wv_W_103 : kx_wV "EventKeeperLaw" 103 0 y_EK_crash (.code y_EK_crash c_EK_crash 2 (some .int)) i_EK_crash 0 := ⟨kx_kw0, (kx_t 157 (by decide +kernel) rfl), (kx_t 154 (by decide +kernel) rfl), (kx_t 155 (by decide +kernel) rfl), ⟨_, rfl, rfl⟩, (kx_t 156 (by decide +kernel) rfl), by decide +kernel, by decide, by decide +kernel, rfl, rfl, by decide⟩
theorem wv_W_106 : kx_wV "EventKeeperLaw" 106 4 y_M_crash (.code y_M_crash c_M_crash 3 (some .int)) i_M_crash 0 := ⟨kx_kw0, (kx_t 603 (by decide +kernel) rfl), (kx_t 600 (by decide +kernel) rfl), (kx_t 601 (by decide +kernel) rfl), ⟨_, rfl, rfl⟩, (kx_t 602 (by decide +kernel) rfl), by decide +kernel, by decide, by decide +kernel, rfl, rfl, by decide⟩
theorem ws_W_107 : kx_wS "EventKeeperLaw" 107 y_W_event (.codeWith y_W_event c_W_event 5 (some .int) i_W_event.2.2.2.2.1) i_W_event 4 := ⟨kx_kwH, (kx_t 434 (by decide +kernel) rfl), (kx_t 432 (by decide +kernel) rfl), (kx_t 433 (by decide +kernel) rfl), (kx_t 0 (by decide +kernel) rfl), by decide +kernel, by decide, by decide +kernel, rfl, rfl, by decide⟩
theorem wv_W_109 : kx_wV "EventKeeperLaw" 109 4 y_M_event (.code y_M_event c_M_event 3 (some .int)) i_M_event 2 := ⟨kx_kw0, (kx_t 607 (by decide +kernel) rfl), (kx_t 604 (by decide +kernel) rfl), (kx_t 605 (by decide +kernel) rfl), ⟨_, rfl, rfl⟩, (kx_t 606 (by decide +kernel) rfl), by decide +kernel, by decide, by decide +kernel, rfl, rfl, by decide⟩
theorem ws_W_110 : kx_wS "EventKeeperLaw" 110 y_W_value (.codeWith y_W_value c_W_value 4 (some .int) i_W_value.2.2.2.2.1) i_W_value 3 := ⟨kx_kwH, (kx_t 441 (by decide +kernel) rfl), (kx_t 439 (by decide +kernel) rfl), (kx_t 440 (by decide +kernel) rfl), (kx_t 0 (by decide +kernel) rfl), by decide +kernel, by decide, by decide +kernel, rfl, rfl, by decide⟩
theorem wv_W_112 : kx_wV "EventKeeperLaw" 112 4 y_M_value (.code y_M_value c_M_value 2 (some .long)) i_M_value 1 := ⟨kx_kw0, (kx_t 615 (by decide +kernel) rfl), (kx_t 612 (by decide +kernel) rfl), (kx_t 613 (by decide +kernel) rfl), ⟨_, rfl, rfl⟩, (kx_t 614 (by decide +kernel) rfl), by decide +kernel, by decide, by decide +kernel, rfl, rfl, by decide⟩
theorem ws_W_113 : kx_wS "EventKeeperLaw" 113 y_W_find (.codeWith y_W_find c_W_find 5 (some .int) i_W_find.2.2.2.2.1) i_W_find 4 := ⟨kx_kwH, (kx_t 448 (by decide +kernel) rfl), (kx_t 446 (by decide +kernel) rfl), (kx_t 447 (by decide +kernel) rfl), (kx_t 0 (by decide +kernel) rfl), by decide +kernel, by decide, by decide +kernel, rfl, rfl, by decide⟩
theorem wv_W_115 : kx_wV "EventKeeperLaw" 115 4 y_M_find (.code y_M_find c_M_find 4 (some .int)) i_M_find 2 := ⟨kx_kw0, (kx_t 619 (by decide +kernel) rfl), (kx_t 616 (by decide +kernel) rfl), (kx_t 617 (by decide +kernel) rfl), ⟨_, rfl, rfl⟩, (kx_t 618 (by decide +kernel) rfl), by decide +kernel, by decide, by decide +kernel, rfl, rfl, by decide⟩
theorem ws_W_116 : kx_wS "EventKeeperLaw" 116 y_W_count (.codeWith y_W_count c_W_count 5 (some .int) i_W_count.2.2.2.2.1) i_W_count 4 := ⟨kx_kwH, (kx_t 460 (by decide +kernel) rfl), (kx_t 458 (by decide +kernel) rfl), (kx_t 459 (by decide +kernel) rfl), (kx_t 0 (by decide +kernel) rfl), by decide +kernel, by decide, by decide +kernel, rfl, rfl, by decide⟩
theorem wv_W_118 : kx_wV "EventKeeperLaw" 118 4 y_M_count (.code y_M_count c_M_count 5 (some .int)) i_M_count 2 := ⟨kx_kw0, (kx_t 623 (by decide +kernel) rfl), (kx_t 620 (by decide +kernel) rfl), (kx_t 621 (by decide +kernel) rfl), ⟨_, rfl, rfl⟩, (kx_t 622 (by decide +kernel) rfl), by decide +kernel, by decide, by decide +kernel, rfl, rfl, by decide⟩
