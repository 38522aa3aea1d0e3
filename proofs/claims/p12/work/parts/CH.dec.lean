def R_L : String := "CurveKeysLaw"
abbrev b_L_feed : ByteArray := method_3_code
def y_L_feed : MethodName := ⟨R_L, "feed", "(LCurveKeys;IIIII[J)I"⟩
abbrev hh_L_feed : List (Nat × Nat × Nat × Nat) := [(0, 16, 19, 13)]
theorem mc_L_feed : Cond.codeWith y_L_feed b_L_feed 8 (some .int) hh_L_feed ∈ lw_tbl := List.mem_append_right _ (List.mem_append_right _ (List.mem_append_left _ (List.mem_of_getElem? (i := 167) rfl)))
abbrev b_L_end : ByteArray := method_4_code
def y_L_end : MethodName := ⟨R_L, "end", "(LCurveKeys;I[J)I"⟩
abbrev hh_L_end : List (Nat × Nat × Nat × Nat) := [(0, 9, 12, 19)]
theorem mc_L_end : Cond.codeWith y_L_end b_L_end 4 (some .int) hh_L_end ∈ lw_tbl := List.mem_append_right _ (List.mem_append_right _ (List.mem_append_right _ (List.mem_append_left _ (List.mem_of_getElem? (i := 31) rfl))))
abbrev b_L_key : ByteArray := method_5_code
def y_L_key : MethodName := ⟨R_L, "key", "(LCurveKeys;[J)I"⟩
abbrev hh_L_key : List (Nat × Nat × Nat × Nat) := [(0, 8, 11, 19), (0, 8, 14, 13)]
theorem mc_L_key : Cond.codeWith y_L_key b_L_key 3 (some .int) hh_L_key ∈ lw_tbl := List.mem_append_right _ (List.mem_append_right _ (List.mem_append_right _ (List.mem_append_left _ (List.mem_of_getElem? (i := 55) rfl))))
abbrev b_L_open : ByteArray := method_6_code
def y_L_open : MethodName := ⟨R_L, "open", "(LCurveKeys;II)I"⟩
abbrev hh_L_open : List (Nat × Nat × Nat × Nat) := [(0, 6, 9, 29), (0, 6, 12, 19)]
theorem mc_L_open : Cond.codeWith y_L_open b_L_open 4 (some .int) hh_L_open ∈ lw_tbl := List.mem_append_right _ (List.mem_append_right _ (List.mem_append_right _ (List.mem_append_left _ (List.mem_of_getElem? (i := 96) rfl))))
abbrev b_L_agree : ByteArray := method_7_code
def y_L_agree : MethodName := ⟨R_L, "agree", "(LCurveKeys;I[J)I"⟩
abbrev hh_L_agree : List (Nat × Nat × Nat × Nat) := [(0, 16, 19, 29), (0, 16, 22, 19)]
theorem mc_L_agree : Cond.codeWith y_L_agree b_L_agree 4 (some .int) hh_L_agree ∈ lw_tbl := List.mem_append_right _ (List.mem_append_right _ (List.mem_append_right _ (List.mem_append_right _ (List.mem_append_right _ (List.mem_append_left _ (List.mem_of_getElem? (i := 29) rfl))))))
abbrev b_L_sign : ByteArray := method_8_code
def y_L_sign : MethodName := ⟨R_L, "sign", "(LCurveKeys;I)I"⟩
abbrev hh_L_sign : List (Nat × Nat × Nat × Nat) := [(0, 5, 8, 29)]
theorem mc_L_sign : Cond.codeWith y_L_sign b_L_sign 3 (some .int) hh_L_sign ∈ lw_tbl := List.mem_append_right _ (List.mem_append_right _ (List.mem_append_right _ (List.mem_append_right _ (List.mem_append_right _ (List.mem_append_left _ (List.mem_of_getElem? (i := 40) rfl))))))
abbrev b_L_verify : ByteArray := method_9_code
def y_L_verify : MethodName := ⟨R_L, "verify", "(LCurveKeys;[J)I"⟩
abbrev hh_L_verify : List (Nat × Nat × Nat × Nat) := [(0, 8, 11, 19)]
theorem mc_L_verify : Cond.codeWith y_L_verify b_L_verify 3 (some .int) hh_L_verify ∈ lw_tbl := List.mem_append_right _ (List.mem_append_right _ (List.mem_append_right _ (List.mem_append_right _ (List.mem_append_right _ (List.mem_append_left _ (List.mem_of_getElem? (i := 82) rfl))))))
abbrev b_L_point : ByteArray := method_10_code
def y_L_point : MethodName := ⟨R_L, "point", "(LCurveKeys;[J)I"⟩
abbrev hh_L_point : List (Nat × Nat × Nat × Nat) := [(0, 15, 18, 19)]
theorem mc_L_point : Cond.codeWith y_L_point b_L_point 3 (some .int) hh_L_point ∈ lw_tbl := List.mem_append_right _ (List.mem_append_right _ (List.mem_append_right _ (List.mem_append_right _ (List.mem_append_right _ (List.mem_append_left _ (List.mem_of_getElem? (i := 152) rfl))))))
abbrev b_L_back : ByteArray := method_11_code
def y_L_back : MethodName := ⟨R_L, "back", "(LCurveKeys;II[J)I"⟩
abbrev hh_L_back : List (Nat × Nat × Nat × Nat) := [(0, 10, 13, 50), (0, 10, 17, 13)]
theorem mc_L_back : Cond.codeWith y_L_back b_L_back 5 (some .int) hh_L_back ∈ lw_tbl := List.mem_append_right _ (List.mem_append_right _ (List.mem_append_right _ (List.mem_append_right _ (List.mem_append_right _ (List.mem_append_left _ (List.mem_of_getElem? (i := 164) rfl))))))
abbrev b_L_result : ByteArray := method_12_code
def y_L_result : MethodName := ⟨R_L, "result", "(LCurveKeys;I[J)I"⟩
abbrev hh_L_result : List (Nat × Nat × Nat × Nat) := [(0, 9, 12, 50)]
theorem mc_L_result : Cond.codeWith y_L_result b_L_result 4 (some .int) hh_L_result ∈ lw_tbl := List.mem_append_right _ (List.mem_append_right _ (List.mem_append_right _ (List.mem_append_right _ (List.mem_append_right _ (List.mem_append_left _ (List.mem_of_getElem? (i := 191) rfl))))))
theorem d_L_feed_0 : decode b_L_feed 0 = .ok (.aload 6, 2) := by decide +kernel
theorem d_L_feed_2 : decode b_L_feed 2 = .ok (.iconst 0, 1) := by decide +kernel
theorem d_L_feed_3 : decode b_L_feed 3 = .ok (.aload_n 0, 1) := by decide +kernel
theorem d_L_feed_4 : decode b_L_feed 4 = .ok (.iload_n 1, 1) := by decide +kernel
theorem d_L_feed_5 : decode b_L_feed 5 = .ok (.iload_n 2, 1) := by decide +kernel
theorem d_L_feed_6 : decode b_L_feed 6 = .ok (.iload_n 3, 1) := by decide +kernel
theorem d_L_feed_7 : decode b_L_feed 7 = .ok (.iload 4, 2) := by decide +kernel
theorem d_L_feed_9 : decode b_L_feed 9 = .ok (.iload 5, 2) := by decide +kernel
theorem d_L_feed_11 : decode b_L_feed 11 = .ok (.invokevirtual 7, 3) := by decide +kernel
theorem d_L_feed_14 : decode b_L_feed 14 = .ok (.i2l, 1) := by decide +kernel
theorem d_L_feed_15 : decode b_L_feed 15 = .ok (.lastore, 1) := by decide +kernel
theorem d_L_feed_16 : decode b_L_feed 16 = .ok (.goto 7, 3) := by decide +kernel
theorem d_L_feed_19 : decode b_L_feed 19 = .ok (.astore 7, 2) := by decide +kernel
theorem d_L_feed_21 : decode b_L_feed 21 = .ok (.iconst 1, 1) := by decide +kernel
theorem d_L_feed_22 : decode b_L_feed 22 = .ok (.ireturn, 1) := by decide +kernel
theorem d_L_feed_23 : decode b_L_feed 23 = .ok (.iconst 0, 1) := by decide +kernel
theorem d_L_feed_24 : decode b_L_feed 24 = .ok (.ireturn, 1) := by decide +kernel
theorem d_L_end_0 : decode b_L_end 0 = .ok (.aload_n 2, 1) := by decide +kernel
theorem d_L_end_1 : decode b_L_end 1 = .ok (.iconst 0, 1) := by decide +kernel
theorem d_L_end_2 : decode b_L_end 2 = .ok (.aload_n 0, 1) := by decide +kernel
theorem d_L_end_3 : decode b_L_end 3 = .ok (.iload_n 1, 1) := by decide +kernel
theorem d_L_end_4 : decode b_L_end 4 = .ok (.invokevirtual 15, 3) := by decide +kernel
theorem d_L_end_7 : decode b_L_end 7 = .ok (.i2l, 1) := by decide +kernel
theorem d_L_end_8 : decode b_L_end 8 = .ok (.lastore, 1) := by decide +kernel
theorem d_L_end_9 : decode b_L_end 9 = .ok (.goto 6, 3) := by decide +kernel
theorem d_L_end_12 : decode b_L_end 12 = .ok (.astore_n 3, 1) := by decide +kernel
theorem d_L_end_13 : decode b_L_end 13 = .ok (.iconst 1, 1) := by decide +kernel
theorem d_L_end_14 : decode b_L_end 14 = .ok (.ireturn, 1) := by decide +kernel
theorem d_L_end_15 : decode b_L_end 15 = .ok (.iconst 0, 1) := by decide +kernel
theorem d_L_end_16 : decode b_L_end 16 = .ok (.ireturn, 1) := by decide +kernel
theorem d_L_key_0 : decode b_L_key 0 = .ok (.aload_n 1, 1) := by decide +kernel
theorem d_L_key_1 : decode b_L_key 1 = .ok (.iconst 0, 1) := by decide +kernel
theorem d_L_key_2 : decode b_L_key 2 = .ok (.aload_n 0, 1) := by decide +kernel
theorem d_L_key_3 : decode b_L_key 3 = .ok (.invokevirtual 21, 3) := by decide +kernel
theorem d_L_key_6 : decode b_L_key 6 = .ok (.i2l, 1) := by decide +kernel
theorem d_L_key_7 : decode b_L_key 7 = .ok (.lastore, 1) := by decide +kernel
theorem d_L_key_8 : decode b_L_key 8 = .ok (.goto 9, 3) := by decide +kernel
theorem d_L_key_11 : decode b_L_key 11 = .ok (.astore_n 2, 1) := by decide +kernel
theorem d_L_key_12 : decode b_L_key 12 = .ok (.iconst 1, 1) := by decide +kernel
theorem d_L_key_13 : decode b_L_key 13 = .ok (.ireturn, 1) := by decide +kernel
theorem d_L_key_14 : decode b_L_key 14 = .ok (.astore_n 2, 1) := by decide +kernel
theorem d_L_key_15 : decode b_L_key 15 = .ok (.iconst 2, 1) := by decide +kernel
theorem d_L_key_16 : decode b_L_key 16 = .ok (.ireturn, 1) := by decide +kernel
theorem d_L_key_17 : decode b_L_key 17 = .ok (.iconst 0, 1) := by decide +kernel
theorem d_L_key_18 : decode b_L_key 18 = .ok (.ireturn, 1) := by decide +kernel
theorem d_L_open_0 : decode b_L_open 0 = .ok (.aload_n 0, 1) := by decide +kernel
theorem d_L_open_1 : decode b_L_open 1 = .ok (.iload_n 1, 1) := by decide +kernel
theorem d_L_open_2 : decode b_L_open 2 = .ok (.iload_n 2, 1) := by decide +kernel
theorem d_L_open_3 : decode b_L_open 3 = .ok (.invokevirtual 25, 3) := by decide +kernel
theorem d_L_open_6 : decode b_L_open 6 = .ok (.goto 9, 3) := by decide +kernel
theorem d_L_open_9 : decode b_L_open 9 = .ok (.astore_n 3, 1) := by decide +kernel
theorem d_L_open_10 : decode b_L_open 10 = .ok (.iconst 1, 1) := by decide +kernel
theorem d_L_open_11 : decode b_L_open 11 = .ok (.ireturn, 1) := by decide +kernel
theorem d_L_open_12 : decode b_L_open 12 = .ok (.astore_n 3, 1) := by decide +kernel
theorem d_L_open_13 : decode b_L_open 13 = .ok (.iconst 2, 1) := by decide +kernel
theorem d_L_open_14 : decode b_L_open 14 = .ok (.ireturn, 1) := by decide +kernel
theorem d_L_open_15 : decode b_L_open 15 = .ok (.iconst 0, 1) := by decide +kernel
theorem d_L_open_16 : decode b_L_open 16 = .ok (.ireturn, 1) := by decide +kernel
theorem d_L_agree_0 : decode b_L_agree 0 = .ok (.aload_n 2, 1) := by decide +kernel
theorem d_L_agree_1 : decode b_L_agree 1 = .ok (.iconst 0, 1) := by decide +kernel
theorem d_L_agree_2 : decode b_L_agree 2 = .ok (.aload_n 0, 1) := by decide +kernel
theorem d_L_agree_3 : decode b_L_agree 3 = .ok (.iload_n 1, 1) := by decide +kernel
theorem d_L_agree_4 : decode b_L_agree 4 = .ok (.invokevirtual 31, 3) := by decide +kernel
theorem d_L_agree_7 : decode b_L_agree 7 = .ok (.ifCond .eq 7, 3) := by decide +kernel
theorem d_L_agree_10 : decode b_L_agree 10 = .ok (.lconst 1, 1) := by decide +kernel
theorem d_L_agree_11 : decode b_L_agree 11 = .ok (.goto 4, 3) := by decide +kernel
theorem d_L_agree_14 : decode b_L_agree 14 = .ok (.lconst 0, 1) := by decide +kernel
theorem d_L_agree_15 : decode b_L_agree 15 = .ok (.lastore, 1) := by decide +kernel
theorem d_L_agree_16 : decode b_L_agree 16 = .ok (.goto 9, 3) := by decide +kernel
theorem d_L_agree_19 : decode b_L_agree 19 = .ok (.astore_n 3, 1) := by decide +kernel
theorem d_L_agree_20 : decode b_L_agree 20 = .ok (.iconst 1, 1) := by decide +kernel
theorem d_L_agree_21 : decode b_L_agree 21 = .ok (.ireturn, 1) := by decide +kernel
theorem d_L_agree_22 : decode b_L_agree 22 = .ok (.astore_n 3, 1) := by decide +kernel
theorem d_L_agree_23 : decode b_L_agree 23 = .ok (.iconst 2, 1) := by decide +kernel
theorem d_L_agree_24 : decode b_L_agree 24 = .ok (.ireturn, 1) := by decide +kernel
theorem d_L_agree_25 : decode b_L_agree 25 = .ok (.iconst 0, 1) := by decide +kernel
theorem d_L_agree_26 : decode b_L_agree 26 = .ok (.ireturn, 1) := by decide +kernel
theorem d_L_sign_0 : decode b_L_sign 0 = .ok (.aload_n 0, 1) := by decide +kernel
theorem d_L_sign_1 : decode b_L_sign 1 = .ok (.iload_n 1, 1) := by decide +kernel
theorem d_L_sign_2 : decode b_L_sign 2 = .ok (.invokevirtual 35, 3) := by decide +kernel
theorem d_L_sign_5 : decode b_L_sign 5 = .ok (.goto 6, 3) := by decide +kernel
theorem d_L_sign_8 : decode b_L_sign 8 = .ok (.astore_n 2, 1) := by decide +kernel
theorem d_L_sign_9 : decode b_L_sign 9 = .ok (.iconst 1, 1) := by decide +kernel
theorem d_L_sign_10 : decode b_L_sign 10 = .ok (.ireturn, 1) := by decide +kernel
theorem d_L_sign_11 : decode b_L_sign 11 = .ok (.iconst 0, 1) := by decide +kernel
theorem d_L_sign_12 : decode b_L_sign 12 = .ok (.ireturn, 1) := by decide +kernel
theorem d_L_verify_0 : decode b_L_verify 0 = .ok (.aload_n 1, 1) := by decide +kernel
theorem d_L_verify_1 : decode b_L_verify 1 = .ok (.iconst 0, 1) := by decide +kernel
theorem d_L_verify_2 : decode b_L_verify 2 = .ok (.aload_n 0, 1) := by decide +kernel
theorem d_L_verify_3 : decode b_L_verify 3 = .ok (.invokevirtual 39, 3) := by decide +kernel
theorem d_L_verify_6 : decode b_L_verify 6 = .ok (.i2l, 1) := by decide +kernel
theorem d_L_verify_7 : decode b_L_verify 7 = .ok (.lastore, 1) := by decide +kernel
theorem d_L_verify_8 : decode b_L_verify 8 = .ok (.goto 6, 3) := by decide +kernel
theorem d_L_verify_11 : decode b_L_verify 11 = .ok (.astore_n 2, 1) := by decide +kernel
theorem d_L_verify_12 : decode b_L_verify 12 = .ok (.iconst 1, 1) := by decide +kernel
theorem d_L_verify_13 : decode b_L_verify 13 = .ok (.ireturn, 1) := by decide +kernel
theorem d_L_verify_14 : decode b_L_verify 14 = .ok (.iconst 0, 1) := by decide +kernel
theorem d_L_verify_15 : decode b_L_verify 15 = .ok (.ireturn, 1) := by decide +kernel
theorem d_L_point_0 : decode b_L_point 0 = .ok (.aload_n 1, 1) := by decide +kernel
theorem d_L_point_1 : decode b_L_point 1 = .ok (.iconst 0, 1) := by decide +kernel
theorem d_L_point_2 : decode b_L_point 2 = .ok (.aload_n 0, 1) := by decide +kernel
theorem d_L_point_3 : decode b_L_point 3 = .ok (.invokevirtual 42, 3) := by decide +kernel
theorem d_L_point_6 : decode b_L_point 6 = .ok (.ifCond .eq 7, 3) := by decide +kernel
theorem d_L_point_9 : decode b_L_point 9 = .ok (.lconst 1, 1) := by decide +kernel
theorem d_L_point_10 : decode b_L_point 10 = .ok (.goto 4, 3) := by decide +kernel
theorem d_L_point_13 : decode b_L_point 13 = .ok (.lconst 0, 1) := by decide +kernel
theorem d_L_point_14 : decode b_L_point 14 = .ok (.lastore, 1) := by decide +kernel
theorem d_L_point_15 : decode b_L_point 15 = .ok (.goto 6, 3) := by decide +kernel
theorem d_L_point_18 : decode b_L_point 18 = .ok (.astore_n 2, 1) := by decide +kernel
theorem d_L_point_19 : decode b_L_point 19 = .ok (.iconst 1, 1) := by decide +kernel
theorem d_L_point_20 : decode b_L_point 20 = .ok (.ireturn, 1) := by decide +kernel
theorem d_L_point_21 : decode b_L_point 21 = .ok (.iconst 0, 1) := by decide +kernel
theorem d_L_point_22 : decode b_L_point 22 = .ok (.ireturn, 1) := by decide +kernel
theorem d_L_back_0 : decode b_L_back 0 = .ok (.aload_n 3, 1) := by decide +kernel
theorem d_L_back_1 : decode b_L_back 1 = .ok (.iconst 0, 1) := by decide +kernel
theorem d_L_back_2 : decode b_L_back 2 = .ok (.aload_n 0, 1) := by decide +kernel
theorem d_L_back_3 : decode b_L_back 3 = .ok (.iload_n 1, 1) := by decide +kernel
theorem d_L_back_4 : decode b_L_back 4 = .ok (.iload_n 2, 1) := by decide +kernel
theorem d_L_back_5 : decode b_L_back 5 = .ok (.invokevirtual 46, 3) := by decide +kernel
theorem d_L_back_8 : decode b_L_back 8 = .ok (.i2l, 1) := by decide +kernel
theorem d_L_back_9 : decode b_L_back 9 = .ok (.lastore, 1) := by decide +kernel
theorem d_L_back_10 : decode b_L_back 10 = .ok (.goto 11, 3) := by decide +kernel
theorem d_L_back_13 : decode b_L_back 13 = .ok (.astore 4, 2) := by decide +kernel
theorem d_L_back_15 : decode b_L_back 15 = .ok (.iconst 1, 1) := by decide +kernel
theorem d_L_back_16 : decode b_L_back 16 = .ok (.ireturn, 1) := by decide +kernel
theorem d_L_back_17 : decode b_L_back 17 = .ok (.astore 4, 2) := by decide +kernel
theorem d_L_back_19 : decode b_L_back 19 = .ok (.iconst 2, 1) := by decide +kernel
theorem d_L_back_20 : decode b_L_back 20 = .ok (.ireturn, 1) := by decide +kernel
theorem d_L_back_21 : decode b_L_back 21 = .ok (.iconst 0, 1) := by decide +kernel
theorem d_L_back_22 : decode b_L_back 22 = .ok (.ireturn, 1) := by decide +kernel
theorem d_L_result_0 : decode b_L_result 0 = .ok (.aload_n 2, 1) := by decide +kernel
theorem d_L_result_1 : decode b_L_result 1 = .ok (.iconst 0, 1) := by decide +kernel
theorem d_L_result_2 : decode b_L_result 2 = .ok (.aload_n 0, 1) := by decide +kernel
theorem d_L_result_3 : decode b_L_result 3 = .ok (.iload_n 1, 1) := by decide +kernel
theorem d_L_result_4 : decode b_L_result 4 = .ok (.invokevirtual 52, 3) := by decide +kernel
theorem d_L_result_7 : decode b_L_result 7 = .ok (.i2l, 1) := by decide +kernel
theorem d_L_result_8 : decode b_L_result 8 = .ok (.lastore, 1) := by decide +kernel
theorem d_L_result_9 : decode b_L_result 9 = .ok (.goto 6, 3) := by decide +kernel
theorem d_L_result_12 : decode b_L_result 12 = .ok (.astore_n 3, 1) := by decide +kernel
theorem d_L_result_13 : decode b_L_result 13 = .ok (.iconst 1, 1) := by decide +kernel
theorem d_L_result_14 : decode b_L_result 14 = .ok (.ireturn, 1) := by decide +kernel
theorem d_L_result_15 : decode b_L_result 15 = .ok (.iconst 0, 1) := by decide +kernel
theorem d_L_result_16 : decode b_L_result 16 = .ok (.ireturn, 1) := by decide +kernel
