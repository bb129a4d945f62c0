abbrev m_Body_enter : ac_I := (⟨"PairedGates$Body", "enter", "(III)V"⟩, prog_3_method_2_code, 4, none, [])
theorem d_Body_enter_0 : decode prog_3_method_2_code 0 = .ok (.aload_n 0, 1) := by decide +kernel
theorem d_Body_enter_1 : decode prog_3_method_2_code 1 = .ok (.iload_n 1, 1) := by decide +kernel
theorem d_Body_enter_2 : decode prog_3_method_2_code 2 = .ok (.putfield 9, 3) := by decide +kernel
theorem d_Body_enter_5 : decode prog_3_method_2_code 5 = .ok (.aload_n 0, 1) := by decide +kernel
theorem d_Body_enter_6 : decode prog_3_method_2_code 6 = .ok (.iload_n 2, 1) := by decide +kernel
theorem d_Body_enter_7 : decode prog_3_method_2_code 7 = .ok (.putfield 15, 3) := by decide +kernel
theorem d_Body_enter_10 : decode prog_3_method_2_code 10 = .ok (.aload_n 0, 1) := by decide +kernel
theorem d_Body_enter_11 : decode prog_3_method_2_code 11 = .ok (.iload_n 3, 1) := by decide +kernel
theorem d_Body_enter_12 : decode prog_3_method_2_code 12 = .ok (.putfield 18, 3) := by decide +kernel
theorem d_Body_enter_15 : decode prog_3_method_2_code 15 = .ok (.aload_n 0, 1) := by decide +kernel
theorem d_Body_enter_16 : decode prog_3_method_2_code 16 = .ok (.iconst (-1), 1) := by decide +kernel
theorem d_Body_enter_17 : decode prog_3_method_2_code 17 = .ok (.putfield 21, 3) := by decide +kernel
theorem d_Body_enter_20 : decode prog_3_method_2_code 20 = .ok (.aload_n 0, 1) := by decide +kernel
theorem d_Body_enter_21 : decode prog_3_method_2_code 21 = .ok (.iload_n 2, 1) := by decide +kernel
theorem d_Body_enter_22 : decode prog_3_method_2_code 22 = .ok (.iload_n 1, 1) := by decide +kernel
theorem d_Body_enter_23 : decode prog_3_method_2_code 23 = .ok (.isub, 1) := by decide +kernel
theorem d_Body_enter_24 : decode prog_3_method_2_code 24 = .ok (.iconst 1, 1) := by decide +kernel
theorem d_Body_enter_25 : decode prog_3_method_2_code 25 = .ok (.iadd, 1) := by decide +kernel
theorem d_Body_enter_26 : decode prog_3_method_2_code 26 = .ok (.putfield 24, 3) := by decide +kernel
theorem d_Body_enter_29 : decode prog_3_method_2_code 29 = .ok (.return_, 1) := by decide +kernel
abbrev m_Body_follow : ac_I := (⟨"PairedGates$Body", "follow", "(LPairedGates$Body;II)V"⟩, prog_3_method_3_code, 4, none, [])
theorem d_Body_follow_0 : decode prog_3_method_3_code 0 = .ok (.aload_n 0, 1) := by decide +kernel
theorem d_Body_follow_1 : decode prog_3_method_3_code 1 = .ok (.iload_n 2, 1) := by decide +kernel
theorem d_Body_follow_2 : decode prog_3_method_3_code 2 = .ok (.putfield 9, 3) := by decide +kernel
theorem d_Body_follow_5 : decode prog_3_method_3_code 5 = .ok (.aload_n 0, 1) := by decide +kernel
theorem d_Body_follow_6 : decode prog_3_method_3_code 6 = .ok (.iload_n 3, 1) := by decide +kernel
theorem d_Body_follow_7 : decode prog_3_method_3_code 7 = .ok (.putfield 15, 3) := by decide +kernel
theorem d_Body_follow_10 : decode prog_3_method_3_code 10 = .ok (.aload_n 0, 1) := by decide +kernel
theorem d_Body_follow_11 : decode prog_3_method_3_code 11 = .ok (.aload_n 1, 1) := by decide +kernel
theorem d_Body_follow_12 : decode prog_3_method_3_code 12 = .ok (.getfield 18, 3) := by decide +kernel
theorem d_Body_follow_15 : decode prog_3_method_3_code 15 = .ok (.putfield 18, 3) := by decide +kernel
theorem d_Body_follow_18 : decode prog_3_method_3_code 18 = .ok (.aload_n 0, 1) := by decide +kernel
theorem d_Body_follow_19 : decode prog_3_method_3_code 19 = .ok (.aload_n 1, 1) := by decide +kernel
theorem d_Body_follow_20 : decode prog_3_method_3_code 20 = .ok (.getfield 21, 3) := by decide +kernel
theorem d_Body_follow_23 : decode prog_3_method_3_code 23 = .ok (.putfield 21, 3) := by decide +kernel
theorem d_Body_follow_26 : decode prog_3_method_3_code 26 = .ok (.aload_n 0, 1) := by decide +kernel
theorem d_Body_follow_27 : decode prog_3_method_3_code 27 = .ok (.aload_n 1, 1) := by decide +kernel
theorem d_Body_follow_28 : decode prog_3_method_3_code 28 = .ok (.getfield 24, 3) := by decide +kernel
theorem d_Body_follow_31 : decode prog_3_method_3_code 31 = .ok (.iload_n 3, 1) := by decide +kernel
theorem d_Body_follow_32 : decode prog_3_method_3_code 32 = .ok (.iload_n 2, 1) := by decide +kernel
theorem d_Body_follow_33 : decode prog_3_method_3_code 33 = .ok (.isub, 1) := by decide +kernel
theorem d_Body_follow_34 : decode prog_3_method_3_code 34 = .ok (.iconst 1, 1) := by decide +kernel
theorem d_Body_follow_35 : decode prog_3_method_3_code 35 = .ok (.iadd, 1) := by decide +kernel
theorem d_Body_follow_36 : decode prog_3_method_3_code 36 = .ok (.invokestatic 27, 3) := by decide +kernel
theorem d_Body_follow_39 : decode prog_3_method_3_code 39 = .ok (.putfield 24, 3) := by decide +kernel
theorem d_Body_follow_42 : decode prog_3_method_3_code 42 = .ok (.return_, 1) := by decide +kernel
abbrev m_Body_isThrough : ac_I := (⟨"PairedGates$Body", "isThrough", "()Z"⟩, prog_3_method_4_code, 1, (some (.boolean)), [])
theorem d_Body_isThrough_0 : decode prog_3_method_4_code 0 = .ok (.aload_n 0, 1) := by decide +kernel
theorem d_Body_isThrough_1 : decode prog_3_method_4_code 1 = .ok (.getfield 18, 3) := by decide +kernel
theorem d_Body_isThrough_4 : decode prog_3_method_4_code 4 = .ok (.ifCond .ne 10, 3) := by decide +kernel
theorem d_Body_isThrough_7 : decode prog_3_method_4_code 7 = .ok (.aload_n 0, 1) := by decide +kernel
theorem d_Body_isThrough_8 : decode prog_3_method_4_code 8 = .ok (.invokevirtual 33, 3) := by decide +kernel
theorem d_Body_isThrough_11 : decode prog_3_method_4_code 11 = .ok (.goto 7, 3) := by decide +kernel
theorem d_Body_isThrough_14 : decode prog_3_method_4_code 14 = .ok (.aload_n 0, 1) := by decide +kernel
theorem d_Body_isThrough_15 : decode prog_3_method_4_code 15 = .ok (.invokevirtual 37, 3) := by decide +kernel
theorem d_Body_isThrough_18 : decode prog_3_method_4_code 18 = .ok (.ireturn, 1) := by decide +kernel
abbrev m_Body_isTurned : ac_I := (⟨"PairedGates$Body", "isTurned", "()Z"⟩, prog_3_method_5_code, 1, (some (.boolean)), [])
theorem d_Body_isTurned_0 : decode prog_3_method_5_code 0 = .ok (.aload_n 0, 1) := by decide +kernel
theorem d_Body_isTurned_1 : decode prog_3_method_5_code 1 = .ok (.getfield 18, 3) := by decide +kernel
theorem d_Body_isTurned_4 : decode prog_3_method_5_code 4 = .ok (.ifCond .ne 10, 3) := by decide +kernel
theorem d_Body_isTurned_7 : decode prog_3_method_5_code 7 = .ok (.aload_n 0, 1) := by decide +kernel
theorem d_Body_isTurned_8 : decode prog_3_method_5_code 8 = .ok (.invokevirtual 37, 3) := by decide +kernel
theorem d_Body_isTurned_11 : decode prog_3_method_5_code 11 = .ok (.goto 7, 3) := by decide +kernel
theorem d_Body_isTurned_14 : decode prog_3_method_5_code 14 = .ok (.aload_n 0, 1) := by decide +kernel
theorem d_Body_isTurned_15 : decode prog_3_method_5_code 15 = .ok (.invokevirtual 33, 3) := by decide +kernel
theorem d_Body_isTurned_18 : decode prog_3_method_5_code 18 = .ok (.ireturn, 1) := by decide +kernel
abbrev m_Body_hasReachedPaddles : ac_I := (⟨"PairedGates$Body", "hasReachedPaddles", "()Z"⟩, prog_3_method_6_code, 1, (some (.boolean)), [])
theorem d_Body_hasReachedPaddles_0 : decode prog_3_method_6_code 0 = .ok (.aload_n 0, 1) := by decide +kernel
theorem d_Body_hasReachedPaddles_1 : decode prog_3_method_6_code 1 = .ok (.getfield 18, 3) := by decide +kernel
theorem d_Body_hasReachedPaddles_4 : decode prog_3_method_6_code 4 = .ok (.ifCond .ne 19, 3) := by decide +kernel
theorem d_Body_hasReachedPaddles_7 : decode prog_3_method_6_code 7 = .ok (.aload_n 0, 1) := by decide +kernel
theorem d_Body_hasReachedPaddles_8 : decode prog_3_method_6_code 8 = .ok (.getfield 15, 3) := by decide +kernel
theorem d_Body_hasReachedPaddles_11 : decode prog_3_method_6_code 11 = .ok (.iconst 4, 1) := by decide +kernel
theorem d_Body_hasReachedPaddles_12 : decode prog_3_method_6_code 12 = .ok (.if_icmp .lt 7, 3) := by decide +kernel
theorem d_Body_hasReachedPaddles_15 : decode prog_3_method_6_code 15 = .ok (.iconst 1, 1) := by decide +kernel
theorem d_Body_hasReachedPaddles_16 : decode prog_3_method_6_code 16 = .ok (.goto 20, 3) := by decide +kernel
theorem d_Body_hasReachedPaddles_19 : decode prog_3_method_6_code 19 = .ok (.iconst 0, 1) := by decide +kernel
theorem d_Body_hasReachedPaddles_20 : decode prog_3_method_6_code 20 = .ok (.goto 16, 3) := by decide +kernel
theorem d_Body_hasReachedPaddles_23 : decode prog_3_method_6_code 23 = .ok (.aload_n 0, 1) := by decide +kernel
theorem d_Body_hasReachedPaddles_24 : decode prog_3_method_6_code 24 = .ok (.getfield 9, 3) := by decide +kernel
theorem d_Body_hasReachedPaddles_27 : decode prog_3_method_6_code 27 = .ok (.iconst 5, 1) := by decide +kernel
theorem d_Body_hasReachedPaddles_28 : decode prog_3_method_6_code 28 = .ok (.if_icmp .gt 7, 3) := by decide +kernel
theorem d_Body_hasReachedPaddles_31 : decode prog_3_method_6_code 31 = .ok (.iconst 1, 1) := by decide +kernel
theorem d_Body_hasReachedPaddles_32 : decode prog_3_method_6_code 32 = .ok (.goto 4, 3) := by decide +kernel
theorem d_Body_hasReachedPaddles_35 : decode prog_3_method_6_code 35 = .ok (.iconst 0, 1) := by decide +kernel
theorem d_Body_hasReachedPaddles_36 : decode prog_3_method_6_code 36 = .ok (.ireturn, 1) := by decide +kernel
abbrev m_Body_startsLow : ac_I := (⟨"PairedGates$Body", "startsLow", "()Z"⟩, prog_3_method_7_code, 1, (some (.boolean)), [])
theorem d_Body_startsLow_0 : decode prog_3_method_7_code 0 = .ok (.aload_n 0, 1) := by decide +kernel
theorem d_Body_startsLow_1 : decode prog_3_method_7_code 1 = .ok (.getfield 9, 3) := by decide +kernel
theorem d_Body_startsLow_4 : decode prog_3_method_7_code 4 = .ok (.iconst 2, 1) := by decide +kernel
theorem d_Body_startsLow_5 : decode prog_3_method_7_code 5 = .ok (.if_icmp .gt 7, 3) := by decide +kernel
theorem d_Body_startsLow_8 : decode prog_3_method_7_code 8 = .ok (.iconst 1, 1) := by decide +kernel
theorem d_Body_startsLow_9 : decode prog_3_method_7_code 9 = .ok (.goto 4, 3) := by decide +kernel
theorem d_Body_startsLow_12 : decode prog_3_method_7_code 12 = .ok (.iconst 0, 1) := by decide +kernel
theorem d_Body_startsLow_13 : decode prog_3_method_7_code 13 = .ok (.ireturn, 1) := by decide +kernel
abbrev m_Body_endsHigh : ac_I := (⟨"PairedGates$Body", "endsHigh", "()Z"⟩, prog_3_method_8_code, 1, (some (.boolean)), [])
theorem d_Body_endsHigh_0 : decode prog_3_method_8_code 0 = .ok (.aload_n 0, 1) := by decide +kernel
theorem d_Body_endsHigh_1 : decode prog_3_method_8_code 1 = .ok (.getfield 15, 3) := by decide +kernel
theorem d_Body_endsHigh_4 : decode prog_3_method_8_code 4 = .ok (.bipush 7, 2) := by decide +kernel
theorem d_Body_endsHigh_6 : decode prog_3_method_8_code 6 = .ok (.if_icmp .lt 7, 3) := by decide +kernel
theorem d_Body_endsHigh_9 : decode prog_3_method_8_code 9 = .ok (.iconst 1, 1) := by decide +kernel
theorem d_Body_endsHigh_10 : decode prog_3_method_8_code 10 = .ok (.goto 4, 3) := by decide +kernel
theorem d_Body_endsHigh_13 : decode prog_3_method_8_code 13 = .ok (.iconst 0, 1) := by decide +kernel
theorem d_Body_endsHigh_14 : decode prog_3_method_8_code 14 = .ok (.ireturn, 1) := by decide +kernel
abbrev m_Eye_init : ac_I := (⟨"PairedGates$Eye", "<init>", "()V"⟩, prog_4_method_1_code, 1, none, [])
theorem d_Eye_init_0 : decode prog_4_method_1_code 0 = .ok (.aload_n 0, 1) := by decide +kernel
theorem d_Eye_init_1 : decode prog_4_method_1_code 1 = .ok (.invokespecial 3, 3) := by decide +kernel
theorem d_Eye_init_4 : decode prog_4_method_1_code 4 = .ok (.aload_n 0, 1) := by decide +kernel
theorem d_Eye_init_5 : decode prog_4_method_1_code 5 = .ok (.iconst 0, 1) := by decide +kernel
theorem d_Eye_init_6 : decode prog_4_method_1_code 6 = .ok (.putfield 9, 3) := by decide +kernel
theorem d_Eye_init_9 : decode prog_4_method_1_code 9 = .ok (.aload_n 0, 1) := by decide +kernel
theorem d_Eye_init_10 : decode prog_4_method_1_code 10 = .ok (.iconst 0, 1) := by decide +kernel
theorem d_Eye_init_11 : decode prog_4_method_1_code 11 = .ok (.putfield 15, 3) := by decide +kernel
theorem d_Eye_init_14 : decode prog_4_method_1_code 14 = .ok (.aload_n 0, 1) := by decide +kernel
theorem d_Eye_init_15 : decode prog_4_method_1_code 15 = .ok (.iconst 0, 1) := by decide +kernel
theorem d_Eye_init_16 : decode prog_4_method_1_code 16 = .ok (.putfield 18, 3) := by decide +kernel
theorem d_Eye_init_19 : decode prog_4_method_1_code 19 = .ok (.aload_n 0, 1) := by decide +kernel
theorem d_Eye_init_20 : decode prog_4_method_1_code 20 = .ok (.iconst 0, 1) := by decide +kernel
theorem d_Eye_init_21 : decode prog_4_method_1_code 21 = .ok (.putfield 21, 3) := by decide +kernel
theorem d_Eye_init_24 : decode prog_4_method_1_code 24 = .ok (.return_, 1) := by decide +kernel
abbrev m_Eye_tell : ac_I := (⟨"PairedGates$Eye", "tell", "(I)V"⟩, prog_4_method_2_code, 2, none, [])
theorem d_Eye_tell_0 : decode prog_4_method_2_code 0 = .ok (.aload_n 0, 1) := by decide +kernel
theorem d_Eye_tell_1 : decode prog_4_method_2_code 1 = .ok (.iload_n 1, 1) := by decide +kernel
theorem d_Eye_tell_2 : decode prog_4_method_2_code 2 = .ok (.sipush 1023, 3) := by decide +kernel
theorem d_Eye_tell_5 : decode prog_4_method_2_code 5 = .ok (.iand, 1) := by decide +kernel
theorem d_Eye_tell_6 : decode prog_4_method_2_code 6 = .ok (.putfield 9, 3) := by decide +kernel
theorem d_Eye_tell_9 : decode prog_4_method_2_code 9 = .ok (.return_, 1) := by decide +kernel
abbrev m_Eye_take : ac_I := (⟨"PairedGates$Eye", "take", "()V"⟩, prog_4_method_3_code, 1, none, [])
theorem d_Eye_take_0 : decode prog_4_method_3_code 0 = .ok (.aload_n 0, 1) := by decide +kernel
theorem d_Eye_take_1 : decode prog_4_method_3_code 1 = .ok (.aload_n 0, 1) := by decide +kernel
theorem d_Eye_take_2 : decode prog_4_method_3_code 2 = .ok (.getfield 9, 3) := by decide +kernel
theorem d_Eye_take_5 : decode prog_4_method_3_code 5 = .ok (.aload_n 0, 1) := by decide +kernel
theorem d_Eye_take_6 : decode prog_4_method_3_code 6 = .ok (.getfield 15, 3) := by decide +kernel
theorem d_Eye_take_9 : decode prog_4_method_3_code 9 = .ok (.iand, 1) := by decide +kernel
theorem d_Eye_take_10 : decode prog_4_method_3_code 10 = .ok (.aload_n 0, 1) := by decide +kernel
theorem d_Eye_take_11 : decode prog_4_method_3_code 11 = .ok (.getfield 9, 3) := by decide +kernel
theorem d_Eye_take_14 : decode prog_4_method_3_code 14 = .ok (.aload_n 0, 1) := by decide +kernel
theorem d_Eye_take_15 : decode prog_4_method_3_code 15 = .ok (.getfield 18, 3) := by decide +kernel
theorem d_Eye_take_18 : decode prog_4_method_3_code 18 = .ok (.iand, 1) := by decide +kernel
theorem d_Eye_take_19 : decode prog_4_method_3_code 19 = .ok (.ior, 1) := by decide +kernel
theorem d_Eye_take_20 : decode prog_4_method_3_code 20 = .ok (.aload_n 0, 1) := by decide +kernel
theorem d_Eye_take_21 : decode prog_4_method_3_code 21 = .ok (.getfield 15, 3) := by decide +kernel
theorem d_Eye_take_24 : decode prog_4_method_3_code 24 = .ok (.aload_n 0, 1) := by decide +kernel
theorem d_Eye_take_25 : decode prog_4_method_3_code 25 = .ok (.getfield 18, 3) := by decide +kernel
theorem d_Eye_take_28 : decode prog_4_method_3_code 28 = .ok (.iand, 1) := by decide +kernel
theorem d_Eye_take_29 : decode prog_4_method_3_code 29 = .ok (.ior, 1) := by decide +kernel
theorem d_Eye_take_30 : decode prog_4_method_3_code 30 = .ok (.putfield 21, 3) := by decide +kernel
theorem d_Eye_take_33 : decode prog_4_method_3_code 33 = .ok (.aload_n 0, 1) := by decide +kernel
theorem d_Eye_take_34 : decode prog_4_method_3_code 34 = .ok (.aload_n 0, 1) := by decide +kernel
theorem d_Eye_take_35 : decode prog_4_method_3_code 35 = .ok (.getfield 15, 3) := by decide +kernel
theorem d_Eye_take_38 : decode prog_4_method_3_code 38 = .ok (.putfield 18, 3) := by decide +kernel
theorem d_Eye_take_41 : decode prog_4_method_3_code 41 = .ok (.aload_n 0, 1) := by decide +kernel
theorem d_Eye_take_42 : decode prog_4_method_3_code 42 = .ok (.aload_n 0, 1) := by decide +kernel
theorem d_Eye_take_43 : decode prog_4_method_3_code 43 = .ok (.getfield 9, 3) := by decide +kernel
theorem d_Eye_take_46 : decode prog_4_method_3_code 46 = .ok (.putfield 15, 3) := by decide +kernel
theorem d_Eye_take_49 : decode prog_4_method_3_code 49 = .ok (.return_, 1) := by decide +kernel
abbrev m_Lane_init : ac_I := (⟨"PairedGates$Lane", "<init>", "()V"⟩, prog_5_method_1_code, 1, none, [])
theorem d_Lane_init_0 : decode prog_5_method_1_code 0 = .ok (.aload_n 0, 1) := by decide +kernel
theorem d_Lane_init_1 : decode prog_5_method_1_code 1 = .ok (.invokespecial 3, 3) := by decide +kernel
theorem d_Lane_init_4 : decode prog_5_method_1_code 4 = .ok (.aload_n 0, 1) := by decide +kernel
theorem d_Lane_init_5 : decode prog_5_method_1_code 5 = .ok (.new 9, 3) := by decide +kernel
theorem d_Lane_init_8 : decode prog_5_method_1_code 8 = .ok (.dup, 1) := by decide +kernel
theorem d_Lane_init_9 : decode prog_5_method_1_code 9 = .ok (.invokespecial 11, 3) := by decide +kernel
theorem d_Lane_init_12 : decode prog_5_method_1_code 12 = .ok (.putfield 12, 3) := by decide +kernel
theorem d_Lane_init_15 : decode prog_5_method_1_code 15 = .ok (.aload_n 0, 1) := by decide +kernel
theorem d_Lane_init_16 : decode prog_5_method_1_code 16 = .ok (.new 18, 3) := by decide +kernel
theorem d_Lane_init_19 : decode prog_5_method_1_code 19 = .ok (.dup, 1) := by decide +kernel
theorem d_Lane_init_20 : decode prog_5_method_1_code 20 = .ok (.invokespecial 20, 3) := by decide +kernel
theorem d_Lane_init_23 : decode prog_5_method_1_code 23 = .ok (.putfield 21, 3) := by decide +kernel
theorem d_Lane_init_26 : decode prog_5_method_1_code 26 = .ok (.aload_n 0, 1) := by decide +kernel
theorem d_Lane_init_27 : decode prog_5_method_1_code 27 = .ok (.new 25, 3) := by decide +kernel
theorem d_Lane_init_30 : decode prog_5_method_1_code 30 = .ok (.dup, 1) := by decide +kernel
theorem d_Lane_init_31 : decode prog_5_method_1_code 31 = .ok (.invokespecial 27, 3) := by decide +kernel
theorem d_Lane_init_34 : decode prog_5_method_1_code 34 = .ok (.putfield 28, 3) := by decide +kernel
theorem d_Lane_init_37 : decode prog_5_method_1_code 37 = .ok (.aload_n 0, 1) := by decide +kernel
theorem d_Lane_init_38 : decode prog_5_method_1_code 38 = .ok (.iconst 2, 1) := by decide +kernel
theorem d_Lane_init_39 : decode prog_5_method_1_code 39 = .ok (.anewarray 32, 3) := by decide +kernel
theorem d_Lane_init_42 : decode prog_5_method_1_code 42 = .ok (.dup, 1) := by decide +kernel
theorem d_Lane_init_43 : decode prog_5_method_1_code 43 = .ok (.iconst 0, 1) := by decide +kernel
theorem d_Lane_init_44 : decode prog_5_method_1_code 44 = .ok (.new 32, 3) := by decide +kernel
theorem d_Lane_init_47 : decode prog_5_method_1_code 47 = .ok (.dup, 1) := by decide +kernel
theorem d_Lane_init_48 : decode prog_5_method_1_code 48 = .ok (.bipush 6, 2) := by decide +kernel
theorem d_Lane_init_50 : decode prog_5_method_1_code 50 = .ok (.invokespecial 34, 3) := by decide +kernel
theorem d_Lane_init_53 : decode prog_5_method_1_code 53 = .ok (.aastore, 1) := by decide +kernel
theorem d_Lane_init_54 : decode prog_5_method_1_code 54 = .ok (.dup, 1) := by decide +kernel
theorem d_Lane_init_55 : decode prog_5_method_1_code 55 = .ok (.iconst 1, 1) := by decide +kernel
theorem d_Lane_init_56 : decode prog_5_method_1_code 56 = .ok (.new 32, 3) := by decide +kernel
theorem d_Lane_init_59 : decode prog_5_method_1_code 59 = .ok (.dup, 1) := by decide +kernel
theorem d_Lane_init_60 : decode prog_5_method_1_code 60 = .ok (.bipush 6, 2) := by decide +kernel
theorem d_Lane_init_62 : decode prog_5_method_1_code 62 = .ok (.invokespecial 34, 3) := by decide +kernel
theorem d_Lane_init_65 : decode prog_5_method_1_code 65 = .ok (.aastore, 1) := by decide +kernel
theorem d_Lane_init_66 : decode prog_5_method_1_code 66 = .ok (.putfield 37, 3) := by decide +kernel
theorem d_Lane_init_69 : decode prog_5_method_1_code 69 = .ok (.aload_n 0, 1) := by decide +kernel
theorem d_Lane_init_70 : decode prog_5_method_1_code 70 = .ok (.iconst 5, 1) := by decide +kernel
theorem d_Lane_init_71 : decode prog_5_method_1_code 71 = .ok (.newarray .int, 2) := by decide +kernel
theorem d_Lane_init_73 : decode prog_5_method_1_code 73 = .ok (.putfield 41, 3) := by decide +kernel
theorem d_Lane_init_76 : decode prog_5_method_1_code 76 = .ok (.aload_n 0, 1) := by decide +kernel
theorem d_Lane_init_77 : decode prog_5_method_1_code 77 = .ok (.iconst 4, 1) := by decide +kernel
theorem d_Lane_init_78 : decode prog_5_method_1_code 78 = .ok (.newarray .int, 2) := by decide +kernel
theorem d_Lane_init_80 : decode prog_5_method_1_code 80 = .ok (.putfield 45, 3) := by decide +kernel
theorem d_Lane_init_83 : decode prog_5_method_1_code 83 = .ok (.aload_n 0, 1) := by decide +kernel
theorem d_Lane_init_84 : decode prog_5_method_1_code 84 = .ok (.iconst 0, 1) := by decide +kernel
theorem d_Lane_init_85 : decode prog_5_method_1_code 85 = .ok (.putfield 48, 3) := by decide +kernel
theorem d_Lane_init_88 : decode prog_5_method_1_code 88 = .ok (.aload_n 0, 1) := by decide +kernel
theorem d_Lane_init_89 : decode prog_5_method_1_code 89 = .ok (.iconst 0, 1) := by decide +kernel
theorem d_Lane_init_90 : decode prog_5_method_1_code 90 = .ok (.putfield 52, 3) := by decide +kernel
theorem d_Lane_init_93 : decode prog_5_method_1_code 93 = .ok (.aload_n 0, 1) := by decide +kernel
theorem d_Lane_init_94 : decode prog_5_method_1_code 94 = .ok (.invokestatic 55, 3) := by decide +kernel
theorem d_Lane_init_97 : decode prog_5_method_1_code 97 = .ok (.putfield 59, 3) := by decide +kernel
theorem d_Lane_init_100 : decode prog_5_method_1_code 100 = .ok (.aload_n 0, 1) := by decide +kernel
theorem d_Lane_init_101 : decode prog_5_method_1_code 101 = .ok (.invokestatic 55, 3) := by decide +kernel
theorem d_Lane_init_104 : decode prog_5_method_1_code 104 = .ok (.putfield 63, 3) := by decide +kernel
theorem d_Lane_init_107 : decode prog_5_method_1_code 107 = .ok (.return_, 1) := by decide +kernel
abbrev m_Lane_newRow : ac_I := (⟨"PairedGates$Lane", "newRow", "()[LPairedGates$Body;"⟩, prog_5_method_2_code, 2, (some ((.array (.object "PairedGates$Body")))), [])
theorem d_Lane_newRow_0 : decode prog_5_method_2_code 0 = .ok (.iconst 4, 1) := by decide +kernel
theorem d_Lane_newRow_1 : decode prog_5_method_2_code 1 = .ok (.anewarray 66, 3) := by decide +kernel
theorem d_Lane_newRow_4 : decode prog_5_method_2_code 4 = .ok (.astore_n 0, 1) := by decide +kernel
theorem d_Lane_newRow_5 : decode prog_5_method_2_code 5 = .ok (.iconst 0, 1) := by decide +kernel
theorem d_Lane_newRow_6 : decode prog_5_method_2_code 6 = .ok (.istore_n 1, 1) := by decide +kernel
theorem d_Lane_newRow_7 : decode prog_5_method_2_code 7 = .ok (.iload_n 1, 1) := by decide +kernel
theorem d_Lane_newRow_8 : decode prog_5_method_2_code 8 = .ok (.aload_n 0, 1) := by decide +kernel
theorem d_Lane_newRow_9 : decode prog_5_method_2_code 9 = .ok (.arraylength, 1) := by decide +kernel
theorem d_Lane_newRow_10 : decode prog_5_method_2_code 10 = .ok (.if_icmp .ge 19, 3) := by decide +kernel
theorem d_Lane_newRow_13 : decode prog_5_method_2_code 13 = .ok (.aload_n 0, 1) := by decide +kernel
theorem d_Lane_newRow_14 : decode prog_5_method_2_code 14 = .ok (.iload_n 1, 1) := by decide +kernel
theorem d_Lane_newRow_15 : decode prog_5_method_2_code 15 = .ok (.new 66, 3) := by decide +kernel
theorem d_Lane_newRow_18 : decode prog_5_method_2_code 18 = .ok (.dup, 1) := by decide +kernel
theorem d_Lane_newRow_19 : decode prog_5_method_2_code 19 = .ok (.invokespecial 68, 3) := by decide +kernel
theorem d_Lane_newRow_22 : decode prog_5_method_2_code 22 = .ok (.aastore, 1) := by decide +kernel
theorem d_Lane_newRow_23 : decode prog_5_method_2_code 23 = .ok (.iinc 1 1, 3) := by decide +kernel
theorem d_Lane_newRow_26 : decode prog_5_method_2_code 26 = .ok (.goto (-19), 3) := by decide +kernel
theorem d_Lane_newRow_29 : decode prog_5_method_2_code 29 = .ok (.aload_n 0, 1) := by decide +kernel
theorem d_Lane_newRow_30 : decode prog_5_method_2_code 30 = .ok (.areturn, 1) := by decide +kernel
abbrev m_Lane_takesSide : ac_I := (⟨"PairedGates$Lane", "takesSide", "(I)Z"⟩, prog_5_method_3_code, 2, (some (.boolean)), [])
theorem d_Lane_takesSide_0 : decode prog_5_method_3_code 0 = .ok (.aload_n 0, 1) := by decide +kernel
theorem d_Lane_takesSide_1 : decode prog_5_method_3_code 1 = .ok (.getfield 48, 3) := by decide +kernel
theorem d_Lane_takesSide_4 : decode prog_5_method_3_code 4 = .ok (.ifCond .eq 13, 3) := by decide +kernel
theorem d_Lane_takesSide_7 : decode prog_5_method_3_code 7 = .ok (.aload_n 0, 1) := by decide +kernel
theorem d_Lane_takesSide_8 : decode prog_5_method_3_code 8 = .ok (.getfield 48, 3) := by decide +kernel
theorem d_Lane_takesSide_11 : decode prog_5_method_3_code 11 = .ok (.iload_n 1, 1) := by decide +kernel
theorem d_Lane_takesSide_12 : decode prog_5_method_3_code 12 = .ok (.iconst 1, 1) := by decide +kernel
theorem d_Lane_takesSide_13 : decode prog_5_method_3_code 13 = .ok (.iadd, 1) := by decide +kernel
theorem d_Lane_takesSide_14 : decode prog_5_method_3_code 14 = .ok (.if_icmp .ne 7, 3) := by decide +kernel
theorem d_Lane_takesSide_17 : decode prog_5_method_3_code 17 = .ok (.iconst 1, 1) := by decide +kernel
theorem d_Lane_takesSide_18 : decode prog_5_method_3_code 18 = .ok (.goto 4, 3) := by decide +kernel
theorem d_Lane_takesSide_21 : decode prog_5_method_3_code 21 = .ok (.iconst 0, 1) := by decide +kernel
theorem d_Lane_takesSide_22 : decode prog_5_method_3_code 22 = .ok (.ireturn, 1) := by decide +kernel
abbrev m_Lane_changeMode : ac_I := (⟨"PairedGates$Lane", "changeMode", "(ILPairedGates$Refunds;)I"⟩, prog_5_method_4_code, 5, (some (.int)), [])
theorem d_Lane_changeMode_0 : decode prog_5_method_4_code 0 = .ok (.aload_n 0, 1) := by decide +kernel
theorem d_Lane_changeMode_1 : decode prog_5_method_4_code 1 = .ok (.iload_n 1, 1) := by decide +kernel
theorem d_Lane_changeMode_2 : decode prog_5_method_4_code 2 = .ok (.putfield 48, 3) := by decide +kernel
theorem d_Lane_changeMode_5 : decode prog_5_method_4_code 5 = .ok (.iconst 0, 1) := by decide +kernel
theorem d_Lane_changeMode_6 : decode prog_5_method_4_code 6 = .ok (.istore_n 3, 1) := by decide +kernel
theorem d_Lane_changeMode_7 : decode prog_5_method_4_code 7 = .ok (.iconst 0, 1) := by decide +kernel
theorem d_Lane_changeMode_8 : decode prog_5_method_4_code 8 = .ok (.istore 4, 2) := by decide +kernel
theorem d_Lane_changeMode_10 : decode prog_5_method_4_code 10 = .ok (.iload 4, 2) := by decide +kernel
theorem d_Lane_changeMode_12 : decode prog_5_method_4_code 12 = .ok (.aload_n 0, 1) := by decide +kernel
theorem d_Lane_changeMode_13 : decode prog_5_method_4_code 13 = .ok (.getfield 37, 3) := by decide +kernel
theorem d_Lane_changeMode_16 : decode prog_5_method_4_code 16 = .ok (.arraylength, 1) := by decide +kernel
theorem d_Lane_changeMode_17 : decode prog_5_method_4_code 17 = .ok (.if_icmp .ge 32, 3) := by decide +kernel
theorem d_Lane_changeMode_20 : decode prog_5_method_4_code 20 = .ok (.aload_n 0, 1) := by decide +kernel
theorem d_Lane_changeMode_21 : decode prog_5_method_4_code 21 = .ok (.iload 4, 2) := by decide +kernel
theorem d_Lane_changeMode_23 : decode prog_5_method_4_code 23 = .ok (.invokevirtual 69, 3) := by decide +kernel
theorem d_Lane_changeMode_26 : decode prog_5_method_4_code 26 = .ok (.ifCond .ne 17, 3) := by decide +kernel
theorem d_Lane_changeMode_29 : decode prog_5_method_4_code 29 = .ok (.iload_n 3, 1) := by decide +kernel
theorem d_Lane_changeMode_30 : decode prog_5_method_4_code 30 = .ok (.aload_n 0, 1) := by decide +kernel
theorem d_Lane_changeMode_31 : decode prog_5_method_4_code 31 = .ok (.getfield 37, 3) := by decide +kernel
theorem d_Lane_changeMode_34 : decode prog_5_method_4_code 34 = .ok (.iload 4, 2) := by decide +kernel
theorem d_Lane_changeMode_36 : decode prog_5_method_4_code 36 = .ok (.aaload, 1) := by decide +kernel
theorem d_Lane_changeMode_37 : decode prog_5_method_4_code 37 = .ok (.aload_n 2, 1) := by decide +kernel
theorem d_Lane_changeMode_38 : decode prog_5_method_4_code 38 = .ok (.invokevirtual 73, 3) := by decide +kernel
theorem d_Lane_changeMode_41 : decode prog_5_method_4_code 41 = .ok (.iadd, 1) := by decide +kernel
theorem d_Lane_changeMode_42 : decode prog_5_method_4_code 42 = .ok (.istore_n 3, 1) := by decide +kernel
theorem d_Lane_changeMode_43 : decode prog_5_method_4_code 43 = .ok (.iinc 4 1, 3) := by decide +kernel
theorem d_Lane_changeMode_46 : decode prog_5_method_4_code 46 = .ok (.goto (-36), 3) := by decide +kernel
theorem d_Lane_changeMode_49 : decode prog_5_method_4_code 49 = .ok (.iload_n 3, 1) := by decide +kernel
theorem d_Lane_changeMode_50 : decode prog_5_method_4_code 50 = .ok (.ireturn, 1) := by decide +kernel
abbrev m_Lane_tick : ac_I := (⟨"PairedGates$Lane", "tick", "(IZLPairedGates$Refunds;)I"⟩, prog_5_method_5_code, 5, (some (.int)), [])
theorem d_Lane_tick_0 : decode prog_5_method_5_code 0 = .ok (.iconst 0, 1) := by decide +kernel
theorem d_Lane_tick_1 : decode prog_5_method_5_code 1 = .ok (.istore 4, 2) := by decide +kernel
theorem d_Lane_tick_3 : decode prog_5_method_5_code 3 = .ok (.iload 4, 2) := by decide +kernel
theorem d_Lane_tick_5 : decode prog_5_method_5_code 5 = .ok (.aload_n 0, 1) := by decide +kernel
theorem d_Lane_tick_6 : decode prog_5_method_5_code 6 = .ok (.getfield 37, 3) := by decide +kernel
theorem d_Lane_tick_9 : decode prog_5_method_5_code 9 = .ok (.arraylength, 1) := by decide +kernel
theorem d_Lane_tick_10 : decode prog_5_method_5_code 10 = .ok (.if_icmp .ge 21, 3) := by decide +kernel
theorem d_Lane_tick_13 : decode prog_5_method_5_code 13 = .ok (.aload_n 0, 1) := by decide +kernel
theorem d_Lane_tick_14 : decode prog_5_method_5_code 14 = .ok (.getfield 37, 3) := by decide +kernel
theorem d_Lane_tick_17 : decode prog_5_method_5_code 17 = .ok (.iload 4, 2) := by decide +kernel
theorem d_Lane_tick_19 : decode prog_5_method_5_code 19 = .ok (.aaload, 1) := by decide +kernel
theorem d_Lane_tick_20 : decode prog_5_method_5_code 20 = .ok (.iload_n 1, 1) := by decide +kernel
theorem d_Lane_tick_21 : decode prog_5_method_5_code 21 = .ok (.aload_n 3, 1) := by decide +kernel
theorem d_Lane_tick_22 : decode prog_5_method_5_code 22 = .ok (.invokevirtual 77, 3) := by decide +kernel
theorem d_Lane_tick_25 : decode prog_5_method_5_code 25 = .ok (.iinc 4 1, 3) := by decide +kernel
theorem d_Lane_tick_28 : decode prog_5_method_5_code 28 = .ok (.goto (-25), 3) := by decide +kernel
theorem d_Lane_tick_31 : decode prog_5_method_5_code 31 = .ok (.aload_n 0, 1) := by decide +kernel
theorem d_Lane_tick_32 : decode prog_5_method_5_code 32 = .ok (.getfield 12, 3) := by decide +kernel
theorem d_Lane_tick_35 : decode prog_5_method_5_code 35 = .ok (.invokevirtual 81, 3) := by decide +kernel
theorem d_Lane_tick_38 : decode prog_5_method_5_code 38 = .ok (.aload_n 0, 1) := by decide +kernel
theorem d_Lane_tick_39 : decode prog_5_method_5_code 39 = .ok (.getfield 21, 3) := by decide +kernel
theorem d_Lane_tick_42 : decode prog_5_method_5_code 42 = .ok (.aload_n 0, 1) := by decide +kernel
theorem d_Lane_tick_43 : decode prog_5_method_5_code 43 = .ok (.getfield 12, 3) := by decide +kernel
theorem d_Lane_tick_46 : decode prog_5_method_5_code 46 = .ok (.getfield 84, 3) := by decide +kernel
theorem d_Lane_tick_49 : decode prog_5_method_5_code 49 = .ok (.invokevirtual 87, 3) := by decide +kernel
theorem d_Lane_tick_52 : decode prog_5_method_5_code 52 = .ok (.aload_n 0, 1) := by decide +kernel
theorem d_Lane_tick_53 : decode prog_5_method_5_code 53 = .ok (.aload_n 3, 1) := by decide +kernel
theorem d_Lane_tick_54 : decode prog_5_method_5_code 54 = .ok (.invokevirtual 90, 3) := by decide +kernel
theorem d_Lane_tick_57 : decode prog_5_method_5_code 57 = .ok (.istore 4, 2) := by decide +kernel
theorem d_Lane_tick_59 : decode prog_5_method_5_code 59 = .ok (.aload_n 0, 1) := by decide +kernel
theorem d_Lane_tick_60 : decode prog_5_method_5_code 60 = .ok (.aload_n 0, 1) := by decide +kernel
theorem d_Lane_tick_61 : decode prog_5_method_5_code 61 = .ok (.getfield 52, 3) := by decide +kernel
theorem d_Lane_tick_64 : decode prog_5_method_5_code 64 = .ok (.iload 4, 2) := by decide +kernel
theorem d_Lane_tick_66 : decode prog_5_method_5_code 66 = .ok (.isub, 1) := by decide +kernel
theorem d_Lane_tick_67 : decode prog_5_method_5_code 67 = .ok (.invokevirtual 93, 3) := by decide +kernel
theorem d_Lane_tick_70 : decode prog_5_method_5_code 70 = .ok (.aload_n 0, 1) := by decide +kernel
theorem d_Lane_tick_71 : decode prog_5_method_5_code 71 = .ok (.invokevirtual 96, 3) := by decide +kernel
theorem d_Lane_tick_74 : decode prog_5_method_5_code 74 = .ok (.aload_n 0, 1) := by decide +kernel
theorem d_Lane_tick_75 : decode prog_5_method_5_code 75 = .ok (.getfield 28, 3) := by decide +kernel
theorem d_Lane_tick_78 : decode prog_5_method_5_code 78 = .ok (.iload_n 2, 1) := by decide +kernel
theorem d_Lane_tick_79 : decode prog_5_method_5_code 79 = .ok (.ifCond .ne 10, 3) := by decide +kernel
theorem d_Lane_tick_82 : decode prog_5_method_5_code 82 = .ok (.aload_n 0, 1) := by decide +kernel
theorem d_Lane_tick_83 : decode prog_5_method_5_code 83 = .ok (.invokevirtual 99, 3) := by decide +kernel
theorem d_Lane_tick_86 : decode prog_5_method_5_code 86 = .ok (.ifCond .eq 7, 3) := by decide +kernel
theorem d_Lane_tick_89 : decode prog_5_method_5_code 89 = .ok (.iconst 1, 1) := by decide +kernel
theorem d_Lane_tick_90 : decode prog_5_method_5_code 90 = .ok (.goto 4, 3) := by decide +kernel
theorem d_Lane_tick_93 : decode prog_5_method_5_code 93 = .ok (.iconst 0, 1) := by decide +kernel
theorem d_Lane_tick_94 : decode prog_5_method_5_code 94 = .ok (.aload_n 0, 1) := by decide +kernel
theorem d_Lane_tick_95 : decode prog_5_method_5_code 95 = .ok (.getfield 12, 3) := by decide +kernel
theorem d_Lane_tick_98 : decode prog_5_method_5_code 98 = .ok (.getfield 84, 3) := by decide +kernel
theorem d_Lane_tick_101 : decode prog_5_method_5_code 101 = .ok (.bipush 120, 2) := by decide +kernel
theorem d_Lane_tick_103 : decode prog_5_method_5_code 103 = .ok (.iand, 1) := by decide +kernel
theorem d_Lane_tick_104 : decode prog_5_method_5_code 104 = .ok (.ifCond .eq 7, 3) := by decide +kernel
theorem d_Lane_tick_107 : decode prog_5_method_5_code 107 = .ok (.iconst 1, 1) := by decide +kernel
theorem d_Lane_tick_108 : decode prog_5_method_5_code 108 = .ok (.goto 4, 3) := by decide +kernel
theorem d_Lane_tick_111 : decode prog_5_method_5_code 111 = .ok (.iconst 0, 1) := by decide +kernel
theorem d_Lane_tick_112 : decode prog_5_method_5_code 112 = .ok (.invokevirtual 103, 3) := by decide +kernel
theorem d_Lane_tick_115 : decode prog_5_method_5_code 115 = .ok (.iload 4, 2) := by decide +kernel
theorem d_Lane_tick_117 : decode prog_5_method_5_code 117 = .ok (.ireturn, 1) := by decide +kernel
abbrev m_Lane_sendBodies : ac_I := (⟨"PairedGates$Lane", "sendBodies", "(LPairedGates$Refunds;)I"⟩, prog_5_method_6_code, 4, (some (.int)), [])
theorem d_Lane_sendBodies_0 : decode prog_5_method_6_code 0 = .ok (.iconst 0, 1) := by decide +kernel
theorem d_Lane_sendBodies_1 : decode prog_5_method_6_code 1 = .ok (.istore_n 2, 1) := by decide +kernel
theorem d_Lane_sendBodies_2 : decode prog_5_method_6_code 2 = .ok (.iconst 0, 1) := by decide +kernel
theorem d_Lane_sendBodies_3 : decode prog_5_method_6_code 3 = .ok (.istore_n 3, 1) := by decide +kernel
theorem d_Lane_sendBodies_4 : decode prog_5_method_6_code 4 = .ok (.iload_n 3, 1) := by decide +kernel
theorem d_Lane_sendBodies_5 : decode prog_5_method_6_code 5 = .ok (.aload_n 0, 1) := by decide +kernel
theorem d_Lane_sendBodies_6 : decode prog_5_method_6_code 6 = .ok (.getfield 52, 3) := by decide +kernel
theorem d_Lane_sendBodies_9 : decode prog_5_method_6_code 9 = .ok (.if_icmp .ge 52, 3) := by decide +kernel
theorem d_Lane_sendBodies_12 : decode prog_5_method_6_code 12 = .ok (.aload_n 0, 1) := by decide +kernel
theorem d_Lane_sendBodies_13 : decode prog_5_method_6_code 13 = .ok (.getfield 45, 3) := by decide +kernel
theorem d_Lane_sendBodies_16 : decode prog_5_method_6_code 16 = .ok (.iload_n 3, 1) := by decide +kernel
theorem d_Lane_sendBodies_17 : decode prog_5_method_6_code 17 = .ok (.aload_n 0, 1) := by decide +kernel
theorem d_Lane_sendBodies_18 : decode prog_5_method_6_code 18 = .ok (.getfield 21, 3) := by decide +kernel
theorem d_Lane_sendBodies_21 : decode prog_5_method_6_code 21 = .ok (.aload_n 0, 1) := by decide +kernel
theorem d_Lane_sendBodies_22 : decode prog_5_method_6_code 22 = .ok (.getfield 59, 3) := by decide +kernel
theorem d_Lane_sendBodies_25 : decode prog_5_method_6_code 25 = .ok (.iload_n 3, 1) := by decide +kernel
theorem d_Lane_sendBodies_26 : decode prog_5_method_6_code 26 = .ok (.aaload, 1) := by decide +kernel
theorem d_Lane_sendBodies_27 : decode prog_5_method_6_code 27 = .ok (.invokevirtual 107, 3) := by decide +kernel
theorem d_Lane_sendBodies_30 : decode prog_5_method_6_code 30 = .ok (.iastore, 1) := by decide +kernel
theorem d_Lane_sendBodies_31 : decode prog_5_method_6_code 31 = .ok (.aload_n 0, 1) := by decide +kernel
theorem d_Lane_sendBodies_32 : decode prog_5_method_6_code 32 = .ok (.getfield 45, 3) := by decide +kernel
theorem d_Lane_sendBodies_35 : decode prog_5_method_6_code 35 = .ok (.iload_n 3, 1) := by decide +kernel
theorem d_Lane_sendBodies_36 : decode prog_5_method_6_code 36 = .ok (.iaload, 1) := by decide +kernel
theorem d_Lane_sendBodies_37 : decode prog_5_method_6_code 37 = .ok (.iconst (-1), 1) := by decide +kernel
theorem d_Lane_sendBodies_38 : decode prog_5_method_6_code 38 = .ok (.if_icmp .ne 17, 3) := by decide +kernel
theorem d_Lane_sendBodies_41 : decode prog_5_method_6_code 41 = .ok (.aload_n 0, 1) := by decide +kernel
theorem d_Lane_sendBodies_42 : decode prog_5_method_6_code 42 = .ok (.aload_n 0, 1) := by decide +kernel
theorem d_Lane_sendBodies_43 : decode prog_5_method_6_code 43 = .ok (.getfield 59, 3) := by decide +kernel
theorem d_Lane_sendBodies_46 : decode prog_5_method_6_code 46 = .ok (.iload_n 3, 1) := by decide +kernel
theorem d_Lane_sendBodies_47 : decode prog_5_method_6_code 47 = .ok (.aaload, 1) := by decide +kernel
theorem d_Lane_sendBodies_48 : decode prog_5_method_6_code 48 = .ok (.aload_n 1, 1) := by decide +kernel
theorem d_Lane_sendBodies_49 : decode prog_5_method_6_code 49 = .ok (.invokevirtual 111, 3) := by decide +kernel
theorem d_Lane_sendBodies_52 : decode prog_5_method_6_code 52 = .ok (.iinc 2 1, 3) := by decide +kernel
theorem d_Lane_sendBodies_55 : decode prog_5_method_6_code 55 = .ok (.iinc 3 1, 3) := by decide +kernel
theorem d_Lane_sendBodies_58 : decode prog_5_method_6_code 58 = .ok (.goto (-54), 3) := by decide +kernel
theorem d_Lane_sendBodies_61 : decode prog_5_method_6_code 61 = .ok (.iload_n 2, 1) := by decide +kernel
theorem d_Lane_sendBodies_62 : decode prog_5_method_6_code 62 = .ok (.ireturn, 1) := by decide +kernel
abbrev m_Lane_countLeaver : ac_I := (⟨"PairedGates$Lane", "countLeaver", "(LPairedGates$Body;LPairedGates$Refunds;)V"⟩, prog_5_method_7_code, 4, none, [])
theorem d_Lane_countLeaver_0 : decode prog_5_method_7_code 0 = .ok (.aload_n 1, 1) := by decide +kernel
theorem d_Lane_countLeaver_1 : decode prog_5_method_7_code 1 = .ok (.getfield 115, 3) := by decide +kernel
theorem d_Lane_countLeaver_4 : decode prog_5_method_7_code 4 = .ok (.iconst (-1), 1) := by decide +kernel
theorem d_Lane_countLeaver_5 : decode prog_5_method_7_code 5 = .ok (.if_icmp .eq 7, 3) := by decide +kernel
theorem d_Lane_countLeaver_8 : decode prog_5_method_7_code 8 = .ok (.iconst 1, 1) := by decide +kernel
theorem d_Lane_countLeaver_9 : decode prog_5_method_7_code 9 = .ok (.goto 4, 3) := by decide +kernel
theorem d_Lane_countLeaver_12 : decode prog_5_method_7_code 12 = .ok (.iconst 0, 1) := by decide +kernel
theorem d_Lane_countLeaver_13 : decode prog_5_method_7_code 13 = .ok (.istore_n 3, 1) := by decide +kernel
theorem d_Lane_countLeaver_14 : decode prog_5_method_7_code 14 = .ok (.aload_n 1, 1) := by decide +kernel
theorem d_Lane_countLeaver_15 : decode prog_5_method_7_code 15 = .ok (.invokevirtual 118, 3) := by decide +kernel
theorem d_Lane_countLeaver_18 : decode prog_5_method_7_code 18 = .ok (.ifCond .eq 41, 3) := by decide +kernel
theorem d_Lane_countLeaver_21 : decode prog_5_method_7_code 21 = .ok (.aload_n 0, 1) := by decide +kernel
theorem d_Lane_countLeaver_22 : decode prog_5_method_7_code 22 = .ok (.getfield 41, 3) := by decide +kernel
theorem d_Lane_countLeaver_25 : decode prog_5_method_7_code 25 = .ok (.iload_n 3, 1) := by decide +kernel
theorem d_Lane_countLeaver_26 : decode prog_5_method_7_code 26 = .ok (.ifCond .eq 7, 3) := by decide +kernel
theorem d_Lane_countLeaver_29 : decode prog_5_method_7_code 29 = .ok (.iconst 0, 1) := by decide +kernel
theorem d_Lane_countLeaver_30 : decode prog_5_method_7_code 30 = .ok (.goto 4, 3) := by decide +kernel
theorem d_Lane_countLeaver_33 : decode prog_5_method_7_code 33 = .ok (.iconst 1, 1) := by decide +kernel
theorem d_Lane_countLeaver_34 : decode prog_5_method_7_code 34 = .ok (.dup2, 1) := by decide +kernel
theorem d_Lane_countLeaver_35 : decode prog_5_method_7_code 35 = .ok (.iaload, 1) := by decide +kernel
theorem d_Lane_countLeaver_36 : decode prog_5_method_7_code 36 = .ok (.iconst 1, 1) := by decide +kernel
theorem d_Lane_countLeaver_37 : decode prog_5_method_7_code 37 = .ok (.iadd, 1) := by decide +kernel
theorem d_Lane_countLeaver_38 : decode prog_5_method_7_code 38 = .ok (.iastore, 1) := by decide +kernel
theorem d_Lane_countLeaver_39 : decode prog_5_method_7_code 39 = .ok (.aload_n 1, 1) := by decide +kernel
theorem d_Lane_countLeaver_40 : decode prog_5_method_7_code 40 = .ok (.getfield 121, 3) := by decide +kernel
theorem d_Lane_countLeaver_43 : decode prog_5_method_7_code 43 = .ok (.bipush 6, 2) := by decide +kernel
theorem d_Lane_countLeaver_45 : decode prog_5_method_7_code 45 = .ok (.if_icmp .lt 13, 3) := by decide +kernel
theorem d_Lane_countLeaver_48 : decode prog_5_method_7_code 48 = .ok (.aload_n 0, 1) := by decide +kernel
theorem d_Lane_countLeaver_49 : decode prog_5_method_7_code 49 = .ok (.getfield 41, 3) := by decide +kernel
theorem d_Lane_countLeaver_52 : decode prog_5_method_7_code 52 = .ok (.iconst 4, 1) := by decide +kernel
theorem d_Lane_countLeaver_53 : decode prog_5_method_7_code 53 = .ok (.dup2, 1) := by decide +kernel
theorem d_Lane_countLeaver_54 : decode prog_5_method_7_code 54 = .ok (.iaload, 1) := by decide +kernel
theorem d_Lane_countLeaver_55 : decode prog_5_method_7_code 55 = .ok (.iconst 1, 1) := by decide +kernel
theorem d_Lane_countLeaver_56 : decode prog_5_method_7_code 56 = .ok (.iadd, 1) := by decide +kernel
theorem d_Lane_countLeaver_57 : decode prog_5_method_7_code 57 = .ok (.iastore, 1) := by decide +kernel
theorem d_Lane_countLeaver_58 : decode prog_5_method_7_code 58 = .ok (.return_, 1) := by decide +kernel
theorem d_Lane_countLeaver_59 : decode prog_5_method_7_code 59 = .ok (.aload_n 0, 1) := by decide +kernel
theorem d_Lane_countLeaver_60 : decode prog_5_method_7_code 60 = .ok (.getfield 41, 3) := by decide +kernel
theorem d_Lane_countLeaver_63 : decode prog_5_method_7_code 63 = .ok (.aload_n 1, 1) := by decide +kernel
theorem d_Lane_countLeaver_64 : decode prog_5_method_7_code 64 = .ok (.invokevirtual 124, 3) := by decide +kernel
theorem d_Lane_countLeaver_67 : decode prog_5_method_7_code 67 = .ok (.ifCond .eq 7, 3) := by decide +kernel
theorem d_Lane_countLeaver_70 : decode prog_5_method_7_code 70 = .ok (.iconst 2, 1) := by decide +kernel
theorem d_Lane_countLeaver_71 : decode prog_5_method_7_code 71 = .ok (.goto 4, 3) := by decide +kernel
theorem d_Lane_countLeaver_74 : decode prog_5_method_7_code 74 = .ok (.iconst 3, 1) := by decide +kernel
theorem d_Lane_countLeaver_75 : decode prog_5_method_7_code 75 = .ok (.dup2, 1) := by decide +kernel
theorem d_Lane_countLeaver_76 : decode prog_5_method_7_code 76 = .ok (.iaload, 1) := by decide +kernel
theorem d_Lane_countLeaver_77 : decode prog_5_method_7_code 77 = .ok (.iconst 1, 1) := by decide +kernel
theorem d_Lane_countLeaver_78 : decode prog_5_method_7_code 78 = .ok (.iadd, 1) := by decide +kernel
theorem d_Lane_countLeaver_79 : decode prog_5_method_7_code 79 = .ok (.iastore, 1) := by decide +kernel
theorem d_Lane_countLeaver_80 : decode prog_5_method_7_code 80 = .ok (.iload_n 3, 1) := by decide +kernel
theorem d_Lane_countLeaver_81 : decode prog_5_method_7_code 81 = .ok (.ifCond .eq 11, 3) := by decide +kernel
theorem d_Lane_countLeaver_84 : decode prog_5_method_7_code 84 = .ok (.aload_n 2, 1) := by decide +kernel
theorem d_Lane_countLeaver_85 : decode prog_5_method_7_code 85 = .ok (.aload_n 1, 1) := by decide +kernel
theorem d_Lane_countLeaver_86 : decode prog_5_method_7_code 86 = .ok (.getfield 115, 3) := by decide +kernel
theorem d_Lane_countLeaver_89 : decode prog_5_method_7_code 89 = .ok (.invokevirtual 127, 3) := by decide +kernel
theorem d_Lane_countLeaver_92 : decode prog_5_method_7_code 92 = .ok (.return_, 1) := by decide +kernel
