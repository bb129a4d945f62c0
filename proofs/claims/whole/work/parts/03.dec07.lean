abbrev m_TL_removeOldest : ac_I := (⟨"PairedGates$TokenList", "removeOldest", "()I"⟩, prog_8_method_6_code, 3, (some (.int)), [])
theorem d_TL_removeOldest_0 : decode prog_8_method_6_code 0 = .ok (.aload_n 0, 1) := by decide +kernel
theorem d_TL_removeOldest_1 : decode prog_8_method_6_code 1 = .ok (.getfield 9, 3) := by decide +kernel
theorem d_TL_removeOldest_4 : decode prog_8_method_6_code 4 = .ok (.ifCond .ne 5, 3) := by decide +kernel
theorem d_TL_removeOldest_7 : decode prog_8_method_6_code 7 = .ok (.iconst (-1), 1) := by decide +kernel
theorem d_TL_removeOldest_8 : decode prog_8_method_6_code 8 = .ok (.ireturn, 1) := by decide +kernel
theorem d_TL_removeOldest_9 : decode prog_8_method_6_code 9 = .ok (.aload_n 0, 1) := by decide +kernel
theorem d_TL_removeOldest_10 : decode prog_8_method_6_code 10 = .ok (.getfield 21, 3) := by decide +kernel
theorem d_TL_removeOldest_13 : decode prog_8_method_6_code 13 = .ok (.iconst 0, 1) := by decide +kernel
theorem d_TL_removeOldest_14 : decode prog_8_method_6_code 14 = .ok (.iaload, 1) := by decide +kernel
theorem d_TL_removeOldest_15 : decode prog_8_method_6_code 15 = .ok (.istore_n 1, 1) := by decide +kernel
theorem d_TL_removeOldest_16 : decode prog_8_method_6_code 16 = .ok (.aload_n 0, 1) := by decide +kernel
theorem d_TL_removeOldest_17 : decode prog_8_method_6_code 17 = .ok (.dup, 1) := by decide +kernel
theorem d_TL_removeOldest_18 : decode prog_8_method_6_code 18 = .ok (.getfield 9, 3) := by decide +kernel
theorem d_TL_removeOldest_21 : decode prog_8_method_6_code 21 = .ok (.iconst 1, 1) := by decide +kernel
theorem d_TL_removeOldest_22 : decode prog_8_method_6_code 22 = .ok (.isub, 1) := by decide +kernel
theorem d_TL_removeOldest_23 : decode prog_8_method_6_code 23 = .ok (.putfield 9, 3) := by decide +kernel
theorem d_TL_removeOldest_26 : decode prog_8_method_6_code 26 = .ok (.iconst 0, 1) := by decide +kernel
theorem d_TL_removeOldest_27 : decode prog_8_method_6_code 27 = .ok (.istore_n 2, 1) := by decide +kernel
theorem d_TL_removeOldest_28 : decode prog_8_method_6_code 28 = .ok (.iload_n 2, 1) := by decide +kernel
theorem d_TL_removeOldest_29 : decode prog_8_method_6_code 29 = .ok (.aload_n 0, 1) := by decide +kernel
theorem d_TL_removeOldest_30 : decode prog_8_method_6_code 30 = .ok (.getfield 9, 3) := by decide +kernel
theorem d_TL_removeOldest_33 : decode prog_8_method_6_code 33 = .ok (.if_icmp .ge 37, 3) := by decide +kernel
theorem d_TL_removeOldest_36 : decode prog_8_method_6_code 36 = .ok (.aload_n 0, 1) := by decide +kernel
theorem d_TL_removeOldest_37 : decode prog_8_method_6_code 37 = .ok (.getfield 21, 3) := by decide +kernel
theorem d_TL_removeOldest_40 : decode prog_8_method_6_code 40 = .ok (.iload_n 2, 1) := by decide +kernel
theorem d_TL_removeOldest_41 : decode prog_8_method_6_code 41 = .ok (.aload_n 0, 1) := by decide +kernel
theorem d_TL_removeOldest_42 : decode prog_8_method_6_code 42 = .ok (.getfield 21, 3) := by decide +kernel
theorem d_TL_removeOldest_45 : decode prog_8_method_6_code 45 = .ok (.iload_n 2, 1) := by decide +kernel
theorem d_TL_removeOldest_46 : decode prog_8_method_6_code 46 = .ok (.iconst 1, 1) := by decide +kernel
theorem d_TL_removeOldest_47 : decode prog_8_method_6_code 47 = .ok (.iadd, 1) := by decide +kernel
theorem d_TL_removeOldest_48 : decode prog_8_method_6_code 48 = .ok (.iaload, 1) := by decide +kernel
theorem d_TL_removeOldest_49 : decode prog_8_method_6_code 49 = .ok (.iastore, 1) := by decide +kernel
theorem d_TL_removeOldest_50 : decode prog_8_method_6_code 50 = .ok (.aload_n 0, 1) := by decide +kernel
theorem d_TL_removeOldest_51 : decode prog_8_method_6_code 51 = .ok (.getfield 25, 3) := by decide +kernel
theorem d_TL_removeOldest_54 : decode prog_8_method_6_code 54 = .ok (.iload_n 2, 1) := by decide +kernel
theorem d_TL_removeOldest_55 : decode prog_8_method_6_code 55 = .ok (.aload_n 0, 1) := by decide +kernel
theorem d_TL_removeOldest_56 : decode prog_8_method_6_code 56 = .ok (.getfield 25, 3) := by decide +kernel
theorem d_TL_removeOldest_59 : decode prog_8_method_6_code 59 = .ok (.iload_n 2, 1) := by decide +kernel
theorem d_TL_removeOldest_60 : decode prog_8_method_6_code 60 = .ok (.iconst 1, 1) := by decide +kernel
theorem d_TL_removeOldest_61 : decode prog_8_method_6_code 61 = .ok (.iadd, 1) := by decide +kernel
theorem d_TL_removeOldest_62 : decode prog_8_method_6_code 62 = .ok (.iaload, 1) := by decide +kernel
theorem d_TL_removeOldest_63 : decode prog_8_method_6_code 63 = .ok (.iastore, 1) := by decide +kernel
theorem d_TL_removeOldest_64 : decode prog_8_method_6_code 64 = .ok (.iinc 2 1, 3) := by decide +kernel
theorem d_TL_removeOldest_67 : decode prog_8_method_6_code 67 = .ok (.goto (-39), 3) := by decide +kernel
theorem d_TL_removeOldest_70 : decode prog_8_method_6_code 70 = .ok (.iload_n 1, 1) := by decide +kernel
theorem d_TL_removeOldest_71 : decode prog_8_method_6_code 71 = .ok (.ireturn, 1) := by decide +kernel
abbrev m_TL_refundExpired : ac_I := (⟨"PairedGates$TokenList", "refundExpired", "(ILPairedGates$Refunds;)V"⟩, prog_8_method_7_code, 5, none, [])
theorem d_TL_refundExpired_0 : decode prog_8_method_7_code 0 = .ok (.aload_n 0, 1) := by decide +kernel
theorem d_TL_refundExpired_1 : decode prog_8_method_7_code 1 = .ok (.getfield 9, 3) := by decide +kernel
theorem d_TL_refundExpired_4 : decode prog_8_method_7_code 4 = .ok (.istore_n 3, 1) := by decide +kernel
theorem d_TL_refundExpired_5 : decode prog_8_method_7_code 5 = .ok (.iconst 0, 1) := by decide +kernel
theorem d_TL_refundExpired_6 : decode prog_8_method_7_code 6 = .ok (.istore 4, 2) := by decide +kernel
theorem d_TL_refundExpired_8 : decode prog_8_method_7_code 8 = .ok (.iload 4, 2) := by decide +kernel
theorem d_TL_refundExpired_10 : decode prog_8_method_7_code 10 = .ok (.iload_n 3, 1) := by decide +kernel
theorem d_TL_refundExpired_11 : decode prog_8_method_7_code 11 = .ok (.if_icmp .ge 31, 3) := by decide +kernel
theorem d_TL_refundExpired_14 : decode prog_8_method_7_code 14 = .ok (.iload_n 1, 1) := by decide +kernel
theorem d_TL_refundExpired_15 : decode prog_8_method_7_code 15 = .ok (.aload_n 0, 1) := by decide +kernel
theorem d_TL_refundExpired_16 : decode prog_8_method_7_code 16 = .ok (.getfield 25, 3) := by decide +kernel
theorem d_TL_refundExpired_19 : decode prog_8_method_7_code 19 = .ok (.iconst 0, 1) := by decide +kernel
theorem d_TL_refundExpired_20 : decode prog_8_method_7_code 20 = .ok (.iaload, 1) := by decide +kernel
theorem d_TL_refundExpired_21 : decode prog_8_method_7_code 21 = .ok (.isub, 1) := by decide +kernel
theorem d_TL_refundExpired_22 : decode prog_8_method_7_code 22 = .ok (.sipush 200, 3) := by decide +kernel
theorem d_TL_refundExpired_25 : decode prog_8_method_7_code 25 = .ok (.if_icmp .lt 17, 3) := by decide +kernel
theorem d_TL_refundExpired_28 : decode prog_8_method_7_code 28 = .ok (.aload_n 2, 1) := by decide +kernel
theorem d_TL_refundExpired_29 : decode prog_8_method_7_code 29 = .ok (.aload_n 0, 1) := by decide +kernel
theorem d_TL_refundExpired_30 : decode prog_8_method_7_code 30 = .ok (.invokevirtual 28, 3) := by decide +kernel
theorem d_TL_refundExpired_33 : decode prog_8_method_7_code 33 = .ok (.invokevirtual 32, 3) := by decide +kernel
theorem d_TL_refundExpired_36 : decode prog_8_method_7_code 36 = .ok (.iinc 4 1, 3) := by decide +kernel
theorem d_TL_refundExpired_39 : decode prog_8_method_7_code 39 = .ok (.goto (-31), 3) := by decide +kernel
theorem d_TL_refundExpired_42 : decode prog_8_method_7_code 42 = .ok (.return_, 1) := by decide +kernel
abbrev m_TL_refundAll : ac_I := (⟨"PairedGates$TokenList", "refundAll", "(LPairedGates$Refunds;)I"⟩, prog_8_method_8_code, 4, (some (.int)), [])
theorem d_TL_refundAll_0 : decode prog_8_method_8_code 0 = .ok (.aload_n 0, 1) := by decide +kernel
theorem d_TL_refundAll_1 : decode prog_8_method_8_code 1 = .ok (.getfield 9, 3) := by decide +kernel
theorem d_TL_refundAll_4 : decode prog_8_method_8_code 4 = .ok (.istore_n 2, 1) := by decide +kernel
theorem d_TL_refundAll_5 : decode prog_8_method_8_code 5 = .ok (.iconst 0, 1) := by decide +kernel
theorem d_TL_refundAll_6 : decode prog_8_method_8_code 6 = .ok (.istore_n 3, 1) := by decide +kernel
theorem d_TL_refundAll_7 : decode prog_8_method_8_code 7 = .ok (.iload_n 3, 1) := by decide +kernel
theorem d_TL_refundAll_8 : decode prog_8_method_8_code 8 = .ok (.iload_n 2, 1) := by decide +kernel
theorem d_TL_refundAll_9 : decode prog_8_method_8_code 9 = .ok (.if_icmp .ge 17, 3) := by decide +kernel
theorem d_TL_refundAll_12 : decode prog_8_method_8_code 12 = .ok (.aload_n 1, 1) := by decide +kernel
theorem d_TL_refundAll_13 : decode prog_8_method_8_code 13 = .ok (.aload_n 0, 1) := by decide +kernel
theorem d_TL_refundAll_14 : decode prog_8_method_8_code 14 = .ok (.invokevirtual 28, 3) := by decide +kernel
theorem d_TL_refundAll_17 : decode prog_8_method_8_code 17 = .ok (.invokevirtual 32, 3) := by decide +kernel
theorem d_TL_refundAll_20 : decode prog_8_method_8_code 20 = .ok (.iinc 3 1, 3) := by decide +kernel
theorem d_TL_refundAll_23 : decode prog_8_method_8_code 23 = .ok (.goto (-16), 3) := by decide +kernel
theorem d_TL_refundAll_26 : decode prog_8_method_8_code 26 = .ok (.iload_n 2, 1) := by decide +kernel
theorem d_TL_refundAll_27 : decode prog_8_method_8_code 27 = .ok (.ireturn, 1) := by decide +kernel
abbrev m_La_beams : ac_I := (⟨"PairedGatesLaw", "beams", "(LPairedGates;II)I"⟩, method_3_code, 4, (some (.int)), [(0, 6, 9, 13)])
theorem d_La_beams_0 : decode method_3_code 0 = .ok (.aload_n 0, 1) := by decide +kernel
theorem d_La_beams_1 : decode method_3_code 1 = .ok (.iload_n 1, 1) := by decide +kernel
theorem d_La_beams_2 : decode method_3_code 2 = .ok (.iload_n 2, 1) := by decide +kernel
theorem d_La_beams_3 : decode method_3_code 3 = .ok (.invokevirtual 7, 3) := by decide +kernel
theorem d_La_beams_6 : decode method_3_code 6 = .ok (.goto 6, 3) := by decide +kernel
theorem d_La_beams_9 : decode method_3_code 9 = .ok (.astore_n 3, 1) := by decide +kernel
theorem d_La_beams_10 : decode method_3_code 10 = .ok (.iconst 1, 1) := by decide +kernel
theorem d_La_beams_11 : decode method_3_code 11 = .ok (.ireturn, 1) := by decide +kernel
theorem d_La_beams_12 : decode method_3_code 12 = .ok (.iconst 0, 1) := by decide +kernel
theorem d_La_beams_13 : decode method_3_code 13 = .ok (.ireturn, 1) := by decide +kernel
abbrev m_La_ticks : ac_I := (⟨"PairedGatesLaw", "ticks", "(LPairedGates;I[J)I"⟩, method_4_code, 4, (some (.int)), [(0, 9, 12, 19)])
theorem d_La_ticks_0 : decode method_4_code 0 = .ok (.aload_n 2, 1) := by decide +kernel
theorem d_La_ticks_1 : decode method_4_code 1 = .ok (.iconst 0, 1) := by decide +kernel
theorem d_La_ticks_2 : decode method_4_code 2 = .ok (.aload_n 0, 1) := by decide +kernel
theorem d_La_ticks_3 : decode method_4_code 3 = .ok (.iload_n 1, 1) := by decide +kernel
theorem d_La_ticks_4 : decode method_4_code 4 = .ok (.invokevirtual 15, 3) := by decide +kernel
theorem d_La_ticks_7 : decode method_4_code 7 = .ok (.i2l, 1) := by decide +kernel
theorem d_La_ticks_8 : decode method_4_code 8 = .ok (.lastore, 1) := by decide +kernel
theorem d_La_ticks_9 : decode method_4_code 9 = .ok (.goto 6, 3) := by decide +kernel
theorem d_La_ticks_12 : decode method_4_code 12 = .ok (.astore_n 3, 1) := by decide +kernel
theorem d_La_ticks_13 : decode method_4_code 13 = .ok (.iconst 1, 1) := by decide +kernel
theorem d_La_ticks_14 : decode method_4_code 14 = .ok (.ireturn, 1) := by decide +kernel
theorem d_La_ticks_15 : decode method_4_code 15 = .ok (.iconst 0, 1) := by decide +kernel
theorem d_La_ticks_16 : decode method_4_code 16 = .ok (.ireturn, 1) := by decide +kernel
abbrev m_La_token : ac_I := (⟨"PairedGatesLaw", "token", "(LPairedGates;III[J)I"⟩, method_5_code, 6, (some (.int)), [(0, 12, 15, 13), (0, 12, 19, 19)])
theorem d_La_token_0 : decode method_5_code 0 = .ok (.aload 4, 2) := by decide +kernel
theorem d_La_token_2 : decode method_5_code 2 = .ok (.iconst 0, 1) := by decide +kernel
theorem d_La_token_3 : decode method_5_code 3 = .ok (.aload_n 0, 1) := by decide +kernel
theorem d_La_token_4 : decode method_5_code 4 = .ok (.iload_n 1, 1) := by decide +kernel
theorem d_La_token_5 : decode method_5_code 5 = .ok (.iload_n 2, 1) := by decide +kernel
theorem d_La_token_6 : decode method_5_code 6 = .ok (.iload_n 3, 1) := by decide +kernel
theorem d_La_token_7 : decode method_5_code 7 = .ok (.invokevirtual 21, 3) := by decide +kernel
theorem d_La_token_10 : decode method_5_code 10 = .ok (.i2l, 1) := by decide +kernel
theorem d_La_token_11 : decode method_5_code 11 = .ok (.lastore, 1) := by decide +kernel
theorem d_La_token_12 : decode method_5_code 12 = .ok (.goto 11, 3) := by decide +kernel
theorem d_La_token_15 : decode method_5_code 15 = .ok (.astore 5, 2) := by decide +kernel
theorem d_La_token_17 : decode method_5_code 17 = .ok (.iconst 1, 1) := by decide +kernel
theorem d_La_token_18 : decode method_5_code 18 = .ok (.ireturn, 1) := by decide +kernel
theorem d_La_token_19 : decode method_5_code 19 = .ok (.astore 5, 2) := by decide +kernel
theorem d_La_token_21 : decode method_5_code 21 = .ok (.iconst 2, 1) := by decide +kernel
theorem d_La_token_22 : decode method_5_code 22 = .ok (.ireturn, 1) := by decide +kernel
theorem d_La_token_23 : decode method_5_code 23 = .ok (.iconst 0, 1) := by decide +kernel
theorem d_La_token_24 : decode method_5_code 24 = .ok (.ireturn, 1) := by decide +kernel
abbrev m_La_cancel : ac_I := (⟨"PairedGatesLaw", "cancel", "(LPairedGates;II[J)I"⟩, method_6_code, 5, (some (.int)), [(0, 10, 13, 13)])
theorem d_La_cancel_0 : decode method_6_code 0 = .ok (.aload_n 3, 1) := by decide +kernel
theorem d_La_cancel_1 : decode method_6_code 1 = .ok (.iconst 0, 1) := by decide +kernel
theorem d_La_cancel_2 : decode method_6_code 2 = .ok (.aload_n 0, 1) := by decide +kernel
theorem d_La_cancel_3 : decode method_6_code 3 = .ok (.iload_n 1, 1) := by decide +kernel
theorem d_La_cancel_4 : decode method_6_code 4 = .ok (.iload_n 2, 1) := by decide +kernel
theorem d_La_cancel_5 : decode method_6_code 5 = .ok (.invokevirtual 25, 3) := by decide +kernel
theorem d_La_cancel_8 : decode method_6_code 8 = .ok (.i2l, 1) := by decide +kernel
theorem d_La_cancel_9 : decode method_6_code 9 = .ok (.lastore, 1) := by decide +kernel
theorem d_La_cancel_10 : decode method_6_code 10 = .ok (.goto 7, 3) := by decide +kernel
theorem d_La_cancel_13 : decode method_6_code 13 = .ok (.astore 4, 2) := by decide +kernel
theorem d_La_cancel_15 : decode method_6_code 15 = .ok (.iconst 1, 1) := by decide +kernel
theorem d_La_cancel_16 : decode method_6_code 16 = .ok (.ireturn, 1) := by decide +kernel
theorem d_La_cancel_17 : decode method_6_code 17 = .ok (.iconst 0, 1) := by decide +kernel
theorem d_La_cancel_18 : decode method_6_code 18 = .ok (.ireturn, 1) := by decide +kernel
abbrev m_La_mode : ac_I := (⟨"PairedGatesLaw", "mode", "(LPairedGates;II[J)I"⟩, method_7_code, 5, (some (.int)), [(0, 10, 13, 13), (0, 10, 17, 19), (0, 10, 21, 32)])
theorem d_La_mode_0 : decode method_7_code 0 = .ok (.aload_n 3, 1) := by decide +kernel
theorem d_La_mode_1 : decode method_7_code 1 = .ok (.iconst 0, 1) := by decide +kernel
theorem d_La_mode_2 : decode method_7_code 2 = .ok (.aload_n 0, 1) := by decide +kernel
theorem d_La_mode_3 : decode method_7_code 3 = .ok (.iload_n 1, 1) := by decide +kernel
theorem d_La_mode_4 : decode method_7_code 4 = .ok (.iload_n 2, 1) := by decide +kernel
theorem d_La_mode_5 : decode method_7_code 5 = .ok (.invokevirtual 29, 3) := by decide +kernel
theorem d_La_mode_8 : decode method_7_code 8 = .ok (.i2l, 1) := by decide +kernel
theorem d_La_mode_9 : decode method_7_code 9 = .ok (.lastore, 1) := by decide +kernel
theorem d_La_mode_10 : decode method_7_code 10 = .ok (.goto 15, 3) := by decide +kernel
theorem d_La_mode_13 : decode method_7_code 13 = .ok (.astore 4, 2) := by decide +kernel
theorem d_La_mode_15 : decode method_7_code 15 = .ok (.iconst 1, 1) := by decide +kernel
theorem d_La_mode_16 : decode method_7_code 16 = .ok (.ireturn, 1) := by decide +kernel
theorem d_La_mode_17 : decode method_7_code 17 = .ok (.astore 4, 2) := by decide +kernel
theorem d_La_mode_19 : decode method_7_code 19 = .ok (.iconst 2, 1) := by decide +kernel
theorem d_La_mode_20 : decode method_7_code 20 = .ok (.ireturn, 1) := by decide +kernel
theorem d_La_mode_21 : decode method_7_code 21 = .ok (.astore 4, 2) := by decide +kernel
theorem d_La_mode_23 : decode method_7_code 23 = .ok (.iconst 3, 1) := by decide +kernel
theorem d_La_mode_24 : decode method_7_code 24 = .ok (.ireturn, 1) := by decide +kernel
theorem d_La_mode_25 : decode method_7_code 25 = .ok (.iconst 0, 1) := by decide +kernel
theorem d_La_mode_26 : decode method_7_code 26 = .ok (.ireturn, 1) := by decide +kernel
abbrev m_La_bodies : ac_I := (⟨"PairedGatesLaw", "bodies", "(LPairedGates;I[J)I"⟩, method_8_code, 4, (some (.int)), [(0, 9, 12, 13)])
theorem d_La_bodies_0 : decode method_8_code 0 = .ok (.aload_n 2, 1) := by decide +kernel
theorem d_La_bodies_1 : decode method_8_code 1 = .ok (.iconst 0, 1) := by decide +kernel
theorem d_La_bodies_2 : decode method_8_code 2 = .ok (.aload_n 0, 1) := by decide +kernel
theorem d_La_bodies_3 : decode method_8_code 3 = .ok (.iload_n 1, 1) := by decide +kernel
theorem d_La_bodies_4 : decode method_8_code 4 = .ok (.invokevirtual 34, 3) := by decide +kernel
theorem d_La_bodies_7 : decode method_8_code 7 = .ok (.i2l, 1) := by decide +kernel
theorem d_La_bodies_8 : decode method_8_code 8 = .ok (.lastore, 1) := by decide +kernel
theorem d_La_bodies_9 : decode method_8_code 9 = .ok (.goto 6, 3) := by decide +kernel
theorem d_La_bodies_12 : decode method_8_code 12 = .ok (.astore_n 3, 1) := by decide +kernel
theorem d_La_bodies_13 : decode method_8_code 13 = .ok (.iconst 1, 1) := by decide +kernel
theorem d_La_bodies_14 : decode method_8_code 14 = .ok (.ireturn, 1) := by decide +kernel
theorem d_La_bodies_15 : decode method_8_code 15 = .ok (.iconst 0, 1) := by decide +kernel
theorem d_La_bodies_16 : decode method_8_code 16 = .ok (.ireturn, 1) := by decide +kernel
abbrev m_La_body : ac_I := (⟨"PairedGatesLaw", "body", "(LPairedGates;III[J)I"⟩, method_9_code, 6, (some (.int)), [(0, 12, 15, 13), (0, 12, 19, 19)])
theorem d_La_body_0 : decode method_9_code 0 = .ok (.aload 4, 2) := by decide +kernel
theorem d_La_body_2 : decode method_9_code 2 = .ok (.iconst 0, 1) := by decide +kernel
theorem d_La_body_3 : decode method_9_code 3 = .ok (.aload_n 0, 1) := by decide +kernel
theorem d_La_body_4 : decode method_9_code 4 = .ok (.iload_n 1, 1) := by decide +kernel
theorem d_La_body_5 : decode method_9_code 5 = .ok (.iload_n 2, 1) := by decide +kernel
theorem d_La_body_6 : decode method_9_code 6 = .ok (.iload_n 3, 1) := by decide +kernel
theorem d_La_body_7 : decode method_9_code 7 = .ok (.invokevirtual 37, 3) := by decide +kernel
theorem d_La_body_10 : decode method_9_code 10 = .ok (.i2l, 1) := by decide +kernel
theorem d_La_body_11 : decode method_9_code 11 = .ok (.lastore, 1) := by decide +kernel
theorem d_La_body_12 : decode method_9_code 12 = .ok (.goto 11, 3) := by decide +kernel
theorem d_La_body_15 : decode method_9_code 15 = .ok (.astore 5, 2) := by decide +kernel
theorem d_La_body_17 : decode method_9_code 17 = .ok (.iconst 1, 1) := by decide +kernel
theorem d_La_body_18 : decode method_9_code 18 = .ok (.ireturn, 1) := by decide +kernel
theorem d_La_body_19 : decode method_9_code 19 = .ok (.astore 5, 2) := by decide +kernel
theorem d_La_body_21 : decode method_9_code 21 = .ok (.iconst 2, 1) := by decide +kernel
theorem d_La_body_22 : decode method_9_code 22 = .ok (.ireturn, 1) := by decide +kernel
theorem d_La_body_23 : decode method_9_code 23 = .ok (.iconst 0, 1) := by decide +kernel
theorem d_La_body_24 : decode method_9_code 24 = .ok (.ireturn, 1) := by decide +kernel
abbrev m_La_waiting : ac_I := (⟨"PairedGatesLaw", "waiting", "(LPairedGates;II[J)I"⟩, method_10_code, 5, (some (.int)), [(0, 10, 13, 13)])
theorem d_La_waiting_0 : decode method_10_code 0 = .ok (.aload_n 3, 1) := by decide +kernel
theorem d_La_waiting_1 : decode method_10_code 1 = .ok (.iconst 0, 1) := by decide +kernel
theorem d_La_waiting_2 : decode method_10_code 2 = .ok (.aload_n 0, 1) := by decide +kernel
theorem d_La_waiting_3 : decode method_10_code 3 = .ok (.iload_n 1, 1) := by decide +kernel
theorem d_La_waiting_4 : decode method_10_code 4 = .ok (.iload_n 2, 1) := by decide +kernel
theorem d_La_waiting_5 : decode method_10_code 5 = .ok (.invokevirtual 40, 3) := by decide +kernel
theorem d_La_waiting_8 : decode method_10_code 8 = .ok (.i2l, 1) := by decide +kernel
theorem d_La_waiting_9 : decode method_10_code 9 = .ok (.lastore, 1) := by decide +kernel
theorem d_La_waiting_10 : decode method_10_code 10 = .ok (.goto 7, 3) := by decide +kernel
theorem d_La_waiting_13 : decode method_10_code 13 = .ok (.astore 4, 2) := by decide +kernel
theorem d_La_waiting_15 : decode method_10_code 15 = .ok (.iconst 1, 1) := by decide +kernel
theorem d_La_waiting_16 : decode method_10_code 16 = .ok (.ireturn, 1) := by decide +kernel
theorem d_La_waiting_17 : decode method_10_code 17 = .ok (.iconst 0, 1) := by decide +kernel
theorem d_La_waiting_18 : decode method_10_code 18 = .ok (.ireturn, 1) := by decide +kernel
abbrev m_La_waits : ac_I := (⟨"PairedGatesLaw", "waits", "(LPairedGates;III[J)I"⟩, method_11_code, 6, (some (.int)), [(0, 12, 15, 13)])
theorem d_La_waits_0 : decode method_11_code 0 = .ok (.aload 4, 2) := by decide +kernel
theorem d_La_waits_2 : decode method_11_code 2 = .ok (.iconst 0, 1) := by decide +kernel
theorem d_La_waits_3 : decode method_11_code 3 = .ok (.aload_n 0, 1) := by decide +kernel
theorem d_La_waits_4 : decode method_11_code 4 = .ok (.iload_n 1, 1) := by decide +kernel
theorem d_La_waits_5 : decode method_11_code 5 = .ok (.iload_n 2, 1) := by decide +kernel
theorem d_La_waits_6 : decode method_11_code 6 = .ok (.iload_n 3, 1) := by decide +kernel
theorem d_La_waits_7 : decode method_11_code 7 = .ok (.invokevirtual 43, 3) := by decide +kernel
theorem d_La_waits_10 : decode method_11_code 10 = .ok (.i2l, 1) := by decide +kernel
theorem d_La_waits_11 : decode method_11_code 11 = .ok (.lastore, 1) := by decide +kernel
theorem d_La_waits_12 : decode method_11_code 12 = .ok (.goto 7, 3) := by decide +kernel
theorem d_La_waits_15 : decode method_11_code 15 = .ok (.astore 5, 2) := by decide +kernel
theorem d_La_waits_17 : decode method_11_code 17 = .ok (.iconst 1, 1) := by decide +kernel
theorem d_La_waits_18 : decode method_11_code 18 = .ok (.ireturn, 1) := by decide +kernel
theorem d_La_waits_19 : decode method_11_code 19 = .ok (.iconst 0, 1) := by decide +kernel
theorem d_La_waits_20 : decode method_11_code 20 = .ok (.ireturn, 1) := by decide +kernel
abbrev m_La_count : ac_I := (⟨"PairedGatesLaw", "count", "(LPairedGates;II[J)I"⟩, method_12_code, 5, (some (.int)), [(0, 10, 13, 13)])
theorem d_La_count_0 : decode method_12_code 0 = .ok (.aload_n 3, 1) := by decide +kernel
theorem d_La_count_1 : decode method_12_code 1 = .ok (.iconst 0, 1) := by decide +kernel
theorem d_La_count_2 : decode method_12_code 2 = .ok (.aload_n 0, 1) := by decide +kernel
theorem d_La_count_3 : decode method_12_code 3 = .ok (.iload_n 1, 1) := by decide +kernel
theorem d_La_count_4 : decode method_12_code 4 = .ok (.iload_n 2, 1) := by decide +kernel
theorem d_La_count_5 : decode method_12_code 5 = .ok (.invokevirtual 46, 3) := by decide +kernel
theorem d_La_count_8 : decode method_12_code 8 = .ok (.i2l, 1) := by decide +kernel
theorem d_La_count_9 : decode method_12_code 9 = .ok (.lastore, 1) := by decide +kernel
theorem d_La_count_10 : decode method_12_code 10 = .ok (.goto 7, 3) := by decide +kernel
theorem d_La_count_13 : decode method_12_code 13 = .ok (.astore 4, 2) := by decide +kernel
theorem d_La_count_15 : decode method_12_code 15 = .ok (.iconst 1, 1) := by decide +kernel
theorem d_La_count_16 : decode method_12_code 16 = .ok (.ireturn, 1) := by decide +kernel
theorem d_La_count_17 : decode method_12_code 17 = .ok (.iconst 0, 1) := by decide +kernel
theorem d_La_count_18 : decode method_12_code 18 = .ok (.ireturn, 1) := by decide +kernel
abbrev m_La_angle : ac_I := (⟨"PairedGatesLaw", "angle", "(LPairedGates;I[J)I"⟩, method_13_code, 4, (some (.int)), [(0, 9, 12, 13)])
theorem d_La_angle_0 : decode method_13_code 0 = .ok (.aload_n 2, 1) := by decide +kernel
theorem d_La_angle_1 : decode method_13_code 1 = .ok (.iconst 0, 1) := by decide +kernel
theorem d_La_angle_2 : decode method_13_code 2 = .ok (.aload_n 0, 1) := by decide +kernel
theorem d_La_angle_3 : decode method_13_code 3 = .ok (.iload_n 1, 1) := by decide +kernel
theorem d_La_angle_4 : decode method_13_code 4 = .ok (.invokevirtual 49, 3) := by decide +kernel
theorem d_La_angle_7 : decode method_13_code 7 = .ok (.i2l, 1) := by decide +kernel
theorem d_La_angle_8 : decode method_13_code 8 = .ok (.lastore, 1) := by decide +kernel
theorem d_La_angle_9 : decode method_13_code 9 = .ok (.goto 6, 3) := by decide +kernel
theorem d_La_angle_12 : decode method_13_code 12 = .ok (.astore_n 3, 1) := by decide +kernel
theorem d_La_angle_13 : decode method_13_code 13 = .ok (.iconst 1, 1) := by decide +kernel
theorem d_La_angle_14 : decode method_13_code 14 = .ok (.ireturn, 1) := by decide +kernel
theorem d_La_angle_15 : decode method_13_code 15 = .ok (.iconst 0, 1) := by decide +kernel
theorem d_La_angle_16 : decode method_13_code 16 = .ok (.ireturn, 1) := by decide +kernel
abbrev m_La_order : ac_I := (⟨"PairedGatesLaw", "order", "(LPairedGates;I[J)I"⟩, method_14_code, 4, (some (.int)), [(0, 9, 12, 13)])
theorem d_La_order_0 : decode method_14_code 0 = .ok (.aload_n 2, 1) := by decide +kernel
theorem d_La_order_1 : decode method_14_code 1 = .ok (.iconst 0, 1) := by decide +kernel
theorem d_La_order_2 : decode method_14_code 2 = .ok (.aload_n 0, 1) := by decide +kernel
theorem d_La_order_3 : decode method_14_code 3 = .ok (.iload_n 1, 1) := by decide +kernel
theorem d_La_order_4 : decode method_14_code 4 = .ok (.invokevirtual 52, 3) := by decide +kernel
theorem d_La_order_7 : decode method_14_code 7 = .ok (.i2l, 1) := by decide +kernel
theorem d_La_order_8 : decode method_14_code 8 = .ok (.lastore, 1) := by decide +kernel
theorem d_La_order_9 : decode method_14_code 9 = .ok (.goto 6, 3) := by decide +kernel
theorem d_La_order_12 : decode method_14_code 12 = .ok (.astore_n 3, 1) := by decide +kernel
theorem d_La_order_13 : decode method_14_code 13 = .ok (.iconst 1, 1) := by decide +kernel
theorem d_La_order_14 : decode method_14_code 14 = .ok (.ireturn, 1) := by decide +kernel
theorem d_La_order_15 : decode method_14_code 15 = .ok (.iconst 0, 1) := by decide +kernel
theorem d_La_order_16 : decode method_14_code 16 = .ok (.ireturn, 1) := by decide +kernel
abbrev m_La_seen : ac_I := (⟨"PairedGatesLaw", "seen", "(LPairedGates;I[J)I"⟩, method_15_code, 4, (some (.int)), [(0, 9, 12, 13)])
theorem d_La_seen_0 : decode method_15_code 0 = .ok (.aload_n 2, 1) := by decide +kernel
theorem d_La_seen_1 : decode method_15_code 1 = .ok (.iconst 0, 1) := by decide +kernel
theorem d_La_seen_2 : decode method_15_code 2 = .ok (.aload_n 0, 1) := by decide +kernel
theorem d_La_seen_3 : decode method_15_code 3 = .ok (.iload_n 1, 1) := by decide +kernel
theorem d_La_seen_4 : decode method_15_code 4 = .ok (.invokevirtual 55, 3) := by decide +kernel
theorem d_La_seen_7 : decode method_15_code 7 = .ok (.i2l, 1) := by decide +kernel
theorem d_La_seen_8 : decode method_15_code 8 = .ok (.lastore, 1) := by decide +kernel
theorem d_La_seen_9 : decode method_15_code 9 = .ok (.goto 6, 3) := by decide +kernel
theorem d_La_seen_12 : decode method_15_code 12 = .ok (.astore_n 3, 1) := by decide +kernel
theorem d_La_seen_13 : decode method_15_code 13 = .ok (.iconst 1, 1) := by decide +kernel
theorem d_La_seen_14 : decode method_15_code 14 = .ok (.ireturn, 1) := by decide +kernel
theorem d_La_seen_15 : decode method_15_code 15 = .ok (.iconst 0, 1) := by decide +kernel
theorem d_La_seen_16 : decode method_15_code 16 = .ok (.ireturn, 1) := by decide +kernel
abbrev m_La_law : ac_I := (⟨"PairedGatesLaw", "law", "([I)Z"⟩, code, 7, (some (.boolean)), [])
theorem d_La_law_0 : decode code 0 = .ok (.new 8, 3) := by decide +kernel
theorem d_La_law_3 : decode code 3 = .ok (.dup, 1) := by decide +kernel
theorem d_La_law_4 : decode code 4 = .ok (.invokespecial 58, 3) := by decide +kernel
theorem d_La_law_7 : decode code 7 = .ok (.astore_n 1, 1) := by decide +kernel
theorem d_La_law_8 : decode code 8 = .ok (.new 59, 3) := by decide +kernel
theorem d_La_law_11 : decode code 11 = .ok (.dup, 1) := by decide +kernel
theorem d_La_law_12 : decode code 12 = .ok (.invokespecial 61, 3) := by decide +kernel
theorem d_La_law_15 : decode code 15 = .ok (.astore_n 2, 1) := by decide +kernel
theorem d_La_law_16 : decode code 16 = .ok (.iconst 1, 1) := by decide +kernel
theorem d_La_law_17 : decode code 17 = .ok (.newarray .long, 2) := by decide +kernel
theorem d_La_law_19 : decode code 19 = .ok (.astore_n 3, 1) := by decide +kernel
theorem d_La_law_20 : decode code 20 = .ok (.iconst 0, 1) := by decide +kernel
theorem d_La_law_21 : decode code 21 = .ok (.istore 4, 2) := by decide +kernel
theorem d_La_law_23 : decode code 23 = .ok (.iload 4, 2) := by decide +kernel
theorem d_La_law_25 : decode code 25 = .ok (.aload_n 0, 1) := by decide +kernel
theorem d_La_law_26 : decode code 26 = .ok (.arraylength, 1) := by decide +kernel
theorem d_La_law_27 : decode code 27 = .ok (.iconst 4, 1) := by decide +kernel
theorem d_La_law_28 : decode code 28 = .ok (.isub, 1) := by decide +kernel
theorem d_La_law_29 : decode code 29 = .ok (.if_icmp .gt 1044, 3) := by decide +kernel
theorem d_La_law_32 : decode code 32 = .ok (.aload_n 0, 1) := by decide +kernel
theorem d_La_law_33 : decode code 33 = .ok (.iload 4, 2) := by decide +kernel
theorem d_La_law_35 : decode code 35 = .ok (.iaload, 1) := by decide +kernel
theorem d_La_law_36 : decode code 36 = .ok (.bipush 31, 2) := by decide +kernel
theorem d_La_law_38 : decode code 38 = .ok (.iand, 1) := by decide +kernel
theorem d_La_law_39 : decode code 39 = .ok (.tableswitch 1028 0 17 #[85, 133, 189, 269, 337, 405, 444, 457, 513, 593, 661, 741, 809, 865, 921, 977, 990, 1003], 85) := by decide +kernel
theorem d_La_law_124 : decode code 124 = .ok (.aload_n 1, 1) := by decide +kernel
theorem d_La_law_125 : decode code 125 = .ok (.aload_n 0, 1) := by decide +kernel
theorem d_La_law_126 : decode code 126 = .ok (.iload 4, 2) := by decide +kernel
theorem d_La_law_128 : decode code 128 = .ok (.iconst 1, 1) := by decide +kernel
theorem d_La_law_129 : decode code 129 = .ok (.iadd, 1) := by decide +kernel
theorem d_La_law_130 : decode code 130 = .ok (.iaload, 1) := by decide +kernel
theorem d_La_law_131 : decode code 131 = .ok (.aload_n 0, 1) := by decide +kernel
theorem d_La_law_132 : decode code 132 = .ok (.iload 4, 2) := by decide +kernel
theorem d_La_law_134 : decode code 134 = .ok (.iconst 2, 1) := by decide +kernel
theorem d_La_law_135 : decode code 135 = .ok (.iadd, 1) := by decide +kernel
theorem d_La_law_136 : decode code 136 = .ok (.iaload, 1) := by decide +kernel
theorem d_La_law_137 : decode code 137 = .ok (.invokestatic 62, 3) := by decide +kernel
theorem d_La_law_140 : decode code 140 = .ok (.istore 5, 2) := by decide +kernel
theorem d_La_law_142 : decode code 142 = .ok (.aload_n 2, 1) := by decide +kernel
theorem d_La_law_143 : decode code 143 = .ok (.aload_n 0, 1) := by decide +kernel
theorem d_La_law_144 : decode code 144 = .ok (.iload 4, 2) := by decide +kernel
theorem d_La_law_146 : decode code 146 = .ok (.iconst 1, 1) := by decide +kernel
theorem d_La_law_147 : decode code 147 = .ok (.iadd, 1) := by decide +kernel
theorem d_La_law_148 : decode code 148 = .ok (.iaload, 1) := by decide +kernel
theorem d_La_law_149 : decode code 149 = .ok (.aload_n 0, 1) := by decide +kernel
theorem d_La_law_150 : decode code 150 = .ok (.iload 4, 2) := by decide +kernel
theorem d_La_law_152 : decode code 152 = .ok (.iconst 2, 1) := by decide +kernel
theorem d_La_law_153 : decode code 153 = .ok (.iadd, 1) := by decide +kernel
theorem d_La_law_154 : decode code 154 = .ok (.iaload, 1) := by decide +kernel
theorem d_La_law_155 : decode code 155 = .ok (.invokevirtual 67, 3) := by decide +kernel
theorem d_La_law_158 : decode code 158 = .ok (.aload_n 2, 1) := by decide +kernel
theorem d_La_law_159 : decode code 159 = .ok (.invokevirtual 68, 3) := by decide +kernel
theorem d_La_law_162 : decode code 162 = .ok (.iload 5, 2) := by decide +kernel
theorem d_La_law_164 : decode code 164 = .ok (.if_icmp .eq 5, 3) := by decide +kernel
theorem d_La_law_167 : decode code 167 = .ok (.iconst 0, 1) := by decide +kernel
theorem d_La_law_168 : decode code 168 = .ok (.ireturn, 1) := by decide +kernel
theorem d_La_law_169 : decode code 169 = .ok (.goto 898, 3) := by decide +kernel
theorem d_La_law_172 : decode code 172 = .ok (.aload_n 1, 1) := by decide +kernel
theorem d_La_law_173 : decode code 173 = .ok (.aload_n 0, 1) := by decide +kernel
theorem d_La_law_174 : decode code 174 = .ok (.iload 4, 2) := by decide +kernel
theorem d_La_law_176 : decode code 176 = .ok (.iconst 1, 1) := by decide +kernel
theorem d_La_law_177 : decode code 177 = .ok (.iadd, 1) := by decide +kernel
theorem d_La_law_178 : decode code 178 = .ok (.iaload, 1) := by decide +kernel
theorem d_La_law_179 : decode code 179 = .ok (.aload_n 3, 1) := by decide +kernel
theorem d_La_law_180 : decode code 180 = .ok (.invokestatic 72, 3) := by decide +kernel
theorem d_La_law_183 : decode code 183 = .ok (.istore 5, 2) := by decide +kernel
theorem d_La_law_185 : decode code 185 = .ok (.aload_n 2, 1) := by decide +kernel
theorem d_La_law_186 : decode code 186 = .ok (.aload_n 0, 1) := by decide +kernel
theorem d_La_law_187 : decode code 187 = .ok (.iload 4, 2) := by decide +kernel
theorem d_La_law_189 : decode code 189 = .ok (.iconst 1, 1) := by decide +kernel
theorem d_La_law_190 : decode code 190 = .ok (.iadd, 1) := by decide +kernel
theorem d_La_law_191 : decode code 191 = .ok (.iaload, 1) := by decide +kernel
theorem d_La_law_192 : decode code 192 = .ok (.invokevirtual 75, 3) := by decide +kernel
theorem d_La_law_195 : decode code 195 = .ok (.istore 6, 2) := by decide +kernel
theorem d_La_law_197 : decode code 197 = .ok (.aload_n 2, 1) := by decide +kernel
theorem d_La_law_198 : decode code 198 = .ok (.invokevirtual 68, 3) := by decide +kernel
theorem d_La_law_201 : decode code 201 = .ok (.iload 5, 2) := by decide +kernel
theorem d_La_law_203 : decode code 203 = .ok (.if_icmp .eq 5, 3) := by decide +kernel
theorem d_La_law_206 : decode code 206 = .ok (.iconst 0, 1) := by decide +kernel
theorem d_La_law_207 : decode code 207 = .ok (.ireturn, 1) := by decide +kernel
theorem d_La_law_208 : decode code 208 = .ok (.iload 5, 2) := by decide +kernel
theorem d_La_law_210 : decode code 210 = .ok (.ifCond .ne 15, 3) := by decide +kernel
theorem d_La_law_213 : decode code 213 = .ok (.aload_n 3, 1) := by decide +kernel
theorem d_La_law_214 : decode code 214 = .ok (.iconst 0, 1) := by decide +kernel
theorem d_La_law_215 : decode code 215 = .ok (.laload, 1) := by decide +kernel
theorem d_La_law_216 : decode code 216 = .ok (.iload 6, 2) := by decide +kernel
theorem d_La_law_218 : decode code 218 = .ok (.i2l, 1) := by decide +kernel
theorem d_La_law_219 : decode code 219 = .ok (.lcmp, 1) := by decide +kernel
theorem d_La_law_220 : decode code 220 = .ok (.ifCond .eq 5, 3) := by decide +kernel
theorem d_La_law_223 : decode code 223 = .ok (.iconst 0, 1) := by decide +kernel
theorem d_La_law_224 : decode code 224 = .ok (.ireturn, 1) := by decide +kernel
theorem d_La_law_225 : decode code 225 = .ok (.goto 842, 3) := by decide +kernel
theorem d_La_law_228 : decode code 228 = .ok (.aload_n 1, 1) := by decide +kernel
theorem d_La_law_229 : decode code 229 = .ok (.aload_n 0, 1) := by decide +kernel
theorem d_La_law_230 : decode code 230 = .ok (.iload 4, 2) := by decide +kernel
theorem d_La_law_232 : decode code 232 = .ok (.iconst 1, 1) := by decide +kernel
theorem d_La_law_233 : decode code 233 = .ok (.iadd, 1) := by decide +kernel
theorem d_La_law_234 : decode code 234 = .ok (.iaload, 1) := by decide +kernel
theorem d_La_law_235 : decode code 235 = .ok (.aload_n 0, 1) := by decide +kernel
theorem d_La_law_236 : decode code 236 = .ok (.iload 4, 2) := by decide +kernel
theorem d_La_law_238 : decode code 238 = .ok (.iconst 2, 1) := by decide +kernel
theorem d_La_law_239 : decode code 239 = .ok (.iadd, 1) := by decide +kernel
theorem d_La_law_240 : decode code 240 = .ok (.iaload, 1) := by decide +kernel
theorem d_La_law_241 : decode code 241 = .ok (.aload_n 0, 1) := by decide +kernel
theorem d_La_law_242 : decode code 242 = .ok (.iload 4, 2) := by decide +kernel
theorem d_La_law_244 : decode code 244 = .ok (.iconst 3, 1) := by decide +kernel
theorem d_La_law_245 : decode code 245 = .ok (.iadd, 1) := by decide +kernel
theorem d_La_law_246 : decode code 246 = .ok (.iaload, 1) := by decide +kernel
theorem d_La_law_247 : decode code 247 = .ok (.aload_n 3, 1) := by decide +kernel
theorem d_La_law_248 : decode code 248 = .ok (.invokestatic 76, 3) := by decide +kernel
theorem d_La_law_251 : decode code 251 = .ok (.istore 5, 2) := by decide +kernel
theorem d_La_law_253 : decode code 253 = .ok (.aload_n 2, 1) := by decide +kernel
theorem d_La_law_254 : decode code 254 = .ok (.aload_n 0, 1) := by decide +kernel
theorem d_La_law_255 : decode code 255 = .ok (.iload 4, 2) := by decide +kernel
theorem d_La_law_257 : decode code 257 = .ok (.iconst 1, 1) := by decide +kernel
theorem d_La_law_258 : decode code 258 = .ok (.iadd, 1) := by decide +kernel
theorem d_La_law_259 : decode code 259 = .ok (.iaload, 1) := by decide +kernel
theorem d_La_law_260 : decode code 260 = .ok (.aload_n 0, 1) := by decide +kernel
theorem d_La_law_261 : decode code 261 = .ok (.iload 4, 2) := by decide +kernel
theorem d_La_law_263 : decode code 263 = .ok (.iconst 2, 1) := by decide +kernel
theorem d_La_law_264 : decode code 264 = .ok (.iadd, 1) := by decide +kernel
theorem d_La_law_265 : decode code 265 = .ok (.iaload, 1) := by decide +kernel
theorem d_La_law_266 : decode code 266 = .ok (.aload_n 0, 1) := by decide +kernel
theorem d_La_law_267 : decode code 267 = .ok (.iload 4, 2) := by decide +kernel
theorem d_La_law_269 : decode code 269 = .ok (.iconst 3, 1) := by decide +kernel
theorem d_La_law_270 : decode code 270 = .ok (.iadd, 1) := by decide +kernel
theorem d_La_law_271 : decode code 271 = .ok (.iaload, 1) := by decide +kernel
theorem d_La_law_272 : decode code 272 = .ok (.invokevirtual 79, 3) := by decide +kernel
theorem d_La_law_275 : decode code 275 = .ok (.istore 6, 2) := by decide +kernel
theorem d_La_law_277 : decode code 277 = .ok (.aload_n 2, 1) := by decide +kernel
theorem d_La_law_278 : decode code 278 = .ok (.invokevirtual 68, 3) := by decide +kernel
theorem d_La_law_281 : decode code 281 = .ok (.iload 5, 2) := by decide +kernel
theorem d_La_law_283 : decode code 283 = .ok (.if_icmp .eq 5, 3) := by decide +kernel
theorem d_La_law_286 : decode code 286 = .ok (.iconst 0, 1) := by decide +kernel
theorem d_La_law_287 : decode code 287 = .ok (.ireturn, 1) := by decide +kernel
theorem d_La_law_288 : decode code 288 = .ok (.iload 5, 2) := by decide +kernel
theorem d_La_law_290 : decode code 290 = .ok (.ifCond .ne 15, 3) := by decide +kernel
theorem d_La_law_293 : decode code 293 = .ok (.aload_n 3, 1) := by decide +kernel
theorem d_La_law_294 : decode code 294 = .ok (.iconst 0, 1) := by decide +kernel
theorem d_La_law_295 : decode code 295 = .ok (.laload, 1) := by decide +kernel
theorem d_La_law_296 : decode code 296 = .ok (.iload 6, 2) := by decide +kernel
theorem d_La_law_298 : decode code 298 = .ok (.i2l, 1) := by decide +kernel
theorem d_La_law_299 : decode code 299 = .ok (.lcmp, 1) := by decide +kernel
theorem d_La_law_300 : decode code 300 = .ok (.ifCond .eq 5, 3) := by decide +kernel
theorem d_La_law_303 : decode code 303 = .ok (.iconst 0, 1) := by decide +kernel
theorem d_La_law_304 : decode code 304 = .ok (.ireturn, 1) := by decide +kernel
theorem d_La_law_305 : decode code 305 = .ok (.goto 762, 3) := by decide +kernel
theorem d_La_law_308 : decode code 308 = .ok (.aload_n 1, 1) := by decide +kernel
theorem d_La_law_309 : decode code 309 = .ok (.aload_n 0, 1) := by decide +kernel
theorem d_La_law_310 : decode code 310 = .ok (.iload 4, 2) := by decide +kernel
theorem d_La_law_312 : decode code 312 = .ok (.iconst 1, 1) := by decide +kernel
theorem d_La_law_313 : decode code 313 = .ok (.iadd, 1) := by decide +kernel
theorem d_La_law_314 : decode code 314 = .ok (.iaload, 1) := by decide +kernel
theorem d_La_law_315 : decode code 315 = .ok (.aload_n 0, 1) := by decide +kernel
theorem d_La_law_316 : decode code 316 = .ok (.iload 4, 2) := by decide +kernel
theorem d_La_law_318 : decode code 318 = .ok (.iconst 2, 1) := by decide +kernel
theorem d_La_law_319 : decode code 319 = .ok (.iadd, 1) := by decide +kernel
theorem d_La_law_320 : decode code 320 = .ok (.iaload, 1) := by decide +kernel
theorem d_La_law_321 : decode code 321 = .ok (.aload_n 3, 1) := by decide +kernel
theorem d_La_law_322 : decode code 322 = .ok (.invokestatic 80, 3) := by decide +kernel
theorem d_La_law_325 : decode code 325 = .ok (.istore 5, 2) := by decide +kernel
theorem d_La_law_327 : decode code 327 = .ok (.aload_n 2, 1) := by decide +kernel
theorem d_La_law_328 : decode code 328 = .ok (.aload_n 0, 1) := by decide +kernel
theorem d_La_law_329 : decode code 329 = .ok (.iload 4, 2) := by decide +kernel
theorem d_La_law_331 : decode code 331 = .ok (.iconst 1, 1) := by decide +kernel
theorem d_La_law_332 : decode code 332 = .ok (.iadd, 1) := by decide +kernel
theorem d_La_law_333 : decode code 333 = .ok (.iaload, 1) := by decide +kernel
theorem d_La_law_334 : decode code 334 = .ok (.aload_n 0, 1) := by decide +kernel
theorem d_La_law_335 : decode code 335 = .ok (.iload 4, 2) := by decide +kernel
theorem d_La_law_337 : decode code 337 = .ok (.iconst 2, 1) := by decide +kernel
theorem d_La_law_338 : decode code 338 = .ok (.iadd, 1) := by decide +kernel
theorem d_La_law_339 : decode code 339 = .ok (.iaload, 1) := by decide +kernel
theorem d_La_law_340 : decode code 340 = .ok (.invokevirtual 83, 3) := by decide +kernel
theorem d_La_law_343 : decode code 343 = .ok (.istore 6, 2) := by decide +kernel
theorem d_La_law_345 : decode code 345 = .ok (.aload_n 2, 1) := by decide +kernel
theorem d_La_law_346 : decode code 346 = .ok (.invokevirtual 68, 3) := by decide +kernel
theorem d_La_law_349 : decode code 349 = .ok (.iload 5, 2) := by decide +kernel
theorem d_La_law_351 : decode code 351 = .ok (.if_icmp .eq 5, 3) := by decide +kernel
theorem d_La_law_354 : decode code 354 = .ok (.iconst 0, 1) := by decide +kernel
theorem d_La_law_355 : decode code 355 = .ok (.ireturn, 1) := by decide +kernel
theorem d_La_law_356 : decode code 356 = .ok (.iload 5, 2) := by decide +kernel
theorem d_La_law_358 : decode code 358 = .ok (.ifCond .ne 15, 3) := by decide +kernel
theorem d_La_law_361 : decode code 361 = .ok (.aload_n 3, 1) := by decide +kernel
theorem d_La_law_362 : decode code 362 = .ok (.iconst 0, 1) := by decide +kernel
theorem d_La_law_363 : decode code 363 = .ok (.laload, 1) := by decide +kernel
theorem d_La_law_364 : decode code 364 = .ok (.iload 6, 2) := by decide +kernel
theorem d_La_law_366 : decode code 366 = .ok (.i2l, 1) := by decide +kernel
theorem d_La_law_367 : decode code 367 = .ok (.lcmp, 1) := by decide +kernel
theorem d_La_law_368 : decode code 368 = .ok (.ifCond .eq 5, 3) := by decide +kernel
theorem d_La_law_371 : decode code 371 = .ok (.iconst 0, 1) := by decide +kernel
theorem d_La_law_372 : decode code 372 = .ok (.ireturn, 1) := by decide +kernel
theorem d_La_law_373 : decode code 373 = .ok (.goto 694, 3) := by decide +kernel
theorem d_La_law_376 : decode code 376 = .ok (.aload_n 1, 1) := by decide +kernel
theorem d_La_law_377 : decode code 377 = .ok (.aload_n 0, 1) := by decide +kernel
theorem d_La_law_378 : decode code 378 = .ok (.iload 4, 2) := by decide +kernel
theorem d_La_law_380 : decode code 380 = .ok (.iconst 1, 1) := by decide +kernel
theorem d_La_law_381 : decode code 381 = .ok (.iadd, 1) := by decide +kernel
theorem d_La_law_382 : decode code 382 = .ok (.iaload, 1) := by decide +kernel
theorem d_La_law_383 : decode code 383 = .ok (.aload_n 0, 1) := by decide +kernel
theorem d_La_law_384 : decode code 384 = .ok (.iload 4, 2) := by decide +kernel
theorem d_La_law_386 : decode code 386 = .ok (.iconst 2, 1) := by decide +kernel
theorem d_La_law_387 : decode code 387 = .ok (.iadd, 1) := by decide +kernel
theorem d_La_law_388 : decode code 388 = .ok (.iaload, 1) := by decide +kernel
theorem d_La_law_389 : decode code 389 = .ok (.aload_n 3, 1) := by decide +kernel
theorem d_La_law_390 : decode code 390 = .ok (.invokestatic 84, 3) := by decide +kernel
theorem d_La_law_393 : decode code 393 = .ok (.istore 5, 2) := by decide +kernel
theorem d_La_law_395 : decode code 395 = .ok (.aload_n 2, 1) := by decide +kernel
theorem d_La_law_396 : decode code 396 = .ok (.aload_n 0, 1) := by decide +kernel
theorem d_La_law_397 : decode code 397 = .ok (.iload 4, 2) := by decide +kernel
theorem d_La_law_399 : decode code 399 = .ok (.iconst 1, 1) := by decide +kernel
theorem d_La_law_400 : decode code 400 = .ok (.iadd, 1) := by decide +kernel
theorem d_La_law_401 : decode code 401 = .ok (.iaload, 1) := by decide +kernel
theorem d_La_law_402 : decode code 402 = .ok (.aload_n 0, 1) := by decide +kernel
theorem d_La_law_403 : decode code 403 = .ok (.iload 4, 2) := by decide +kernel
theorem d_La_law_405 : decode code 405 = .ok (.iconst 2, 1) := by decide +kernel
theorem d_La_law_406 : decode code 406 = .ok (.iadd, 1) := by decide +kernel
theorem d_La_law_407 : decode code 407 = .ok (.iaload, 1) := by decide +kernel
theorem d_La_law_408 : decode code 408 = .ok (.invokevirtual 86, 3) := by decide +kernel
theorem d_La_law_411 : decode code 411 = .ok (.istore 6, 2) := by decide +kernel
theorem d_La_law_413 : decode code 413 = .ok (.aload_n 2, 1) := by decide +kernel
theorem d_La_law_414 : decode code 414 = .ok (.invokevirtual 68, 3) := by decide +kernel
theorem d_La_law_417 : decode code 417 = .ok (.iload 5, 2) := by decide +kernel
theorem d_La_law_419 : decode code 419 = .ok (.if_icmp .eq 5, 3) := by decide +kernel
theorem d_La_law_422 : decode code 422 = .ok (.iconst 0, 1) := by decide +kernel
theorem d_La_law_423 : decode code 423 = .ok (.ireturn, 1) := by decide +kernel
theorem d_La_law_424 : decode code 424 = .ok (.iload 5, 2) := by decide +kernel
theorem d_La_law_426 : decode code 426 = .ok (.ifCond .ne 15, 3) := by decide +kernel
theorem d_La_law_429 : decode code 429 = .ok (.aload_n 3, 1) := by decide +kernel
theorem d_La_law_430 : decode code 430 = .ok (.iconst 0, 1) := by decide +kernel
theorem d_La_law_431 : decode code 431 = .ok (.laload, 1) := by decide +kernel
theorem d_La_law_432 : decode code 432 = .ok (.iload 6, 2) := by decide +kernel
theorem d_La_law_434 : decode code 434 = .ok (.i2l, 1) := by decide +kernel
theorem d_La_law_435 : decode code 435 = .ok (.lcmp, 1) := by decide +kernel
theorem d_La_law_436 : decode code 436 = .ok (.ifCond .eq 5, 3) := by decide +kernel
theorem d_La_law_439 : decode code 439 = .ok (.iconst 0, 1) := by decide +kernel
theorem d_La_law_440 : decode code 440 = .ok (.ireturn, 1) := by decide +kernel
theorem d_La_law_441 : decode code 441 = .ok (.goto 626, 3) := by decide +kernel
theorem d_La_law_444 : decode code 444 = .ok (.aload_n 1, 1) := by decide +kernel
theorem d_La_law_445 : decode code 445 = .ok (.aload_n 0, 1) := by decide +kernel
theorem d_La_law_446 : decode code 446 = .ok (.iload 4, 2) := by decide +kernel
theorem d_La_law_448 : decode code 448 = .ok (.iconst 1, 1) := by decide +kernel
theorem d_La_law_449 : decode code 449 = .ok (.iadd, 1) := by decide +kernel
theorem d_La_law_450 : decode code 450 = .ok (.iaload, 1) := by decide +kernel
theorem d_La_law_451 : decode code 451 = .ok (.ifCond .eq 7, 3) := by decide +kernel
theorem d_La_law_454 : decode code 454 = .ok (.iconst 1, 1) := by decide +kernel
theorem d_La_law_455 : decode code 455 = .ok (.goto 4, 3) := by decide +kernel
theorem d_La_law_458 : decode code 458 = .ok (.iconst 0, 1) := by decide +kernel
theorem d_La_law_459 : decode code 459 = .ok (.invokevirtual 87, 3) := by decide +kernel
theorem d_La_law_462 : decode code 462 = .ok (.aload_n 2, 1) := by decide +kernel
theorem d_La_law_463 : decode code 463 = .ok (.aload_n 0, 1) := by decide +kernel
theorem d_La_law_464 : decode code 464 = .ok (.iload 4, 2) := by decide +kernel
theorem d_La_law_466 : decode code 466 = .ok (.iconst 1, 1) := by decide +kernel
theorem d_La_law_467 : decode code 467 = .ok (.iadd, 1) := by decide +kernel
theorem d_La_law_468 : decode code 468 = .ok (.iaload, 1) := by decide +kernel
theorem d_La_law_469 : decode code 469 = .ok (.ifCond .eq 7, 3) := by decide +kernel
theorem d_La_law_472 : decode code 472 = .ok (.iconst 1, 1) := by decide +kernel
theorem d_La_law_473 : decode code 473 = .ok (.goto 4, 3) := by decide +kernel
theorem d_La_law_476 : decode code 476 = .ok (.iconst 0, 1) := by decide +kernel
theorem d_La_law_477 : decode code 477 = .ok (.invokevirtual 91, 3) := by decide +kernel
theorem d_La_law_480 : decode code 480 = .ok (.goto 587, 3) := by decide +kernel
theorem d_La_law_483 : decode code 483 = .ok (.aload_n 1, 1) := by decide +kernel
theorem d_La_law_484 : decode code 484 = .ok (.invokevirtual 92, 3) := by decide +kernel
theorem d_La_law_487 : decode code 487 = .ok (.aload_n 2, 1) := by decide +kernel
theorem d_La_law_488 : decode code 488 = .ok (.invokevirtual 95, 3) := by decide +kernel
theorem d_La_law_491 : decode code 491 = .ok (.if_icmp .eq 576, 3) := by decide +kernel
theorem d_La_law_494 : decode code 494 = .ok (.iconst 0, 1) := by decide +kernel
theorem d_La_law_495 : decode code 495 = .ok (.ireturn, 1) := by decide +kernel
theorem d_La_law_496 : decode code 496 = .ok (.aload_n 1, 1) := by decide +kernel
theorem d_La_law_497 : decode code 497 = .ok (.aload_n 0, 1) := by decide +kernel
theorem d_La_law_498 : decode code 498 = .ok (.iload 4, 2) := by decide +kernel
theorem d_La_law_500 : decode code 500 = .ok (.iconst 1, 1) := by decide +kernel
theorem d_La_law_501 : decode code 501 = .ok (.iadd, 1) := by decide +kernel
theorem d_La_law_502 : decode code 502 = .ok (.iaload, 1) := by decide +kernel
theorem d_La_law_503 : decode code 503 = .ok (.aload_n 3, 1) := by decide +kernel
theorem d_La_law_504 : decode code 504 = .ok (.invokestatic 96, 3) := by decide +kernel
theorem d_La_law_507 : decode code 507 = .ok (.istore 5, 2) := by decide +kernel
theorem d_La_law_509 : decode code 509 = .ok (.aload_n 2, 1) := by decide +kernel
theorem d_La_law_510 : decode code 510 = .ok (.aload_n 0, 1) := by decide +kernel
theorem d_La_law_511 : decode code 511 = .ok (.iload 4, 2) := by decide +kernel
theorem d_La_law_513 : decode code 513 = .ok (.iconst 1, 1) := by decide +kernel
theorem d_La_law_514 : decode code 514 = .ok (.iadd, 1) := by decide +kernel
theorem d_La_law_515 : decode code 515 = .ok (.iaload, 1) := by decide +kernel
theorem d_La_law_516 : decode code 516 = .ok (.invokevirtual 98, 3) := by decide +kernel
theorem d_La_law_519 : decode code 519 = .ok (.istore 6, 2) := by decide +kernel
theorem d_La_law_521 : decode code 521 = .ok (.aload_n 2, 1) := by decide +kernel
theorem d_La_law_522 : decode code 522 = .ok (.invokevirtual 68, 3) := by decide +kernel
theorem d_La_law_525 : decode code 525 = .ok (.iload 5, 2) := by decide +kernel
theorem d_La_law_527 : decode code 527 = .ok (.if_icmp .eq 5, 3) := by decide +kernel
theorem d_La_law_530 : decode code 530 = .ok (.iconst 0, 1) := by decide +kernel
theorem d_La_law_531 : decode code 531 = .ok (.ireturn, 1) := by decide +kernel
theorem d_La_law_532 : decode code 532 = .ok (.iload 5, 2) := by decide +kernel
theorem d_La_law_534 : decode code 534 = .ok (.ifCond .ne 15, 3) := by decide +kernel
theorem d_La_law_537 : decode code 537 = .ok (.aload_n 3, 1) := by decide +kernel
theorem d_La_law_538 : decode code 538 = .ok (.iconst 0, 1) := by decide +kernel
theorem d_La_law_539 : decode code 539 = .ok (.laload, 1) := by decide +kernel
theorem d_La_law_540 : decode code 540 = .ok (.iload 6, 2) := by decide +kernel
theorem d_La_law_542 : decode code 542 = .ok (.i2l, 1) := by decide +kernel
theorem d_La_law_543 : decode code 543 = .ok (.lcmp, 1) := by decide +kernel
theorem d_La_law_544 : decode code 544 = .ok (.ifCond .eq 5, 3) := by decide +kernel
theorem d_La_law_547 : decode code 547 = .ok (.iconst 0, 1) := by decide +kernel
theorem d_La_law_548 : decode code 548 = .ok (.ireturn, 1) := by decide +kernel
theorem d_La_law_549 : decode code 549 = .ok (.goto 518, 3) := by decide +kernel
theorem d_La_law_552 : decode code 552 = .ok (.aload_n 1, 1) := by decide +kernel
theorem d_La_law_553 : decode code 553 = .ok (.aload_n 0, 1) := by decide +kernel
theorem d_La_law_554 : decode code 554 = .ok (.iload 4, 2) := by decide +kernel
theorem d_La_law_556 : decode code 556 = .ok (.iconst 1, 1) := by decide +kernel
theorem d_La_law_557 : decode code 557 = .ok (.iadd, 1) := by decide +kernel
theorem d_La_law_558 : decode code 558 = .ok (.iaload, 1) := by decide +kernel
theorem d_La_law_559 : decode code 559 = .ok (.aload_n 0, 1) := by decide +kernel
theorem d_La_law_560 : decode code 560 = .ok (.iload 4, 2) := by decide +kernel
theorem d_La_law_562 : decode code 562 = .ok (.iconst 2, 1) := by decide +kernel
theorem d_La_law_563 : decode code 563 = .ok (.iadd, 1) := by decide +kernel
theorem d_La_law_564 : decode code 564 = .ok (.iaload, 1) := by decide +kernel
theorem d_La_law_565 : decode code 565 = .ok (.aload_n 0, 1) := by decide +kernel
theorem d_La_law_566 : decode code 566 = .ok (.iload 4, 2) := by decide +kernel
theorem d_La_law_568 : decode code 568 = .ok (.iconst 3, 1) := by decide +kernel
theorem d_La_law_569 : decode code 569 = .ok (.iadd, 1) := by decide +kernel
theorem d_La_law_570 : decode code 570 = .ok (.iaload, 1) := by decide +kernel
theorem d_La_law_571 : decode code 571 = .ok (.aload_n 3, 1) := by decide +kernel
theorem d_La_law_572 : decode code 572 = .ok (.invokestatic 99, 3) := by decide +kernel
theorem d_La_law_575 : decode code 575 = .ok (.istore 5, 2) := by decide +kernel
theorem d_La_law_577 : decode code 577 = .ok (.aload_n 2, 1) := by decide +kernel
theorem d_La_law_578 : decode code 578 = .ok (.aload_n 0, 1) := by decide +kernel
theorem d_La_law_579 : decode code 579 = .ok (.iload 4, 2) := by decide +kernel
theorem d_La_law_581 : decode code 581 = .ok (.iconst 1, 1) := by decide +kernel
theorem d_La_law_582 : decode code 582 = .ok (.iadd, 1) := by decide +kernel
theorem d_La_law_583 : decode code 583 = .ok (.iaload, 1) := by decide +kernel
theorem d_La_law_584 : decode code 584 = .ok (.aload_n 0, 1) := by decide +kernel
theorem d_La_law_585 : decode code 585 = .ok (.iload 4, 2) := by decide +kernel
theorem d_La_law_587 : decode code 587 = .ok (.iconst 2, 1) := by decide +kernel
theorem d_La_law_588 : decode code 588 = .ok (.iadd, 1) := by decide +kernel
theorem d_La_law_589 : decode code 589 = .ok (.iaload, 1) := by decide +kernel
theorem d_La_law_590 : decode code 590 = .ok (.aload_n 0, 1) := by decide +kernel
theorem d_La_law_591 : decode code 591 = .ok (.iload 4, 2) := by decide +kernel
theorem d_La_law_593 : decode code 593 = .ok (.iconst 3, 1) := by decide +kernel
theorem d_La_law_594 : decode code 594 = .ok (.iadd, 1) := by decide +kernel
theorem d_La_law_595 : decode code 595 = .ok (.iaload, 1) := by decide +kernel
theorem d_La_law_596 : decode code 596 = .ok (.invokevirtual 101, 3) := by decide +kernel
theorem d_La_law_599 : decode code 599 = .ok (.istore 6, 2) := by decide +kernel
theorem d_La_law_601 : decode code 601 = .ok (.aload_n 2, 1) := by decide +kernel
theorem d_La_law_602 : decode code 602 = .ok (.invokevirtual 68, 3) := by decide +kernel
theorem d_La_law_605 : decode code 605 = .ok (.iload 5, 2) := by decide +kernel
theorem d_La_law_607 : decode code 607 = .ok (.if_icmp .eq 5, 3) := by decide +kernel
theorem d_La_law_610 : decode code 610 = .ok (.iconst 0, 1) := by decide +kernel
theorem d_La_law_611 : decode code 611 = .ok (.ireturn, 1) := by decide +kernel
theorem d_La_law_612 : decode code 612 = .ok (.iload 5, 2) := by decide +kernel
theorem d_La_law_614 : decode code 614 = .ok (.ifCond .ne 15, 3) := by decide +kernel
theorem d_La_law_617 : decode code 617 = .ok (.aload_n 3, 1) := by decide +kernel
theorem d_La_law_618 : decode code 618 = .ok (.iconst 0, 1) := by decide +kernel
theorem d_La_law_619 : decode code 619 = .ok (.laload, 1) := by decide +kernel
theorem d_La_law_620 : decode code 620 = .ok (.iload 6, 2) := by decide +kernel
theorem d_La_law_622 : decode code 622 = .ok (.i2l, 1) := by decide +kernel
theorem d_La_law_623 : decode code 623 = .ok (.lcmp, 1) := by decide +kernel
theorem d_La_law_624 : decode code 624 = .ok (.ifCond .eq 5, 3) := by decide +kernel
theorem d_La_law_627 : decode code 627 = .ok (.iconst 0, 1) := by decide +kernel
theorem d_La_law_628 : decode code 628 = .ok (.ireturn, 1) := by decide +kernel
theorem d_La_law_629 : decode code 629 = .ok (.goto 438, 3) := by decide +kernel
theorem d_La_law_632 : decode code 632 = .ok (.aload_n 1, 1) := by decide +kernel
theorem d_La_law_633 : decode code 633 = .ok (.aload_n 0, 1) := by decide +kernel
theorem d_La_law_634 : decode code 634 = .ok (.iload 4, 2) := by decide +kernel
theorem d_La_law_636 : decode code 636 = .ok (.iconst 1, 1) := by decide +kernel
theorem d_La_law_637 : decode code 637 = .ok (.iadd, 1) := by decide +kernel
theorem d_La_law_638 : decode code 638 = .ok (.iaload, 1) := by decide +kernel
theorem d_La_law_639 : decode code 639 = .ok (.aload_n 0, 1) := by decide +kernel
theorem d_La_law_640 : decode code 640 = .ok (.iload 4, 2) := by decide +kernel
theorem d_La_law_642 : decode code 642 = .ok (.iconst 2, 1) := by decide +kernel
theorem d_La_law_643 : decode code 643 = .ok (.iadd, 1) := by decide +kernel
theorem d_La_law_644 : decode code 644 = .ok (.iaload, 1) := by decide +kernel
theorem d_La_law_645 : decode code 645 = .ok (.aload_n 3, 1) := by decide +kernel
theorem d_La_law_646 : decode code 646 = .ok (.invokestatic 102, 3) := by decide +kernel
theorem d_La_law_649 : decode code 649 = .ok (.istore 5, 2) := by decide +kernel
theorem d_La_law_651 : decode code 651 = .ok (.aload_n 2, 1) := by decide +kernel
theorem d_La_law_652 : decode code 652 = .ok (.aload_n 0, 1) := by decide +kernel
theorem d_La_law_653 : decode code 653 = .ok (.iload 4, 2) := by decide +kernel
theorem d_La_law_655 : decode code 655 = .ok (.iconst 1, 1) := by decide +kernel
theorem d_La_law_656 : decode code 656 = .ok (.iadd, 1) := by decide +kernel
theorem d_La_law_657 : decode code 657 = .ok (.iaload, 1) := by decide +kernel
theorem d_La_law_658 : decode code 658 = .ok (.aload_n 0, 1) := by decide +kernel
theorem d_La_law_659 : decode code 659 = .ok (.iload 4, 2) := by decide +kernel
theorem d_La_law_661 : decode code 661 = .ok (.iconst 2, 1) := by decide +kernel
theorem d_La_law_662 : decode code 662 = .ok (.iadd, 1) := by decide +kernel
theorem d_La_law_663 : decode code 663 = .ok (.iaload, 1) := by decide +kernel
theorem d_La_law_664 : decode code 664 = .ok (.invokevirtual 104, 3) := by decide +kernel
theorem d_La_law_667 : decode code 667 = .ok (.istore 6, 2) := by decide +kernel
theorem d_La_law_669 : decode code 669 = .ok (.aload_n 2, 1) := by decide +kernel
theorem d_La_law_670 : decode code 670 = .ok (.invokevirtual 68, 3) := by decide +kernel
theorem d_La_law_673 : decode code 673 = .ok (.iload 5, 2) := by decide +kernel
theorem d_La_law_675 : decode code 675 = .ok (.if_icmp .eq 5, 3) := by decide +kernel
theorem d_La_law_678 : decode code 678 = .ok (.iconst 0, 1) := by decide +kernel
theorem d_La_law_679 : decode code 679 = .ok (.ireturn, 1) := by decide +kernel
theorem d_La_law_680 : decode code 680 = .ok (.iload 5, 2) := by decide +kernel
theorem d_La_law_682 : decode code 682 = .ok (.ifCond .ne 15, 3) := by decide +kernel
theorem d_La_law_685 : decode code 685 = .ok (.aload_n 3, 1) := by decide +kernel
theorem d_La_law_686 : decode code 686 = .ok (.iconst 0, 1) := by decide +kernel
theorem d_La_law_687 : decode code 687 = .ok (.laload, 1) := by decide +kernel
theorem d_La_law_688 : decode code 688 = .ok (.iload 6, 2) := by decide +kernel
theorem d_La_law_690 : decode code 690 = .ok (.i2l, 1) := by decide +kernel
theorem d_La_law_691 : decode code 691 = .ok (.lcmp, 1) := by decide +kernel
theorem d_La_law_692 : decode code 692 = .ok (.ifCond .eq 5, 3) := by decide +kernel
theorem d_La_law_695 : decode code 695 = .ok (.iconst 0, 1) := by decide +kernel
theorem d_La_law_696 : decode code 696 = .ok (.ireturn, 1) := by decide +kernel
theorem d_La_law_697 : decode code 697 = .ok (.goto 370, 3) := by decide +kernel
theorem d_La_law_700 : decode code 700 = .ok (.aload_n 1, 1) := by decide +kernel
theorem d_La_law_701 : decode code 701 = .ok (.aload_n 0, 1) := by decide +kernel
theorem d_La_law_702 : decode code 702 = .ok (.iload 4, 2) := by decide +kernel
theorem d_La_law_704 : decode code 704 = .ok (.iconst 1, 1) := by decide +kernel
theorem d_La_law_705 : decode code 705 = .ok (.iadd, 1) := by decide +kernel
theorem d_La_law_706 : decode code 706 = .ok (.iaload, 1) := by decide +kernel
theorem d_La_law_707 : decode code 707 = .ok (.aload_n 0, 1) := by decide +kernel
theorem d_La_law_708 : decode code 708 = .ok (.iload 4, 2) := by decide +kernel
theorem d_La_law_710 : decode code 710 = .ok (.iconst 2, 1) := by decide +kernel
theorem d_La_law_711 : decode code 711 = .ok (.iadd, 1) := by decide +kernel
theorem d_La_law_712 : decode code 712 = .ok (.iaload, 1) := by decide +kernel
theorem d_La_law_713 : decode code 713 = .ok (.aload_n 0, 1) := by decide +kernel
theorem d_La_law_714 : decode code 714 = .ok (.iload 4, 2) := by decide +kernel
theorem d_La_law_716 : decode code 716 = .ok (.iconst 3, 1) := by decide +kernel
theorem d_La_law_717 : decode code 717 = .ok (.iadd, 1) := by decide +kernel
theorem d_La_law_718 : decode code 718 = .ok (.iaload, 1) := by decide +kernel
theorem d_La_law_719 : decode code 719 = .ok (.aload_n 3, 1) := by decide +kernel
theorem d_La_law_720 : decode code 720 = .ok (.invokestatic 105, 3) := by decide +kernel
theorem d_La_law_723 : decode code 723 = .ok (.istore 5, 2) := by decide +kernel
theorem d_La_law_725 : decode code 725 = .ok (.aload_n 2, 1) := by decide +kernel
theorem d_La_law_726 : decode code 726 = .ok (.aload_n 0, 1) := by decide +kernel
theorem d_La_law_727 : decode code 727 = .ok (.iload 4, 2) := by decide +kernel
theorem d_La_law_729 : decode code 729 = .ok (.iconst 1, 1) := by decide +kernel
theorem d_La_law_730 : decode code 730 = .ok (.iadd, 1) := by decide +kernel
theorem d_La_law_731 : decode code 731 = .ok (.iaload, 1) := by decide +kernel
theorem d_La_law_732 : decode code 732 = .ok (.aload_n 0, 1) := by decide +kernel
theorem d_La_law_733 : decode code 733 = .ok (.iload 4, 2) := by decide +kernel
theorem d_La_law_735 : decode code 735 = .ok (.iconst 2, 1) := by decide +kernel
theorem d_La_law_736 : decode code 736 = .ok (.iadd, 1) := by decide +kernel
theorem d_La_law_737 : decode code 737 = .ok (.iaload, 1) := by decide +kernel
theorem d_La_law_738 : decode code 738 = .ok (.aload_n 0, 1) := by decide +kernel
theorem d_La_law_739 : decode code 739 = .ok (.iload 4, 2) := by decide +kernel
theorem d_La_law_741 : decode code 741 = .ok (.iconst 3, 1) := by decide +kernel
theorem d_La_law_742 : decode code 742 = .ok (.iadd, 1) := by decide +kernel
theorem d_La_law_743 : decode code 743 = .ok (.iaload, 1) := by decide +kernel
theorem d_La_law_744 : decode code 744 = .ok (.invokevirtual 107, 3) := by decide +kernel
theorem d_La_law_747 : decode code 747 = .ok (.istore 6, 2) := by decide +kernel
theorem d_La_law_749 : decode code 749 = .ok (.aload_n 2, 1) := by decide +kernel
theorem d_La_law_750 : decode code 750 = .ok (.invokevirtual 68, 3) := by decide +kernel
theorem d_La_law_753 : decode code 753 = .ok (.iload 5, 2) := by decide +kernel
theorem d_La_law_755 : decode code 755 = .ok (.if_icmp .eq 5, 3) := by decide +kernel
theorem d_La_law_758 : decode code 758 = .ok (.iconst 0, 1) := by decide +kernel
theorem d_La_law_759 : decode code 759 = .ok (.ireturn, 1) := by decide +kernel
theorem d_La_law_760 : decode code 760 = .ok (.iload 5, 2) := by decide +kernel
theorem d_La_law_762 : decode code 762 = .ok (.ifCond .ne 15, 3) := by decide +kernel
theorem d_La_law_765 : decode code 765 = .ok (.aload_n 3, 1) := by decide +kernel
theorem d_La_law_766 : decode code 766 = .ok (.iconst 0, 1) := by decide +kernel
theorem d_La_law_767 : decode code 767 = .ok (.laload, 1) := by decide +kernel
theorem d_La_law_768 : decode code 768 = .ok (.iload 6, 2) := by decide +kernel
theorem d_La_law_770 : decode code 770 = .ok (.i2l, 1) := by decide +kernel
theorem d_La_law_771 : decode code 771 = .ok (.lcmp, 1) := by decide +kernel
theorem d_La_law_772 : decode code 772 = .ok (.ifCond .eq 5, 3) := by decide +kernel
theorem d_La_law_775 : decode code 775 = .ok (.iconst 0, 1) := by decide +kernel
theorem d_La_law_776 : decode code 776 = .ok (.ireturn, 1) := by decide +kernel
theorem d_La_law_777 : decode code 777 = .ok (.goto 290, 3) := by decide +kernel
theorem d_La_law_780 : decode code 780 = .ok (.aload_n 1, 1) := by decide +kernel
theorem d_La_law_781 : decode code 781 = .ok (.aload_n 0, 1) := by decide +kernel
theorem d_La_law_782 : decode code 782 = .ok (.iload 4, 2) := by decide +kernel
theorem d_La_law_784 : decode code 784 = .ok (.iconst 1, 1) := by decide +kernel
theorem d_La_law_785 : decode code 785 = .ok (.iadd, 1) := by decide +kernel
theorem d_La_law_786 : decode code 786 = .ok (.iaload, 1) := by decide +kernel
theorem d_La_law_787 : decode code 787 = .ok (.aload_n 0, 1) := by decide +kernel
theorem d_La_law_788 : decode code 788 = .ok (.iload 4, 2) := by decide +kernel
theorem d_La_law_790 : decode code 790 = .ok (.iconst 2, 1) := by decide +kernel
theorem d_La_law_791 : decode code 791 = .ok (.iadd, 1) := by decide +kernel
theorem d_La_law_792 : decode code 792 = .ok (.iaload, 1) := by decide +kernel
theorem d_La_law_793 : decode code 793 = .ok (.aload_n 3, 1) := by decide +kernel
theorem d_La_law_794 : decode code 794 = .ok (.invokestatic 108, 3) := by decide +kernel
theorem d_La_law_797 : decode code 797 = .ok (.istore 5, 2) := by decide +kernel
theorem d_La_law_799 : decode code 799 = .ok (.aload_n 2, 1) := by decide +kernel
theorem d_La_law_800 : decode code 800 = .ok (.aload_n 0, 1) := by decide +kernel
theorem d_La_law_801 : decode code 801 = .ok (.iload 4, 2) := by decide +kernel
theorem d_La_law_803 : decode code 803 = .ok (.iconst 1, 1) := by decide +kernel
theorem d_La_law_804 : decode code 804 = .ok (.iadd, 1) := by decide +kernel
theorem d_La_law_805 : decode code 805 = .ok (.iaload, 1) := by decide +kernel
theorem d_La_law_806 : decode code 806 = .ok (.aload_n 0, 1) := by decide +kernel
theorem d_La_law_807 : decode code 807 = .ok (.iload 4, 2) := by decide +kernel
theorem d_La_law_809 : decode code 809 = .ok (.iconst 2, 1) := by decide +kernel
theorem d_La_law_810 : decode code 810 = .ok (.iadd, 1) := by decide +kernel
theorem d_La_law_811 : decode code 811 = .ok (.iaload, 1) := by decide +kernel
theorem d_La_law_812 : decode code 812 = .ok (.invokevirtual 110, 3) := by decide +kernel
theorem d_La_law_815 : decode code 815 = .ok (.istore 6, 2) := by decide +kernel
theorem d_La_law_817 : decode code 817 = .ok (.aload_n 2, 1) := by decide +kernel
theorem d_La_law_818 : decode code 818 = .ok (.invokevirtual 68, 3) := by decide +kernel
theorem d_La_law_821 : decode code 821 = .ok (.iload 5, 2) := by decide +kernel
theorem d_La_law_823 : decode code 823 = .ok (.if_icmp .eq 5, 3) := by decide +kernel
theorem d_La_law_826 : decode code 826 = .ok (.iconst 0, 1) := by decide +kernel
theorem d_La_law_827 : decode code 827 = .ok (.ireturn, 1) := by decide +kernel
theorem d_La_law_828 : decode code 828 = .ok (.iload 5, 2) := by decide +kernel
theorem d_La_law_830 : decode code 830 = .ok (.ifCond .ne 15, 3) := by decide +kernel
theorem d_La_law_833 : decode code 833 = .ok (.aload_n 3, 1) := by decide +kernel
theorem d_La_law_834 : decode code 834 = .ok (.iconst 0, 1) := by decide +kernel
theorem d_La_law_835 : decode code 835 = .ok (.laload, 1) := by decide +kernel
theorem d_La_law_836 : decode code 836 = .ok (.iload 6, 2) := by decide +kernel
theorem d_La_law_838 : decode code 838 = .ok (.i2l, 1) := by decide +kernel
theorem d_La_law_839 : decode code 839 = .ok (.lcmp, 1) := by decide +kernel
theorem d_La_law_840 : decode code 840 = .ok (.ifCond .eq 5, 3) := by decide +kernel
theorem d_La_law_843 : decode code 843 = .ok (.iconst 0, 1) := by decide +kernel
theorem d_La_law_844 : decode code 844 = .ok (.ireturn, 1) := by decide +kernel
theorem d_La_law_845 : decode code 845 = .ok (.goto 222, 3) := by decide +kernel
theorem d_La_law_848 : decode code 848 = .ok (.aload_n 1, 1) := by decide +kernel
theorem d_La_law_849 : decode code 849 = .ok (.aload_n 0, 1) := by decide +kernel
theorem d_La_law_850 : decode code 850 = .ok (.iload 4, 2) := by decide +kernel
theorem d_La_law_852 : decode code 852 = .ok (.iconst 1, 1) := by decide +kernel
theorem d_La_law_853 : decode code 853 = .ok (.iadd, 1) := by decide +kernel
theorem d_La_law_854 : decode code 854 = .ok (.iaload, 1) := by decide +kernel
theorem d_La_law_855 : decode code 855 = .ok (.aload_n 3, 1) := by decide +kernel
theorem d_La_law_856 : decode code 856 = .ok (.invokestatic 111, 3) := by decide +kernel
theorem d_La_law_859 : decode code 859 = .ok (.istore 5, 2) := by decide +kernel
theorem d_La_law_861 : decode code 861 = .ok (.aload_n 2, 1) := by decide +kernel
theorem d_La_law_862 : decode code 862 = .ok (.aload_n 0, 1) := by decide +kernel
theorem d_La_law_863 : decode code 863 = .ok (.iload 4, 2) := by decide +kernel
theorem d_La_law_865 : decode code 865 = .ok (.iconst 1, 1) := by decide +kernel
theorem d_La_law_866 : decode code 866 = .ok (.iadd, 1) := by decide +kernel
theorem d_La_law_867 : decode code 867 = .ok (.iaload, 1) := by decide +kernel
theorem d_La_law_868 : decode code 868 = .ok (.invokevirtual 113, 3) := by decide +kernel
theorem d_La_law_871 : decode code 871 = .ok (.istore 6, 2) := by decide +kernel
theorem d_La_law_873 : decode code 873 = .ok (.aload_n 2, 1) := by decide +kernel
theorem d_La_law_874 : decode code 874 = .ok (.invokevirtual 68, 3) := by decide +kernel
theorem d_La_law_877 : decode code 877 = .ok (.iload 5, 2) := by decide +kernel
theorem d_La_law_879 : decode code 879 = .ok (.if_icmp .eq 5, 3) := by decide +kernel
theorem d_La_law_882 : decode code 882 = .ok (.iconst 0, 1) := by decide +kernel
theorem d_La_law_883 : decode code 883 = .ok (.ireturn, 1) := by decide +kernel
theorem d_La_law_884 : decode code 884 = .ok (.iload 5, 2) := by decide +kernel
theorem d_La_law_886 : decode code 886 = .ok (.ifCond .ne 15, 3) := by decide +kernel
theorem d_La_law_889 : decode code 889 = .ok (.aload_n 3, 1) := by decide +kernel
theorem d_La_law_890 : decode code 890 = .ok (.iconst 0, 1) := by decide +kernel
theorem d_La_law_891 : decode code 891 = .ok (.laload, 1) := by decide +kernel
theorem d_La_law_892 : decode code 892 = .ok (.iload 6, 2) := by decide +kernel
theorem d_La_law_894 : decode code 894 = .ok (.i2l, 1) := by decide +kernel
theorem d_La_law_895 : decode code 895 = .ok (.lcmp, 1) := by decide +kernel
theorem d_La_law_896 : decode code 896 = .ok (.ifCond .eq 5, 3) := by decide +kernel
theorem d_La_law_899 : decode code 899 = .ok (.iconst 0, 1) := by decide +kernel
theorem d_La_law_900 : decode code 900 = .ok (.ireturn, 1) := by decide +kernel
theorem d_La_law_901 : decode code 901 = .ok (.goto 166, 3) := by decide +kernel
theorem d_La_law_904 : decode code 904 = .ok (.aload_n 1, 1) := by decide +kernel
theorem d_La_law_905 : decode code 905 = .ok (.aload_n 0, 1) := by decide +kernel
theorem d_La_law_906 : decode code 906 = .ok (.iload 4, 2) := by decide +kernel
theorem d_La_law_908 : decode code 908 = .ok (.iconst 1, 1) := by decide +kernel
theorem d_La_law_909 : decode code 909 = .ok (.iadd, 1) := by decide +kernel
theorem d_La_law_910 : decode code 910 = .ok (.iaload, 1) := by decide +kernel
theorem d_La_law_911 : decode code 911 = .ok (.aload_n 3, 1) := by decide +kernel
theorem d_La_law_912 : decode code 912 = .ok (.invokestatic 114, 3) := by decide +kernel
theorem d_La_law_915 : decode code 915 = .ok (.istore 5, 2) := by decide +kernel
theorem d_La_law_917 : decode code 917 = .ok (.aload_n 2, 1) := by decide +kernel
theorem d_La_law_918 : decode code 918 = .ok (.aload_n 0, 1) := by decide +kernel
theorem d_La_law_919 : decode code 919 = .ok (.iload 4, 2) := by decide +kernel
theorem d_La_law_921 : decode code 921 = .ok (.iconst 1, 1) := by decide +kernel
theorem d_La_law_922 : decode code 922 = .ok (.iadd, 1) := by decide +kernel
theorem d_La_law_923 : decode code 923 = .ok (.iaload, 1) := by decide +kernel
theorem d_La_law_924 : decode code 924 = .ok (.invokevirtual 116, 3) := by decide +kernel
theorem d_La_law_927 : decode code 927 = .ok (.istore 6, 2) := by decide +kernel
theorem d_La_law_929 : decode code 929 = .ok (.aload_n 2, 1) := by decide +kernel
theorem d_La_law_930 : decode code 930 = .ok (.invokevirtual 68, 3) := by decide +kernel
theorem d_La_law_933 : decode code 933 = .ok (.iload 5, 2) := by decide +kernel
theorem d_La_law_935 : decode code 935 = .ok (.if_icmp .eq 5, 3) := by decide +kernel
theorem d_La_law_938 : decode code 938 = .ok (.iconst 0, 1) := by decide +kernel
theorem d_La_law_939 : decode code 939 = .ok (.ireturn, 1) := by decide +kernel
theorem d_La_law_940 : decode code 940 = .ok (.iload 5, 2) := by decide +kernel
theorem d_La_law_942 : decode code 942 = .ok (.ifCond .ne 15, 3) := by decide +kernel
theorem d_La_law_945 : decode code 945 = .ok (.aload_n 3, 1) := by decide +kernel
theorem d_La_law_946 : decode code 946 = .ok (.iconst 0, 1) := by decide +kernel
theorem d_La_law_947 : decode code 947 = .ok (.laload, 1) := by decide +kernel
theorem d_La_law_948 : decode code 948 = .ok (.iload 6, 2) := by decide +kernel
theorem d_La_law_950 : decode code 950 = .ok (.i2l, 1) := by decide +kernel
theorem d_La_law_951 : decode code 951 = .ok (.lcmp, 1) := by decide +kernel
theorem d_La_law_952 : decode code 952 = .ok (.ifCond .eq 5, 3) := by decide +kernel
theorem d_La_law_955 : decode code 955 = .ok (.iconst 0, 1) := by decide +kernel
theorem d_La_law_956 : decode code 956 = .ok (.ireturn, 1) := by decide +kernel
theorem d_La_law_957 : decode code 957 = .ok (.goto 110, 3) := by decide +kernel
theorem d_La_law_960 : decode code 960 = .ok (.aload_n 1, 1) := by decide +kernel
theorem d_La_law_961 : decode code 961 = .ok (.aload_n 0, 1) := by decide +kernel
theorem d_La_law_962 : decode code 962 = .ok (.iload 4, 2) := by decide +kernel
theorem d_La_law_964 : decode code 964 = .ok (.iconst 1, 1) := by decide +kernel
theorem d_La_law_965 : decode code 965 = .ok (.iadd, 1) := by decide +kernel
theorem d_La_law_966 : decode code 966 = .ok (.iaload, 1) := by decide +kernel
theorem d_La_law_967 : decode code 967 = .ok (.aload_n 3, 1) := by decide +kernel
theorem d_La_law_968 : decode code 968 = .ok (.invokestatic 117, 3) := by decide +kernel
theorem d_La_law_971 : decode code 971 = .ok (.istore 5, 2) := by decide +kernel
theorem d_La_law_973 : decode code 973 = .ok (.aload_n 2, 1) := by decide +kernel
theorem d_La_law_974 : decode code 974 = .ok (.aload_n 0, 1) := by decide +kernel
theorem d_La_law_975 : decode code 975 = .ok (.iload 4, 2) := by decide +kernel
theorem d_La_law_977 : decode code 977 = .ok (.iconst 1, 1) := by decide +kernel
theorem d_La_law_978 : decode code 978 = .ok (.iadd, 1) := by decide +kernel
theorem d_La_law_979 : decode code 979 = .ok (.iaload, 1) := by decide +kernel
theorem d_La_law_980 : decode code 980 = .ok (.invokevirtual 119, 3) := by decide +kernel
theorem d_La_law_983 : decode code 983 = .ok (.istore 6, 2) := by decide +kernel
theorem d_La_law_985 : decode code 985 = .ok (.aload_n 2, 1) := by decide +kernel
theorem d_La_law_986 : decode code 986 = .ok (.invokevirtual 68, 3) := by decide +kernel
theorem d_La_law_989 : decode code 989 = .ok (.iload 5, 2) := by decide +kernel
theorem d_La_law_991 : decode code 991 = .ok (.if_icmp .eq 5, 3) := by decide +kernel
theorem d_La_law_994 : decode code 994 = .ok (.iconst 0, 1) := by decide +kernel
theorem d_La_law_995 : decode code 995 = .ok (.ireturn, 1) := by decide +kernel
theorem d_La_law_996 : decode code 996 = .ok (.iload 5, 2) := by decide +kernel
theorem d_La_law_998 : decode code 998 = .ok (.ifCond .ne 15, 3) := by decide +kernel
theorem d_La_law_1001 : decode code 1001 = .ok (.aload_n 3, 1) := by decide +kernel
theorem d_La_law_1002 : decode code 1002 = .ok (.iconst 0, 1) := by decide +kernel
theorem d_La_law_1003 : decode code 1003 = .ok (.laload, 1) := by decide +kernel
theorem d_La_law_1004 : decode code 1004 = .ok (.iload 6, 2) := by decide +kernel
theorem d_La_law_1006 : decode code 1006 = .ok (.i2l, 1) := by decide +kernel
theorem d_La_law_1007 : decode code 1007 = .ok (.lcmp, 1) := by decide +kernel
theorem d_La_law_1008 : decode code 1008 = .ok (.ifCond .eq 5, 3) := by decide +kernel
theorem d_La_law_1011 : decode code 1011 = .ok (.iconst 0, 1) := by decide +kernel
theorem d_La_law_1012 : decode code 1012 = .ok (.ireturn, 1) := by decide +kernel
theorem d_La_law_1013 : decode code 1013 = .ok (.goto 54, 3) := by decide +kernel
theorem d_La_law_1016 : decode code 1016 = .ok (.aload_n 1, 1) := by decide +kernel
theorem d_La_law_1017 : decode code 1017 = .ok (.invokevirtual 120, 3) := by decide +kernel
theorem d_La_law_1020 : decode code 1020 = .ok (.aload_n 2, 1) := by decide +kernel
theorem d_La_law_1021 : decode code 1021 = .ok (.invokevirtual 123, 3) := by decide +kernel
theorem d_La_law_1024 : decode code 1024 = .ok (.if_icmp .eq 43, 3) := by decide +kernel
theorem d_La_law_1027 : decode code 1027 = .ok (.iconst 0, 1) := by decide +kernel
theorem d_La_law_1028 : decode code 1028 = .ok (.ireturn, 1) := by decide +kernel
theorem d_La_law_1029 : decode code 1029 = .ok (.aload_n 1, 1) := by decide +kernel
theorem d_La_law_1030 : decode code 1030 = .ok (.invokevirtual 124, 3) := by decide +kernel
theorem d_La_law_1033 : decode code 1033 = .ok (.aload_n 2, 1) := by decide +kernel
theorem d_La_law_1034 : decode code 1034 = .ok (.invokevirtual 127, 3) := by decide +kernel
theorem d_La_law_1037 : decode code 1037 = .ok (.if_icmp .eq 30, 3) := by decide +kernel
theorem d_La_law_1040 : decode code 1040 = .ok (.iconst 0, 1) := by decide +kernel
theorem d_La_law_1041 : decode code 1041 = .ok (.ireturn, 1) := by decide +kernel
theorem d_La_law_1042 : decode code 1042 = .ok (.aload_n 1, 1) := by decide +kernel
theorem d_La_law_1043 : decode code 1043 = .ok (.aload_n 0, 1) := by decide +kernel
theorem d_La_law_1044 : decode code 1044 = .ok (.iload 4, 2) := by decide +kernel
theorem d_La_law_1046 : decode code 1046 = .ok (.iconst 1, 1) := by decide +kernel
theorem d_La_law_1047 : decode code 1047 = .ok (.iadd, 1) := by decide +kernel
theorem d_La_law_1048 : decode code 1048 = .ok (.iaload, 1) := by decide +kernel
theorem d_La_law_1049 : decode code 1049 = .ok (.invokevirtual 128, 3) := by decide +kernel
theorem d_La_law_1052 : decode code 1052 = .ok (.aload_n 2, 1) := by decide +kernel
theorem d_La_law_1053 : decode code 1053 = .ok (.aload_n 0, 1) := by decide +kernel
theorem d_La_law_1054 : decode code 1054 = .ok (.iload 4, 2) := by decide +kernel
theorem d_La_law_1056 : decode code 1056 = .ok (.iconst 1, 1) := by decide +kernel
theorem d_La_law_1057 : decode code 1057 = .ok (.iadd, 1) := by decide +kernel
theorem d_La_law_1058 : decode code 1058 = .ok (.iaload, 1) := by decide +kernel
theorem d_La_law_1059 : decode code 1059 = .ok (.invokevirtual 131, 3) := by decide +kernel
theorem d_La_law_1062 : decode code 1062 = .ok (.if_icmp .eq 5, 3) := by decide +kernel
theorem d_La_law_1065 : decode code 1065 = .ok (.iconst 0, 1) := by decide +kernel
theorem d_La_law_1066 : decode code 1066 = .ok (.ireturn, 1) := by decide +kernel
theorem d_La_law_1067 : decode code 1067 = .ok (.iinc 4 4, 3) := by decide +kernel
theorem d_La_law_1070 : decode code 1070 = .ok (.goto (-1047), 3) := by decide +kernel
theorem d_La_law_1073 : decode code 1073 = .ok (.iconst 1, 1) := by decide +kernel
theorem d_La_law_1074 : decode code 1074 = .ok (.ireturn, 1) := by decide +kernel
