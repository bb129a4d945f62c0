abbrev m_PG_init : ac_I := (⟨"PairedGates", "<init>", "()V"⟩, prog_1_method_1_code, 1, none, [])
theorem d_PG_init_0 : decode prog_1_method_1_code 0 = .ok (.aload_n 0, 1) := by decide +kernel
theorem d_PG_init_1 : decode prog_1_method_1_code 1 = .ok (.invokespecial 1, 3) := by decide +kernel
theorem d_PG_init_4 : decode prog_1_method_1_code 4 = .ok (.aload_n 0, 1) := by decide +kernel
theorem d_PG_init_5 : decode prog_1_method_1_code 5 = .ok (.iconst 2, 1) := by decide +kernel
theorem d_PG_init_6 : decode prog_1_method_1_code 6 = .ok (.anewarray 7, 3) := by decide +kernel
theorem d_PG_init_9 : decode prog_1_method_1_code 9 = .ok (.dup, 1) := by decide +kernel
theorem d_PG_init_10 : decode prog_1_method_1_code 10 = .ok (.iconst 0, 1) := by decide +kernel
theorem d_PG_init_11 : decode prog_1_method_1_code 11 = .ok (.new 7, 3) := by decide +kernel
theorem d_PG_init_14 : decode prog_1_method_1_code 14 = .ok (.dup, 1) := by decide +kernel
theorem d_PG_init_15 : decode prog_1_method_1_code 15 = .ok (.invokespecial 9, 3) := by decide +kernel
theorem d_PG_init_18 : decode prog_1_method_1_code 18 = .ok (.aastore, 1) := by decide +kernel
theorem d_PG_init_19 : decode prog_1_method_1_code 19 = .ok (.dup, 1) := by decide +kernel
theorem d_PG_init_20 : decode prog_1_method_1_code 20 = .ok (.iconst 1, 1) := by decide +kernel
theorem d_PG_init_21 : decode prog_1_method_1_code 21 = .ok (.new 7, 3) := by decide +kernel
theorem d_PG_init_24 : decode prog_1_method_1_code 24 = .ok (.dup, 1) := by decide +kernel
theorem d_PG_init_25 : decode prog_1_method_1_code 25 = .ok (.invokespecial 9, 3) := by decide +kernel
theorem d_PG_init_28 : decode prog_1_method_1_code 28 = .ok (.aastore, 1) := by decide +kernel
theorem d_PG_init_29 : decode prog_1_method_1_code 29 = .ok (.putfield 10, 3) := by decide +kernel
theorem d_PG_init_32 : decode prog_1_method_1_code 32 = .ok (.aload_n 0, 1) := by decide +kernel
theorem d_PG_init_33 : decode prog_1_method_1_code 33 = .ok (.new 16, 3) := by decide +kernel
theorem d_PG_init_36 : decode prog_1_method_1_code 36 = .ok (.dup, 1) := by decide +kernel
theorem d_PG_init_37 : decode prog_1_method_1_code 37 = .ok (.sipush 512, 3) := by decide +kernel
theorem d_PG_init_40 : decode prog_1_method_1_code 40 = .ok (.invokespecial 18, 3) := by decide +kernel
theorem d_PG_init_43 : decode prog_1_method_1_code 43 = .ok (.putfield 21, 3) := by decide +kernel
theorem d_PG_init_46 : decode prog_1_method_1_code 46 = .ok (.aload_n 0, 1) := by decide +kernel
theorem d_PG_init_47 : decode prog_1_method_1_code 47 = .ok (.new 25, 3) := by decide +kernel
theorem d_PG_init_50 : decode prog_1_method_1_code 50 = .ok (.dup, 1) := by decide +kernel
theorem d_PG_init_51 : decode prog_1_method_1_code 51 = .ok (.invokespecial 27, 3) := by decide +kernel
theorem d_PG_init_54 : decode prog_1_method_1_code 54 = .ok (.putfield 28, 3) := by decide +kernel
theorem d_PG_init_57 : decode prog_1_method_1_code 57 = .ok (.aload_n 0, 1) := by decide +kernel
theorem d_PG_init_58 : decode prog_1_method_1_code 58 = .ok (.iconst 0, 1) := by decide +kernel
theorem d_PG_init_59 : decode prog_1_method_1_code 59 = .ok (.putfield 32, 3) := by decide +kernel
theorem d_PG_init_62 : decode prog_1_method_1_code 62 = .ok (.aload_n 0, 1) := by decide +kernel
theorem d_PG_init_63 : decode prog_1_method_1_code 63 = .ok (.iconst 0, 1) := by decide +kernel
theorem d_PG_init_64 : decode prog_1_method_1_code 64 = .ok (.putfield 36, 3) := by decide +kernel
theorem d_PG_init_67 : decode prog_1_method_1_code 67 = .ok (.return_, 1) := by decide +kernel
abbrev m_PG_beams : ac_I := (⟨"PairedGates", "beams", "(II)V"⟩, prog_1_method_2_code, 3, none, [])
theorem d_PG_beams_0 : decode prog_1_method_2_code 0 = .ok (.aload_n 0, 1) := by decide +kernel
theorem d_PG_beams_1 : decode prog_1_method_2_code 1 = .ok (.iload_n 1, 1) := by decide +kernel
theorem d_PG_beams_2 : decode prog_1_method_2_code 2 = .ok (.invokevirtual 40, 3) := by decide +kernel
theorem d_PG_beams_5 : decode prog_1_method_2_code 5 = .ok (.getfield 44, 3) := by decide +kernel
theorem d_PG_beams_8 : decode prog_1_method_2_code 8 = .ok (.iload_n 2, 1) := by decide +kernel
theorem d_PG_beams_9 : decode prog_1_method_2_code 9 = .ok (.invokevirtual 48, 3) := by decide +kernel
theorem d_PG_beams_12 : decode prog_1_method_2_code 12 = .ok (.return_, 1) := by decide +kernel
abbrev m_PG_ticks : ac_I := (⟨"PairedGates", "ticks", "(I)I"⟩, prog_1_method_3_code, 5, (some (.int)), [])
theorem d_PG_ticks_0 : decode prog_1_method_3_code 0 = .ok (.iload_n 1, 1) := by decide +kernel
theorem d_PG_ticks_1 : decode prog_1_method_3_code 1 = .ok (.iconst 1, 1) := by decide +kernel
theorem d_PG_ticks_2 : decode prog_1_method_3_code 2 = .ok (.if_icmp .lt 10, 3) := by decide +kernel
theorem d_PG_ticks_5 : decode prog_1_method_3_code 5 = .ok (.iload_n 1, 1) := by decide +kernel
theorem d_PG_ticks_6 : decode prog_1_method_3_code 6 = .ok (.sipush 300, 3) := by decide +kernel
theorem d_PG_ticks_9 : decode prog_1_method_3_code 9 = .ok (.if_icmp .le 13, 3) := by decide +kernel
theorem d_PG_ticks_12 : decode prog_1_method_3_code 12 = .ok (.new 53, 3) := by decide +kernel
theorem d_PG_ticks_15 : decode prog_1_method_3_code 15 = .ok (.dup, 1) := by decide +kernel
theorem d_PG_ticks_16 : decode prog_1_method_3_code 16 = .ok (.ldc 55, 2) := by decide +kernel
theorem d_PG_ticks_18 : decode prog_1_method_3_code 18 = .ok (.invokespecial 57, 3) := by decide +kernel
theorem d_PG_ticks_21 : decode prog_1_method_3_code 21 = .ok (.athrow, 1) := by decide +kernel
theorem d_PG_ticks_22 : decode prog_1_method_3_code 22 = .ok (.iconst 0, 1) := by decide +kernel
theorem d_PG_ticks_23 : decode prog_1_method_3_code 23 = .ok (.istore_n 2, 1) := by decide +kernel
theorem d_PG_ticks_24 : decode prog_1_method_3_code 24 = .ok (.iconst 0, 1) := by decide +kernel
theorem d_PG_ticks_25 : decode prog_1_method_3_code 25 = .ok (.istore_n 3, 1) := by decide +kernel
theorem d_PG_ticks_26 : decode prog_1_method_3_code 26 = .ok (.iload_n 3, 1) := by decide +kernel
theorem d_PG_ticks_27 : decode prog_1_method_3_code 27 = .ok (.iload_n 1, 1) := by decide +kernel
theorem d_PG_ticks_28 : decode prog_1_method_3_code 28 = .ok (.if_icmp .ge 63, 3) := by decide +kernel
theorem d_PG_ticks_31 : decode prog_1_method_3_code 31 = .ok (.aload_n 0, 1) := by decide +kernel
theorem d_PG_ticks_32 : decode prog_1_method_3_code 32 = .ok (.dup, 1) := by decide +kernel
theorem d_PG_ticks_33 : decode prog_1_method_3_code 33 = .ok (.getfield 36, 3) := by decide +kernel
theorem d_PG_ticks_36 : decode prog_1_method_3_code 36 = .ok (.iconst 1, 1) := by decide +kernel
theorem d_PG_ticks_37 : decode prog_1_method_3_code 37 = .ok (.iadd, 1) := by decide +kernel
theorem d_PG_ticks_38 : decode prog_1_method_3_code 38 = .ok (.putfield 36, 3) := by decide +kernel
theorem d_PG_ticks_41 : decode prog_1_method_3_code 41 = .ok (.iconst 0, 1) := by decide +kernel
theorem d_PG_ticks_42 : decode prog_1_method_3_code 42 = .ok (.istore 4, 2) := by decide +kernel
theorem d_PG_ticks_44 : decode prog_1_method_3_code 44 = .ok (.iload 4, 2) := by decide +kernel
theorem d_PG_ticks_46 : decode prog_1_method_3_code 46 = .ok (.aload_n 0, 1) := by decide +kernel
theorem d_PG_ticks_47 : decode prog_1_method_3_code 47 = .ok (.getfield 10, 3) := by decide +kernel
theorem d_PG_ticks_50 : decode prog_1_method_3_code 50 = .ok (.arraylength, 1) := by decide +kernel
theorem d_PG_ticks_51 : decode prog_1_method_3_code 51 = .ok (.if_icmp .ge 34, 3) := by decide +kernel
theorem d_PG_ticks_54 : decode prog_1_method_3_code 54 = .ok (.iload_n 2, 1) := by decide +kernel
theorem d_PG_ticks_55 : decode prog_1_method_3_code 55 = .ok (.aload_n 0, 1) := by decide +kernel
theorem d_PG_ticks_56 : decode prog_1_method_3_code 56 = .ok (.getfield 10, 3) := by decide +kernel
theorem d_PG_ticks_59 : decode prog_1_method_3_code 59 = .ok (.iload 4, 2) := by decide +kernel
theorem d_PG_ticks_61 : decode prog_1_method_3_code 61 = .ok (.aaload, 1) := by decide +kernel
theorem d_PG_ticks_62 : decode prog_1_method_3_code 62 = .ok (.aload_n 0, 1) := by decide +kernel
theorem d_PG_ticks_63 : decode prog_1_method_3_code 63 = .ok (.getfield 36, 3) := by decide +kernel
theorem d_PG_ticks_66 : decode prog_1_method_3_code 66 = .ok (.aload_n 0, 1) := by decide +kernel
theorem d_PG_ticks_67 : decode prog_1_method_3_code 67 = .ok (.getfield 32, 3) := by decide +kernel
theorem d_PG_ticks_70 : decode prog_1_method_3_code 70 = .ok (.aload_n 0, 1) := by decide +kernel
theorem d_PG_ticks_71 : decode prog_1_method_3_code 71 = .ok (.getfield 28, 3) := by decide +kernel
theorem d_PG_ticks_74 : decode prog_1_method_3_code 74 = .ok (.invokevirtual 60, 3) := by decide +kernel
theorem d_PG_ticks_77 : decode prog_1_method_3_code 77 = .ok (.iadd, 1) := by decide +kernel
theorem d_PG_ticks_78 : decode prog_1_method_3_code 78 = .ok (.istore_n 2, 1) := by decide +kernel
theorem d_PG_ticks_79 : decode prog_1_method_3_code 79 = .ok (.iinc 4 1, 3) := by decide +kernel
theorem d_PG_ticks_82 : decode prog_1_method_3_code 82 = .ok (.goto (-38), 3) := by decide +kernel
theorem d_PG_ticks_85 : decode prog_1_method_3_code 85 = .ok (.iinc 3 1, 3) := by decide +kernel
theorem d_PG_ticks_88 : decode prog_1_method_3_code 88 = .ok (.goto (-62), 3) := by decide +kernel
theorem d_PG_ticks_91 : decode prog_1_method_3_code 91 = .ok (.iload_n 2, 1) := by decide +kernel
theorem d_PG_ticks_92 : decode prog_1_method_3_code 92 = .ok (.ireturn, 1) := by decide +kernel
abbrev m_PG_token : ac_I := (⟨"PairedGates", "token", "(III)I"⟩, prog_1_method_4_code, 6, (some (.int)), [])
theorem d_PG_token_0 : decode prog_1_method_4_code 0 = .ok (.aload_n 0, 1) := by decide +kernel
theorem d_PG_token_1 : decode prog_1_method_4_code 1 = .ok (.iload_n 1, 1) := by decide +kernel
theorem d_PG_token_2 : decode prog_1_method_4_code 2 = .ok (.invokevirtual 40, 3) := by decide +kernel
theorem d_PG_token_5 : decode prog_1_method_4_code 5 = .ok (.astore 4, 2) := by decide +kernel
theorem d_PG_token_7 : decode prog_1_method_4_code 7 = .ok (.aload 4, 2) := by decide +kernel
theorem d_PG_token_9 : decode prog_1_method_4_code 9 = .ok (.iload_n 2, 1) := by decide +kernel
theorem d_PG_token_10 : decode prog_1_method_4_code 10 = .ok (.invokestatic 64, 3) := by decide +kernel
theorem d_PG_token_13 : decode prog_1_method_4_code 13 = .ok (.astore 5, 2) := by decide +kernel
theorem d_PG_token_15 : decode prog_1_method_4_code 15 = .ok (.iload_n 3, 1) := by decide +kernel
theorem d_PG_token_16 : decode prog_1_method_4_code 16 = .ok (.ifCond .ge 13, 3) := by decide +kernel
theorem d_PG_token_19 : decode prog_1_method_4_code 19 = .ok (.new 53, 3) := by decide +kernel
theorem d_PG_token_22 : decode prog_1_method_4_code 22 = .ok (.dup, 1) := by decide +kernel
theorem d_PG_token_23 : decode prog_1_method_4_code 23 = .ok (.ldc 68, 2) := by decide +kernel
theorem d_PG_token_25 : decode prog_1_method_4_code 25 = .ok (.invokespecial 57, 3) := by decide +kernel
theorem d_PG_token_28 : decode prog_1_method_4_code 28 = .ok (.athrow, 1) := by decide +kernel
theorem d_PG_token_29 : decode prog_1_method_4_code 29 = .ok (.aload 4, 2) := by decide +kernel
theorem d_PG_token_31 : decode prog_1_method_4_code 31 = .ok (.iload_n 2, 1) := by decide +kernel
theorem d_PG_token_32 : decode prog_1_method_4_code 32 = .ok (.invokevirtual 70, 3) := by decide +kernel
theorem d_PG_token_35 : decode prog_1_method_4_code 35 = .ok (.ifCond .ne 5, 3) := by decide +kernel
theorem d_PG_token_38 : decode prog_1_method_4_code 38 = .ok (.iconst 1, 1) := by decide +kernel
theorem d_PG_token_39 : decode prog_1_method_4_code 39 = .ok (.ireturn, 1) := by decide +kernel
theorem d_PG_token_40 : decode prog_1_method_4_code 40 = .ok (.aload_n 0, 1) := by decide +kernel
theorem d_PG_token_41 : decode prog_1_method_4_code 41 = .ok (.getfield 21, 3) := by decide +kernel
theorem d_PG_token_44 : decode prog_1_method_4_code 44 = .ok (.iload_n 3, 1) := by decide +kernel
theorem d_PG_token_45 : decode prog_1_method_4_code 45 = .ok (.aload_n 0, 1) := by decide +kernel
theorem d_PG_token_46 : decode prog_1_method_4_code 46 = .ok (.getfield 36, 3) := by decide +kernel
theorem d_PG_token_49 : decode prog_1_method_4_code 49 = .ok (.invokevirtual 74, 3) := by decide +kernel
theorem d_PG_token_52 : decode prog_1_method_4_code 52 = .ok (.ifCond .eq 5, 3) := by decide +kernel
theorem d_PG_token_55 : decode prog_1_method_4_code 55 = .ok (.iconst 3, 1) := by decide +kernel
theorem d_PG_token_56 : decode prog_1_method_4_code 56 = .ok (.ireturn, 1) := by decide +kernel
theorem d_PG_token_57 : decode prog_1_method_4_code 57 = .ok (.aload 5, 2) := by decide +kernel
theorem d_PG_token_59 : decode prog_1_method_4_code 59 = .ok (.invokevirtual 78, 3) := by decide +kernel
theorem d_PG_token_62 : decode prog_1_method_4_code 62 = .ok (.ifCond .ne 13, 3) := by decide +kernel
theorem d_PG_token_65 : decode prog_1_method_4_code 65 = .ok (.aload_n 0, 1) := by decide +kernel
theorem d_PG_token_66 : decode prog_1_method_4_code 66 = .ok (.getfield 21, 3) := by decide +kernel
theorem d_PG_token_69 : decode prog_1_method_4_code 69 = .ok (.invokevirtual 78, 3) := by decide +kernel
theorem d_PG_token_72 : decode prog_1_method_4_code 72 = .ok (.ifCond .eq 5, 3) := by decide +kernel
theorem d_PG_token_75 : decode prog_1_method_4_code 75 = .ok (.iconst 2, 1) := by decide +kernel
theorem d_PG_token_76 : decode prog_1_method_4_code 76 = .ok (.ireturn, 1) := by decide +kernel
theorem d_PG_token_77 : decode prog_1_method_4_code 77 = .ok (.aload_n 0, 1) := by decide +kernel
theorem d_PG_token_78 : decode prog_1_method_4_code 78 = .ok (.getfield 21, 3) := by decide +kernel
theorem d_PG_token_81 : decode prog_1_method_4_code 81 = .ok (.iload_n 3, 1) := by decide +kernel
theorem d_PG_token_82 : decode prog_1_method_4_code 82 = .ok (.aload_n 0, 1) := by decide +kernel
theorem d_PG_token_83 : decode prog_1_method_4_code 83 = .ok (.getfield 36, 3) := by decide +kernel
theorem d_PG_token_86 : decode prog_1_method_4_code 86 = .ok (.invokevirtual 82, 3) := by decide +kernel
theorem d_PG_token_89 : decode prog_1_method_4_code 89 = .ok (.aload 5, 2) := by decide +kernel
theorem d_PG_token_91 : decode prog_1_method_4_code 91 = .ok (.iload_n 3, 1) := by decide +kernel
theorem d_PG_token_92 : decode prog_1_method_4_code 92 = .ok (.aload_n 0, 1) := by decide +kernel
theorem d_PG_token_93 : decode prog_1_method_4_code 93 = .ok (.getfield 36, 3) := by decide +kernel
theorem d_PG_token_96 : decode prog_1_method_4_code 96 = .ok (.invokevirtual 82, 3) := by decide +kernel
theorem d_PG_token_99 : decode prog_1_method_4_code 99 = .ok (.iconst 0, 1) := by decide +kernel
theorem d_PG_token_100 : decode prog_1_method_4_code 100 = .ok (.ireturn, 1) := by decide +kernel
abbrev m_PG_cancel : ac_I := (⟨"PairedGates", "cancel", "(II)I"⟩, prog_1_method_5_code, 5, (some (.int)), [])
theorem d_PG_cancel_0 : decode prog_1_method_5_code 0 = .ok (.aload_n 0, 1) := by decide +kernel
theorem d_PG_cancel_1 : decode prog_1_method_5_code 1 = .ok (.iload_n 1, 1) := by decide +kernel
theorem d_PG_cancel_2 : decode prog_1_method_5_code 2 = .ok (.invokevirtual 40, 3) := by decide +kernel
theorem d_PG_cancel_5 : decode prog_1_method_5_code 5 = .ok (.iload_n 2, 1) := by decide +kernel
theorem d_PG_cancel_6 : decode prog_1_method_5_code 6 = .ok (.invokestatic 64, 3) := by decide +kernel
theorem d_PG_cancel_9 : decode prog_1_method_5_code 9 = .ok (.astore_n 3, 1) := by decide +kernel
theorem d_PG_cancel_10 : decode prog_1_method_5_code 10 = .ok (.aload_n 3, 1) := by decide +kernel
theorem d_PG_cancel_11 : decode prog_1_method_5_code 11 = .ok (.getfield 86, 3) := by decide +kernel
theorem d_PG_cancel_14 : decode prog_1_method_5_code 14 = .ok (.ifCond .ne 5, 3) := by decide +kernel
theorem d_PG_cancel_17 : decode prog_1_method_5_code 17 = .ok (.iconst (-1), 1) := by decide +kernel
theorem d_PG_cancel_18 : decode prog_1_method_5_code 18 = .ok (.ireturn, 1) := by decide +kernel
theorem d_PG_cancel_19 : decode prog_1_method_5_code 19 = .ok (.aload_n 3, 1) := by decide +kernel
theorem d_PG_cancel_20 : decode prog_1_method_5_code 20 = .ok (.invokevirtual 89, 3) := by decide +kernel
theorem d_PG_cancel_23 : decode prog_1_method_5_code 23 = .ok (.istore 4, 2) := by decide +kernel
theorem d_PG_cancel_25 : decode prog_1_method_5_code 25 = .ok (.aload_n 0, 1) := by decide +kernel
theorem d_PG_cancel_26 : decode prog_1_method_5_code 26 = .ok (.getfield 28, 3) := by decide +kernel
theorem d_PG_cancel_29 : decode prog_1_method_5_code 29 = .ok (.iload 4, 2) := by decide +kernel
theorem d_PG_cancel_31 : decode prog_1_method_5_code 31 = .ok (.invokevirtual 93, 3) := by decide +kernel
theorem d_PG_cancel_34 : decode prog_1_method_5_code 34 = .ok (.iload 4, 2) := by decide +kernel
theorem d_PG_cancel_36 : decode prog_1_method_5_code 36 = .ok (.ireturn, 1) := by decide +kernel
abbrev m_PG_mode : ac_I := (⟨"PairedGates", "mode", "(II)I"⟩, prog_1_method_6_code, 4, (some (.int)), [])
theorem d_PG_mode_0 : decode prog_1_method_6_code 0 = .ok (.aload_n 0, 1) := by decide +kernel
theorem d_PG_mode_1 : decode prog_1_method_6_code 1 = .ok (.iload_n 1, 1) := by decide +kernel
theorem d_PG_mode_2 : decode prog_1_method_6_code 2 = .ok (.invokevirtual 40, 3) := by decide +kernel
theorem d_PG_mode_5 : decode prog_1_method_6_code 5 = .ok (.astore_n 3, 1) := by decide +kernel
theorem d_PG_mode_6 : decode prog_1_method_6_code 6 = .ok (.iload_n 2, 1) := by decide +kernel
theorem d_PG_mode_7 : decode prog_1_method_6_code 7 = .ok (.ifCond .lt 8, 3) := by decide +kernel
theorem d_PG_mode_10 : decode prog_1_method_6_code 10 = .ok (.iload_n 2, 1) := by decide +kernel
theorem d_PG_mode_11 : decode prog_1_method_6_code 11 = .ok (.iconst 3, 1) := by decide +kernel
theorem d_PG_mode_12 : decode prog_1_method_6_code 12 = .ok (.if_icmp .le 13, 3) := by decide +kernel
theorem d_PG_mode_15 : decode prog_1_method_6_code 15 = .ok (.new 53, 3) := by decide +kernel
theorem d_PG_mode_18 : decode prog_1_method_6_code 18 = .ok (.dup, 1) := by decide +kernel
theorem d_PG_mode_19 : decode prog_1_method_6_code 19 = .ok (.ldc 95, 2) := by decide +kernel
theorem d_PG_mode_21 : decode prog_1_method_6_code 21 = .ok (.invokespecial 57, 3) := by decide +kernel
theorem d_PG_mode_24 : decode prog_1_method_6_code 24 = .ok (.athrow, 1) := by decide +kernel
theorem d_PG_mode_25 : decode prog_1_method_6_code 25 = .ok (.aload_n 3, 1) := by decide +kernel
theorem d_PG_mode_26 : decode prog_1_method_6_code 26 = .ok (.getfield 97, 3) := by decide +kernel
theorem d_PG_mode_29 : decode prog_1_method_6_code 29 = .ok (.ifCond .le 13, 3) := by decide +kernel
theorem d_PG_mode_32 : decode prog_1_method_6_code 32 = .ok (.new 98, 3) := by decide +kernel
theorem d_PG_mode_35 : decode prog_1_method_6_code 35 = .ok (.dup, 1) := by decide +kernel
theorem d_PG_mode_36 : decode prog_1_method_6_code 36 = .ok (.ldc 100, 2) := by decide +kernel
theorem d_PG_mode_38 : decode prog_1_method_6_code 38 = .ok (.invokespecial 102, 3) := by decide +kernel
theorem d_PG_mode_41 : decode prog_1_method_6_code 41 = .ok (.athrow, 1) := by decide +kernel
theorem d_PG_mode_42 : decode prog_1_method_6_code 42 = .ok (.aload_n 3, 1) := by decide +kernel
theorem d_PG_mode_43 : decode prog_1_method_6_code 43 = .ok (.iload_n 2, 1) := by decide +kernel
theorem d_PG_mode_44 : decode prog_1_method_6_code 44 = .ok (.aload_n 0, 1) := by decide +kernel
theorem d_PG_mode_45 : decode prog_1_method_6_code 45 = .ok (.getfield 28, 3) := by decide +kernel
theorem d_PG_mode_48 : decode prog_1_method_6_code 48 = .ok (.invokevirtual 103, 3) := by decide +kernel
theorem d_PG_mode_51 : decode prog_1_method_6_code 51 = .ok (.ireturn, 1) := by decide +kernel
abbrev m_PG_alarm : ac_I := (⟨"PairedGates", "alarm", "(Z)V"⟩, prog_1_method_7_code, 2, none, [])
theorem d_PG_alarm_0 : decode prog_1_method_7_code 0 = .ok (.aload_n 0, 1) := by decide +kernel
theorem d_PG_alarm_1 : decode prog_1_method_7_code 1 = .ok (.iload_n 1, 1) := by decide +kernel
theorem d_PG_alarm_2 : decode prog_1_method_7_code 2 = .ok (.putfield 32, 3) := by decide +kernel
theorem d_PG_alarm_5 : decode prog_1_method_7_code 5 = .ok (.return_, 1) := by decide +kernel
abbrev m_PG_time : ac_I := (⟨"PairedGates", "time", "()I"⟩, prog_1_method_8_code, 1, (some (.int)), [])
theorem d_PG_time_0 : decode prog_1_method_8_code 0 = .ok (.aload_n 0, 1) := by decide +kernel
theorem d_PG_time_1 : decode prog_1_method_8_code 1 = .ok (.getfield 36, 3) := by decide +kernel
theorem d_PG_time_4 : decode prog_1_method_8_code 4 = .ok (.ireturn, 1) := by decide +kernel
abbrev m_PG_bodies : ac_I := (⟨"PairedGates", "bodies", "(I)I"⟩, prog_1_method_9_code, 2, (some (.int)), [])
theorem d_PG_bodies_0 : decode prog_1_method_9_code 0 = .ok (.aload_n 0, 1) := by decide +kernel
theorem d_PG_bodies_1 : decode prog_1_method_9_code 1 = .ok (.iload_n 1, 1) := by decide +kernel
theorem d_PG_bodies_2 : decode prog_1_method_9_code 2 = .ok (.invokevirtual 40, 3) := by decide +kernel
theorem d_PG_bodies_5 : decode prog_1_method_9_code 5 = .ok (.getfield 97, 3) := by decide +kernel
theorem d_PG_bodies_8 : decode prog_1_method_9_code 8 = .ok (.ireturn, 1) := by decide +kernel
abbrev m_PG_body : ac_I := (⟨"PairedGates", "body", "(III)I"⟩, prog_1_method_10_code, 5, (some (.int)), [])
theorem d_PG_body_0 : decode prog_1_method_10_code 0 = .ok (.aload_n 0, 1) := by decide +kernel
theorem d_PG_body_1 : decode prog_1_method_10_code 1 = .ok (.iload_n 1, 1) := by decide +kernel
theorem d_PG_body_2 : decode prog_1_method_10_code 2 = .ok (.invokevirtual 40, 3) := by decide +kernel
theorem d_PG_body_5 : decode prog_1_method_10_code 5 = .ok (.iload_n 2, 1) := by decide +kernel
theorem d_PG_body_6 : decode prog_1_method_10_code 6 = .ok (.invokestatic 107, 3) := by decide +kernel
theorem d_PG_body_9 : decode prog_1_method_10_code 9 = .ok (.astore 4, 2) := by decide +kernel
theorem d_PG_body_11 : decode prog_1_method_10_code 11 = .ok (.iload_n 3, 1) := by decide +kernel
theorem d_PG_body_12 : decode prog_1_method_10_code 12 = .ok (.tableswitch 66 0 4 #[36, 42, 48, 54, 60], 36) := by decide +kernel
theorem d_PG_body_48 : decode prog_1_method_10_code 48 = .ok (.aload 4, 2) := by decide +kernel
theorem d_PG_body_50 : decode prog_1_method_10_code 50 = .ok (.getfield 111, 3) := by decide +kernel
theorem d_PG_body_53 : decode prog_1_method_10_code 53 = .ok (.ireturn, 1) := by decide +kernel
theorem d_PG_body_54 : decode prog_1_method_10_code 54 = .ok (.aload 4, 2) := by decide +kernel
theorem d_PG_body_56 : decode prog_1_method_10_code 56 = .ok (.getfield 116, 3) := by decide +kernel
theorem d_PG_body_59 : decode prog_1_method_10_code 59 = .ok (.ireturn, 1) := by decide +kernel
theorem d_PG_body_60 : decode prog_1_method_10_code 60 = .ok (.aload 4, 2) := by decide +kernel
theorem d_PG_body_62 : decode prog_1_method_10_code 62 = .ok (.getfield 119, 3) := by decide +kernel
theorem d_PG_body_65 : decode prog_1_method_10_code 65 = .ok (.ireturn, 1) := by decide +kernel
theorem d_PG_body_66 : decode prog_1_method_10_code 66 = .ok (.aload 4, 2) := by decide +kernel
theorem d_PG_body_68 : decode prog_1_method_10_code 68 = .ok (.getfield 122, 3) := by decide +kernel
theorem d_PG_body_71 : decode prog_1_method_10_code 71 = .ok (.ireturn, 1) := by decide +kernel
theorem d_PG_body_72 : decode prog_1_method_10_code 72 = .ok (.aload 4, 2) := by decide +kernel
theorem d_PG_body_74 : decode prog_1_method_10_code 74 = .ok (.getfield 125, 3) := by decide +kernel
theorem d_PG_body_77 : decode prog_1_method_10_code 77 = .ok (.ireturn, 1) := by decide +kernel
theorem d_PG_body_78 : decode prog_1_method_10_code 78 = .ok (.new 53, 3) := by decide +kernel
theorem d_PG_body_81 : decode prog_1_method_10_code 81 = .ok (.dup, 1) := by decide +kernel
theorem d_PG_body_82 : decode prog_1_method_10_code 82 = .ok (.ldc 128, 2) := by decide +kernel
theorem d_PG_body_84 : decode prog_1_method_10_code 84 = .ok (.invokespecial 57, 3) := by decide +kernel
theorem d_PG_body_87 : decode prog_1_method_10_code 87 = .ok (.athrow, 1) := by decide +kernel
abbrev m_PG_waiting : ac_I := (⟨"PairedGates", "waiting", "(II)I"⟩, prog_1_method_11_code, 3, (some (.int)), [])
theorem d_PG_waiting_0 : decode prog_1_method_11_code 0 = .ok (.aload_n 0, 1) := by decide +kernel
theorem d_PG_waiting_1 : decode prog_1_method_11_code 1 = .ok (.iload_n 1, 1) := by decide +kernel
theorem d_PG_waiting_2 : decode prog_1_method_11_code 2 = .ok (.invokevirtual 40, 3) := by decide +kernel
theorem d_PG_waiting_5 : decode prog_1_method_11_code 5 = .ok (.iload_n 2, 1) := by decide +kernel
theorem d_PG_waiting_6 : decode prog_1_method_11_code 6 = .ok (.invokestatic 64, 3) := by decide +kernel
theorem d_PG_waiting_9 : decode prog_1_method_11_code 9 = .ok (.getfield 86, 3) := by decide +kernel
theorem d_PG_waiting_12 : decode prog_1_method_11_code 12 = .ok (.ireturn, 1) := by decide +kernel
abbrev m_PG_waits : ac_I := (⟨"PairedGates", "waits", "(III)I"⟩, prog_1_method_12_code, 4, (some (.int)), [])
theorem d_PG_waits_0 : decode prog_1_method_12_code 0 = .ok (.aload_n 0, 1) := by decide +kernel
theorem d_PG_waits_1 : decode prog_1_method_12_code 1 = .ok (.iload_n 1, 1) := by decide +kernel
theorem d_PG_waits_2 : decode prog_1_method_12_code 2 = .ok (.invokevirtual 40, 3) := by decide +kernel
theorem d_PG_waits_5 : decode prog_1_method_12_code 5 = .ok (.iload_n 2, 1) := by decide +kernel
theorem d_PG_waits_6 : decode prog_1_method_12_code 6 = .ok (.invokestatic 64, 3) := by decide +kernel
theorem d_PG_waits_9 : decode prog_1_method_12_code 9 = .ok (.iload_n 3, 1) := by decide +kernel
theorem d_PG_waits_10 : decode prog_1_method_12_code 10 = .ok (.invokevirtual 130, 3) := by decide +kernel
theorem d_PG_waits_13 : decode prog_1_method_12_code 13 = .ok (.ireturn, 1) := by decide +kernel
abbrev m_PG_count : ac_I := (⟨"PairedGates", "count", "(II)I"⟩, prog_1_method_13_code, 4, (some (.int)), [])
theorem d_PG_count_0 : decode prog_1_method_13_code 0 = .ok (.aload_n 0, 1) := by decide +kernel
theorem d_PG_count_1 : decode prog_1_method_13_code 1 = .ok (.iload_n 1, 1) := by decide +kernel
theorem d_PG_count_2 : decode prog_1_method_13_code 2 = .ok (.invokevirtual 40, 3) := by decide +kernel
theorem d_PG_count_5 : decode prog_1_method_13_code 5 = .ok (.getfield 134, 3) := by decide +kernel
theorem d_PG_count_8 : decode prog_1_method_13_code 8 = .ok (.astore_n 3, 1) := by decide +kernel
theorem d_PG_count_9 : decode prog_1_method_13_code 9 = .ok (.iload_n 2, 1) := by decide +kernel
theorem d_PG_count_10 : decode prog_1_method_13_code 10 = .ok (.ifCond .lt 15, 3) := by decide +kernel
theorem d_PG_count_13 : decode prog_1_method_13_code 13 = .ok (.iload_n 2, 1) := by decide +kernel
theorem d_PG_count_14 : decode prog_1_method_13_code 14 = .ok (.aload_n 3, 1) := by decide +kernel
theorem d_PG_count_15 : decode prog_1_method_13_code 15 = .ok (.arraylength, 1) := by decide +kernel
theorem d_PG_count_16 : decode prog_1_method_13_code 16 = .ok (.if_icmp .ge 9, 3) := by decide +kernel
theorem d_PG_count_19 : decode prog_1_method_13_code 19 = .ok (.aload_n 3, 1) := by decide +kernel
theorem d_PG_count_20 : decode prog_1_method_13_code 20 = .ok (.iload_n 2, 1) := by decide +kernel
theorem d_PG_count_21 : decode prog_1_method_13_code 21 = .ok (.iaload, 1) := by decide +kernel
theorem d_PG_count_22 : decode prog_1_method_13_code 22 = .ok (.goto 4, 3) := by decide +kernel
theorem d_PG_count_25 : decode prog_1_method_13_code 25 = .ok (.iconst 0, 1) := by decide +kernel
theorem d_PG_count_26 : decode prog_1_method_13_code 26 = .ok (.ireturn, 1) := by decide +kernel
abbrev m_PG_angle : ac_I := (⟨"PairedGates", "angle", "(I)I"⟩, prog_1_method_14_code, 2, (some (.int)), [])
theorem d_PG_angle_0 : decode prog_1_method_14_code 0 = .ok (.aload_n 0, 1) := by decide +kernel
theorem d_PG_angle_1 : decode prog_1_method_14_code 1 = .ok (.iload_n 1, 1) := by decide +kernel
theorem d_PG_angle_2 : decode prog_1_method_14_code 2 = .ok (.invokevirtual 40, 3) := by decide +kernel
theorem d_PG_angle_5 : decode prog_1_method_14_code 5 = .ok (.getfield 138, 3) := by decide +kernel
theorem d_PG_angle_8 : decode prog_1_method_14_code 8 = .ok (.getfield 142, 3) := by decide +kernel
theorem d_PG_angle_11 : decode prog_1_method_14_code 11 = .ok (.ireturn, 1) := by decide +kernel
abbrev m_PG_order : ac_I := (⟨"PairedGates", "order", "(I)I"⟩, prog_1_method_15_code, 2, (some (.int)), [])
theorem d_PG_order_0 : decode prog_1_method_15_code 0 = .ok (.aload_n 0, 1) := by decide +kernel
theorem d_PG_order_1 : decode prog_1_method_15_code 1 = .ok (.iload_n 1, 1) := by decide +kernel
theorem d_PG_order_2 : decode prog_1_method_15_code 2 = .ok (.invokevirtual 40, 3) := by decide +kernel
theorem d_PG_order_5 : decode prog_1_method_15_code 5 = .ok (.getfield 138, 3) := by decide +kernel
theorem d_PG_order_8 : decode prog_1_method_15_code 8 = .ok (.getfield 147, 3) := by decide +kernel
theorem d_PG_order_11 : decode prog_1_method_15_code 11 = .ok (.ireturn, 1) := by decide +kernel
abbrev m_PG_seen : ac_I := (⟨"PairedGates", "seen", "(I)I"⟩, prog_1_method_16_code, 2, (some (.int)), [])
theorem d_PG_seen_0 : decode prog_1_method_16_code 0 = .ok (.aload_n 0, 1) := by decide +kernel
theorem d_PG_seen_1 : decode prog_1_method_16_code 1 = .ok (.iload_n 1, 1) := by decide +kernel
theorem d_PG_seen_2 : decode prog_1_method_16_code 2 = .ok (.invokevirtual 40, 3) := by decide +kernel
theorem d_PG_seen_5 : decode prog_1_method_16_code 5 = .ok (.getfield 44, 3) := by decide +kernel
theorem d_PG_seen_8 : decode prog_1_method_16_code 8 = .ok (.getfield 150, 3) := by decide +kernel
theorem d_PG_seen_11 : decode prog_1_method_16_code 11 = .ok (.ireturn, 1) := by decide +kernel
abbrev m_PG_accepted : ac_I := (⟨"PairedGates", "accepted", "()I"⟩, prog_1_method_17_code, 1, (some (.int)), [])
theorem d_PG_accepted_0 : decode prog_1_method_17_code 0 = .ok (.aload_n 0, 1) := by decide +kernel
theorem d_PG_accepted_1 : decode prog_1_method_17_code 1 = .ok (.getfield 21, 3) := by decide +kernel
theorem d_PG_accepted_4 : decode prog_1_method_17_code 4 = .ok (.getfield 86, 3) := by decide +kernel
theorem d_PG_accepted_7 : decode prog_1_method_17_code 7 = .ok (.ireturn, 1) := by decide +kernel
abbrev m_PG_refunds : ac_I := (⟨"PairedGates", "refunds", "()I"⟩, prog_1_method_18_code, 1, (some (.int)), [])
theorem d_PG_refunds_0 : decode prog_1_method_18_code 0 = .ok (.aload_n 0, 1) := by decide +kernel
theorem d_PG_refunds_1 : decode prog_1_method_18_code 1 = .ok (.getfield 28, 3) := by decide +kernel
theorem d_PG_refunds_4 : decode prog_1_method_18_code 4 = .ok (.getfield 153, 3) := by decide +kernel
theorem d_PG_refunds_7 : decode prog_1_method_18_code 7 = .ok (.ireturn, 1) := by decide +kernel
abbrev m_PG_refund : ac_I := (⟨"PairedGates", "refund", "(I)I"⟩, prog_1_method_19_code, 2, (some (.int)), [])
theorem d_PG_refund_0 : decode prog_1_method_19_code 0 = .ok (.aload_n 0, 1) := by decide +kernel
theorem d_PG_refund_1 : decode prog_1_method_19_code 1 = .ok (.getfield 28, 3) := by decide +kernel
theorem d_PG_refund_4 : decode prog_1_method_19_code 4 = .ok (.iload_n 1, 1) := by decide +kernel
theorem d_PG_refund_5 : decode prog_1_method_19_code 5 = .ok (.invokevirtual 154, 3) := by decide +kernel
theorem d_PG_refund_8 : decode prog_1_method_19_code 8 = .ok (.ireturn, 1) := by decide +kernel
abbrev m_PG_laneAt : ac_I := (⟨"PairedGates", "laneAt", "(I)LPairedGates$Lane;"⟩, prog_1_method_20_code, 2, (some ((.object "PairedGates$Lane"))), [])
theorem d_PG_laneAt_0 : decode prog_1_method_20_code 0 = .ok (.iload_n 1, 1) := by decide +kernel
theorem d_PG_laneAt_1 : decode prog_1_method_20_code 1 = .ok (.ifCond .lt 12, 3) := by decide +kernel
theorem d_PG_laneAt_4 : decode prog_1_method_20_code 4 = .ok (.iload_n 1, 1) := by decide +kernel
theorem d_PG_laneAt_5 : decode prog_1_method_20_code 5 = .ok (.aload_n 0, 1) := by decide +kernel
theorem d_PG_laneAt_6 : decode prog_1_method_20_code 6 = .ok (.getfield 10, 3) := by decide +kernel
theorem d_PG_laneAt_9 : decode prog_1_method_20_code 9 = .ok (.arraylength, 1) := by decide +kernel
theorem d_PG_laneAt_10 : decode prog_1_method_20_code 10 = .ok (.if_icmp .lt 13, 3) := by decide +kernel
theorem d_PG_laneAt_13 : decode prog_1_method_20_code 13 = .ok (.new 155, 3) := by decide +kernel
theorem d_PG_laneAt_16 : decode prog_1_method_20_code 16 = .ok (.dup, 1) := by decide +kernel
theorem d_PG_laneAt_17 : decode prog_1_method_20_code 17 = .ok (.ldc 157, 2) := by decide +kernel
theorem d_PG_laneAt_19 : decode prog_1_method_20_code 19 = .ok (.invokespecial 159, 3) := by decide +kernel
theorem d_PG_laneAt_22 : decode prog_1_method_20_code 22 = .ok (.athrow, 1) := by decide +kernel
theorem d_PG_laneAt_23 : decode prog_1_method_20_code 23 = .ok (.aload_n 0, 1) := by decide +kernel
theorem d_PG_laneAt_24 : decode prog_1_method_20_code 24 = .ok (.getfield 10, 3) := by decide +kernel
theorem d_PG_laneAt_27 : decode prog_1_method_20_code 27 = .ok (.iload_n 1, 1) := by decide +kernel
theorem d_PG_laneAt_28 : decode prog_1_method_20_code 28 = .ok (.aaload, 1) := by decide +kernel
theorem d_PG_laneAt_29 : decode prog_1_method_20_code 29 = .ok (.areturn, 1) := by decide +kernel
abbrev m_PG_queueAt : ac_I := (⟨"PairedGates", "queueAt", "(LPairedGates$Lane;I)LPairedGates$TokenList;"⟩, prog_1_method_21_code, 2, (some ((.object "PairedGates$TokenList"))), [])
theorem d_PG_queueAt_0 : decode prog_1_method_21_code 0 = .ok (.iload_n 1, 1) := by decide +kernel
theorem d_PG_queueAt_1 : decode prog_1_method_21_code 1 = .ok (.ifCond .lt 12, 3) := by decide +kernel
theorem d_PG_queueAt_4 : decode prog_1_method_21_code 4 = .ok (.iload_n 1, 1) := by decide +kernel
theorem d_PG_queueAt_5 : decode prog_1_method_21_code 5 = .ok (.aload_n 0, 1) := by decide +kernel
theorem d_PG_queueAt_6 : decode prog_1_method_21_code 6 = .ok (.getfield 160, 3) := by decide +kernel
theorem d_PG_queueAt_9 : decode prog_1_method_21_code 9 = .ok (.arraylength, 1) := by decide +kernel
theorem d_PG_queueAt_10 : decode prog_1_method_21_code 10 = .ok (.if_icmp .lt 13, 3) := by decide +kernel
theorem d_PG_queueAt_13 : decode prog_1_method_21_code 13 = .ok (.new 155, 3) := by decide +kernel
theorem d_PG_queueAt_16 : decode prog_1_method_21_code 16 = .ok (.dup, 1) := by decide +kernel
theorem d_PG_queueAt_17 : decode prog_1_method_21_code 17 = .ok (.ldc 164, 2) := by decide +kernel
theorem d_PG_queueAt_19 : decode prog_1_method_21_code 19 = .ok (.invokespecial 159, 3) := by decide +kernel
theorem d_PG_queueAt_22 : decode prog_1_method_21_code 22 = .ok (.athrow, 1) := by decide +kernel
theorem d_PG_queueAt_23 : decode prog_1_method_21_code 23 = .ok (.aload_n 0, 1) := by decide +kernel
theorem d_PG_queueAt_24 : decode prog_1_method_21_code 24 = .ok (.getfield 160, 3) := by decide +kernel
theorem d_PG_queueAt_27 : decode prog_1_method_21_code 27 = .ok (.iload_n 1, 1) := by decide +kernel
theorem d_PG_queueAt_28 : decode prog_1_method_21_code 28 = .ok (.aaload, 1) := by decide +kernel
theorem d_PG_queueAt_29 : decode prog_1_method_21_code 29 = .ok (.areturn, 1) := by decide +kernel
abbrev m_PG_bodyAt : ac_I := (⟨"PairedGates", "bodyAt", "(LPairedGates$Lane;I)LPairedGates$Body;"⟩, prog_1_method_22_code, 2, (some ((.object "PairedGates$Body"))), [])
theorem d_PG_bodyAt_0 : decode prog_1_method_22_code 0 = .ok (.iload_n 1, 1) := by decide +kernel
theorem d_PG_bodyAt_1 : decode prog_1_method_22_code 1 = .ok (.ifCond .lt 11, 3) := by decide +kernel
theorem d_PG_bodyAt_4 : decode prog_1_method_22_code 4 = .ok (.iload_n 1, 1) := by decide +kernel
theorem d_PG_bodyAt_5 : decode prog_1_method_22_code 5 = .ok (.aload_n 0, 1) := by decide +kernel
theorem d_PG_bodyAt_6 : decode prog_1_method_22_code 6 = .ok (.getfield 97, 3) := by decide +kernel
theorem d_PG_bodyAt_9 : decode prog_1_method_22_code 9 = .ok (.if_icmp .lt 13, 3) := by decide +kernel
theorem d_PG_bodyAt_12 : decode prog_1_method_22_code 12 = .ok (.new 155, 3) := by decide +kernel
theorem d_PG_bodyAt_15 : decode prog_1_method_22_code 15 = .ok (.dup, 1) := by decide +kernel
theorem d_PG_bodyAt_16 : decode prog_1_method_22_code 16 = .ok (.ldc 166, 2) := by decide +kernel
theorem d_PG_bodyAt_18 : decode prog_1_method_22_code 18 = .ok (.invokespecial 159, 3) := by decide +kernel
theorem d_PG_bodyAt_21 : decode prog_1_method_22_code 21 = .ok (.athrow, 1) := by decide +kernel
theorem d_PG_bodyAt_22 : decode prog_1_method_22_code 22 = .ok (.aload_n 0, 1) := by decide +kernel
theorem d_PG_bodyAt_23 : decode prog_1_method_22_code 23 = .ok (.getfield 168, 3) := by decide +kernel
theorem d_PG_bodyAt_26 : decode prog_1_method_22_code 26 = .ok (.iload_n 1, 1) := by decide +kernel
theorem d_PG_bodyAt_27 : decode prog_1_method_22_code 27 = .ok (.aaload, 1) := by decide +kernel
theorem d_PG_bodyAt_28 : decode prog_1_method_22_code 28 = .ok (.areturn, 1) := by decide +kernel
abbrev m_Mo_init : ac_I := (⟨"PairedGatesModel", "<init>", "()V"⟩, prog_10_method_1_code, 1, none, [])
theorem d_Mo_init_0 : decode prog_10_method_1_code 0 = .ok (.aload_n 0, 1) := by decide +kernel
theorem d_Mo_init_1 : decode prog_10_method_1_code 1 = .ok (.invokespecial 1, 3) := by decide +kernel
theorem d_Mo_init_4 : decode prog_10_method_1_code 4 = .ok (.aload_n 0, 1) := by decide +kernel
theorem d_Mo_init_5 : decode prog_10_method_1_code 5 = .ok (.iconst 2, 1) := by decide +kernel
theorem d_Mo_init_6 : decode prog_10_method_1_code 6 = .ok (.newarray .int, 2) := by decide +kernel
theorem d_Mo_init_8 : decode prog_10_method_1_code 8 = .ok (.putfield 7, 3) := by decide +kernel
theorem d_Mo_init_11 : decode prog_10_method_1_code 11 = .ok (.aload_n 0, 1) := by decide +kernel
theorem d_Mo_init_12 : decode prog_10_method_1_code 12 = .ok (.iconst 2, 1) := by decide +kernel
theorem d_Mo_init_13 : decode prog_10_method_1_code 13 = .ok (.newarray .int, 2) := by decide +kernel
theorem d_Mo_init_15 : decode prog_10_method_1_code 15 = .ok (.putfield 13, 3) := by decide +kernel
theorem d_Mo_init_18 : decode prog_10_method_1_code 18 = .ok (.aload_n 0, 1) := by decide +kernel
theorem d_Mo_init_19 : decode prog_10_method_1_code 19 = .ok (.iconst 2, 1) := by decide +kernel
theorem d_Mo_init_20 : decode prog_10_method_1_code 20 = .ok (.newarray .int, 2) := by decide +kernel
theorem d_Mo_init_22 : decode prog_10_method_1_code 22 = .ok (.putfield 16, 3) := by decide +kernel
theorem d_Mo_init_25 : decode prog_10_method_1_code 25 = .ok (.aload_n 0, 1) := by decide +kernel
theorem d_Mo_init_26 : decode prog_10_method_1_code 26 = .ok (.iconst 2, 1) := by decide +kernel
theorem d_Mo_init_27 : decode prog_10_method_1_code 27 = .ok (.newarray .int, 2) := by decide +kernel
theorem d_Mo_init_29 : decode prog_10_method_1_code 29 = .ok (.putfield 19, 3) := by decide +kernel
theorem d_Mo_init_32 : decode prog_10_method_1_code 32 = .ok (.aload_n 0, 1) := by decide +kernel
theorem d_Mo_init_33 : decode prog_10_method_1_code 33 = .ok (.iconst 2, 1) := by decide +kernel
theorem d_Mo_init_34 : decode prog_10_method_1_code 34 = .ok (.newarray .int, 2) := by decide +kernel
theorem d_Mo_init_36 : decode prog_10_method_1_code 36 = .ok (.putfield 22, 3) := by decide +kernel
theorem d_Mo_init_39 : decode prog_10_method_1_code 39 = .ok (.aload_n 0, 1) := by decide +kernel
theorem d_Mo_init_40 : decode prog_10_method_1_code 40 = .ok (.iconst 2, 1) := by decide +kernel
theorem d_Mo_init_41 : decode prog_10_method_1_code 41 = .ok (.newarray .int, 2) := by decide +kernel
theorem d_Mo_init_43 : decode prog_10_method_1_code 43 = .ok (.putfield 25, 3) := by decide +kernel
theorem d_Mo_init_46 : decode prog_10_method_1_code 46 = .ok (.aload_n 0, 1) := by decide +kernel
theorem d_Mo_init_47 : decode prog_10_method_1_code 47 = .ok (.iconst 2, 1) := by decide +kernel
theorem d_Mo_init_48 : decode prog_10_method_1_code 48 = .ok (.newarray .int, 2) := by decide +kernel
theorem d_Mo_init_50 : decode prog_10_method_1_code 50 = .ok (.putfield 28, 3) := by decide +kernel
theorem d_Mo_init_53 : decode prog_10_method_1_code 53 = .ok (.aload_n 0, 1) := by decide +kernel
theorem d_Mo_init_54 : decode prog_10_method_1_code 54 = .ok (.bipush 10, 2) := by decide +kernel
theorem d_Mo_init_56 : decode prog_10_method_1_code 56 = .ok (.newarray .int, 2) := by decide +kernel
theorem d_Mo_init_58 : decode prog_10_method_1_code 58 = .ok (.putfield 31, 3) := by decide +kernel
theorem d_Mo_init_61 : decode prog_10_method_1_code 61 = .ok (.aload_n 0, 1) := by decide +kernel
theorem d_Mo_init_62 : decode prog_10_method_1_code 62 = .ok (.iconst 2, 1) := by decide +kernel
theorem d_Mo_init_63 : decode prog_10_method_1_code 63 = .ok (.newarray .int, 2) := by decide +kernel
theorem d_Mo_init_65 : decode prog_10_method_1_code 65 = .ok (.putfield 34, 3) := by decide +kernel
theorem d_Mo_init_68 : decode prog_10_method_1_code 68 = .ok (.aload_n 0, 1) := by decide +kernel
theorem d_Mo_init_69 : decode prog_10_method_1_code 69 = .ok (.bipush 10, 2) := by decide +kernel
theorem d_Mo_init_71 : decode prog_10_method_1_code 71 = .ok (.newarray .int, 2) := by decide +kernel
theorem d_Mo_init_73 : decode prog_10_method_1_code 73 = .ok (.putfield 37, 3) := by decide +kernel
theorem d_Mo_init_76 : decode prog_10_method_1_code 76 = .ok (.aload_n 0, 1) := by decide +kernel
theorem d_Mo_init_77 : decode prog_10_method_1_code 77 = .ok (.bipush 10, 2) := by decide +kernel
theorem d_Mo_init_79 : decode prog_10_method_1_code 79 = .ok (.newarray .int, 2) := by decide +kernel
theorem d_Mo_init_81 : decode prog_10_method_1_code 81 = .ok (.putfield 40, 3) := by decide +kernel
theorem d_Mo_init_84 : decode prog_10_method_1_code 84 = .ok (.aload_n 0, 1) := by decide +kernel
theorem d_Mo_init_85 : decode prog_10_method_1_code 85 = .ok (.bipush 10, 2) := by decide +kernel
theorem d_Mo_init_87 : decode prog_10_method_1_code 87 = .ok (.newarray .int, 2) := by decide +kernel
theorem d_Mo_init_89 : decode prog_10_method_1_code 89 = .ok (.putfield 43, 3) := by decide +kernel
theorem d_Mo_init_92 : decode prog_10_method_1_code 92 = .ok (.aload_n 0, 1) := by decide +kernel
theorem d_Mo_init_93 : decode prog_10_method_1_code 93 = .ok (.bipush 10, 2) := by decide +kernel
theorem d_Mo_init_95 : decode prog_10_method_1_code 95 = .ok (.newarray .int, 2) := by decide +kernel
theorem d_Mo_init_97 : decode prog_10_method_1_code 97 = .ok (.putfield 46, 3) := by decide +kernel
theorem d_Mo_init_100 : decode prog_10_method_1_code 100 = .ok (.aload_n 0, 1) := by decide +kernel
theorem d_Mo_init_101 : decode prog_10_method_1_code 101 = .ok (.bipush 10, 2) := by decide +kernel
theorem d_Mo_init_103 : decode prog_10_method_1_code 103 = .ok (.newarray .int, 2) := by decide +kernel
theorem d_Mo_init_105 : decode prog_10_method_1_code 105 = .ok (.putfield 49, 3) := by decide +kernel
theorem d_Mo_init_108 : decode prog_10_method_1_code 108 = .ok (.aload_n 0, 1) := by decide +kernel
theorem d_Mo_init_109 : decode prog_10_method_1_code 109 = .ok (.bipush 10, 2) := by decide +kernel
theorem d_Mo_init_111 : decode prog_10_method_1_code 111 = .ok (.newarray .int, 2) := by decide +kernel
theorem d_Mo_init_113 : decode prog_10_method_1_code 113 = .ok (.putfield 52, 3) := by decide +kernel
theorem d_Mo_init_116 : decode prog_10_method_1_code 116 = .ok (.aload_n 0, 1) := by decide +kernel
theorem d_Mo_init_117 : decode prog_10_method_1_code 117 = .ok (.bipush 10, 2) := by decide +kernel
theorem d_Mo_init_119 : decode prog_10_method_1_code 119 = .ok (.newarray .int, 2) := by decide +kernel
theorem d_Mo_init_121 : decode prog_10_method_1_code 121 = .ok (.putfield 55, 3) := by decide +kernel
theorem d_Mo_init_124 : decode prog_10_method_1_code 124 = .ok (.aload_n 0, 1) := by decide +kernel
theorem d_Mo_init_125 : decode prog_10_method_1_code 125 = .ok (.bipush 10, 2) := by decide +kernel
theorem d_Mo_init_127 : decode prog_10_method_1_code 127 = .ok (.newarray .int, 2) := by decide +kernel
theorem d_Mo_init_129 : decode prog_10_method_1_code 129 = .ok (.putfield 58, 3) := by decide +kernel
theorem d_Mo_init_132 : decode prog_10_method_1_code 132 = .ok (.aload_n 0, 1) := by decide +kernel
theorem d_Mo_init_133 : decode prog_10_method_1_code 133 = .ok (.iconst 5, 1) := by decide +kernel
theorem d_Mo_init_134 : decode prog_10_method_1_code 134 = .ok (.newarray .int, 2) := by decide +kernel
theorem d_Mo_init_136 : decode prog_10_method_1_code 136 = .ok (.putfield 61, 3) := by decide +kernel
theorem d_Mo_init_139 : decode prog_10_method_1_code 139 = .ok (.aload_n 0, 1) := by decide +kernel
theorem d_Mo_init_140 : decode prog_10_method_1_code 140 = .ok (.iconst 5, 1) := by decide +kernel
theorem d_Mo_init_141 : decode prog_10_method_1_code 141 = .ok (.newarray .int, 2) := by decide +kernel
theorem d_Mo_init_143 : decode prog_10_method_1_code 143 = .ok (.putfield 64, 3) := by decide +kernel
theorem d_Mo_init_146 : decode prog_10_method_1_code 146 = .ok (.aload_n 0, 1) := by decide +kernel
theorem d_Mo_init_147 : decode prog_10_method_1_code 147 = .ok (.iconst 4, 1) := by decide +kernel
theorem d_Mo_init_148 : decode prog_10_method_1_code 148 = .ok (.newarray .int, 2) := by decide +kernel
theorem d_Mo_init_150 : decode prog_10_method_1_code 150 = .ok (.putfield 67, 3) := by decide +kernel
theorem d_Mo_init_153 : decode prog_10_method_1_code 153 = .ok (.aload_n 0, 1) := by decide +kernel
theorem d_Mo_init_154 : decode prog_10_method_1_code 154 = .ok (.bipush 24, 2) := by decide +kernel
theorem d_Mo_init_156 : decode prog_10_method_1_code 156 = .ok (.newarray .int, 2) := by decide +kernel
theorem d_Mo_init_158 : decode prog_10_method_1_code 158 = .ok (.putfield 70, 3) := by decide +kernel
theorem d_Mo_init_161 : decode prog_10_method_1_code 161 = .ok (.aload_n 0, 1) := by decide +kernel
theorem d_Mo_init_162 : decode prog_10_method_1_code 162 = .ok (.bipush 24, 2) := by decide +kernel
theorem d_Mo_init_164 : decode prog_10_method_1_code 164 = .ok (.newarray .int, 2) := by decide +kernel
theorem d_Mo_init_166 : decode prog_10_method_1_code 166 = .ok (.putfield 73, 3) := by decide +kernel
theorem d_Mo_init_169 : decode prog_10_method_1_code 169 = .ok (.aload_n 0, 1) := by decide +kernel
theorem d_Mo_init_170 : decode prog_10_method_1_code 170 = .ok (.sipush 600, 3) := by decide +kernel
theorem d_Mo_init_173 : decode prog_10_method_1_code 173 = .ok (.newarray .int, 2) := by decide +kernel
theorem d_Mo_init_175 : decode prog_10_method_1_code 175 = .ok (.putfield 76, 3) := by decide +kernel
theorem d_Mo_init_178 : decode prog_10_method_1_code 178 = .ok (.aload_n 0, 1) := by decide +kernel
theorem d_Mo_init_179 : decode prog_10_method_1_code 179 = .ok (.sipush 600, 3) := by decide +kernel
theorem d_Mo_init_182 : decode prog_10_method_1_code 182 = .ok (.newarray .int, 2) := by decide +kernel
theorem d_Mo_init_184 : decode prog_10_method_1_code 184 = .ok (.putfield 79, 3) := by decide +kernel
theorem d_Mo_init_187 : decode prog_10_method_1_code 187 = .ok (.aload_n 0, 1) := by decide +kernel
theorem d_Mo_init_188 : decode prog_10_method_1_code 188 = .ok (.sipush 600, 3) := by decide +kernel
theorem d_Mo_init_191 : decode prog_10_method_1_code 191 = .ok (.newarray .int, 2) := by decide +kernel
theorem d_Mo_init_193 : decode prog_10_method_1_code 193 = .ok (.putfield 82, 3) := by decide +kernel
theorem d_Mo_init_196 : decode prog_10_method_1_code 196 = .ok (.return_, 1) := by decide +kernel
