abbrev m_Mo_turn : ac_I := (⟨"PairedGatesModel", "turn", "(I)V"⟩, prog_10_method_16_code, 4, none, [])
theorem d_Mo_turn_0 : decode prog_10_method_16_code 0 = .ok (.aload_n 0, 1) := by decide +kernel
theorem d_Mo_turn_1 : decode prog_10_method_16_code 1 = .ok (.getfield 117, 3) := by decide +kernel
theorem d_Mo_turn_4 : decode prog_10_method_16_code 4 = .ok (.istore_n 2, 1) := by decide +kernel
theorem d_Mo_turn_5 : decode prog_10_method_16_code 5 = .ok (.iconst 0, 1) := by decide +kernel
theorem d_Mo_turn_6 : decode prog_10_method_16_code 6 = .ok (.istore_n 3, 1) := by decide +kernel
theorem d_Mo_turn_7 : decode prog_10_method_16_code 7 = .ok (.iload_n 3, 1) := by decide +kernel
theorem d_Mo_turn_8 : decode prog_10_method_16_code 8 = .ok (.aload_n 0, 1) := by decide +kernel
theorem d_Mo_turn_9 : decode prog_10_method_16_code 9 = .ok (.getfield 34, 3) := by decide +kernel
theorem d_Mo_turn_12 : decode prog_10_method_16_code 12 = .ok (.iload_n 1, 1) := by decide +kernel
theorem d_Mo_turn_13 : decode prog_10_method_16_code 13 = .ok (.iaload, 1) := by decide +kernel
theorem d_Mo_turn_14 : decode prog_10_method_16_code 14 = .ok (.if_icmp .ge 32, 3) := by decide +kernel
theorem d_Mo_turn_17 : decode prog_10_method_16_code 17 = .ok (.iload_n 2, 1) := by decide +kernel
theorem d_Mo_turn_18 : decode prog_10_method_16_code 18 = .ok (.ifCond .ne 16, 3) := by decide +kernel
theorem d_Mo_turn_21 : decode prog_10_method_16_code 21 = .ok (.aload_n 0, 1) := by decide +kernel
theorem d_Mo_turn_22 : decode prog_10_method_16_code 22 = .ok (.getfield 46, 3) := by decide +kernel
theorem d_Mo_turn_25 : decode prog_10_method_16_code 25 = .ok (.iconst 5, 1) := by decide +kernel
theorem d_Mo_turn_26 : decode prog_10_method_16_code 26 = .ok (.iload_n 1, 1) := by decide +kernel
theorem d_Mo_turn_27 : decode prog_10_method_16_code 27 = .ok (.imul, 1) := by decide +kernel
theorem d_Mo_turn_28 : decode prog_10_method_16_code 28 = .ok (.iload_n 3, 1) := by decide +kernel
theorem d_Mo_turn_29 : decode prog_10_method_16_code 29 = .ok (.iadd, 1) := by decide +kernel
theorem d_Mo_turn_30 : decode prog_10_method_16_code 30 = .ok (.iaload, 1) := by decide +kernel
theorem d_Mo_turn_31 : decode prog_10_method_16_code 31 = .ok (.ifCond .lt 7, 3) := by decide +kernel
theorem d_Mo_turn_34 : decode prog_10_method_16_code 34 = .ok (.iconst 1, 1) := by decide +kernel
theorem d_Mo_turn_35 : decode prog_10_method_16_code 35 = .ok (.goto 4, 3) := by decide +kernel
theorem d_Mo_turn_38 : decode prog_10_method_16_code 38 = .ok (.iconst 0, 1) := by decide +kernel
theorem d_Mo_turn_39 : decode prog_10_method_16_code 39 = .ok (.istore_n 2, 1) := by decide +kernel
theorem d_Mo_turn_40 : decode prog_10_method_16_code 40 = .ok (.iinc 3 1, 3) := by decide +kernel
theorem d_Mo_turn_43 : decode prog_10_method_16_code 43 = .ok (.goto (-36), 3) := by decide +kernel
theorem d_Mo_turn_46 : decode prog_10_method_16_code 46 = .ok (.aload_n 0, 1) := by decide +kernel
theorem d_Mo_turn_47 : decode prog_10_method_16_code 47 = .ok (.getfield 19, 3) := by decide +kernel
theorem d_Mo_turn_50 : decode prog_10_method_16_code 50 = .ok (.iload_n 1, 1) := by decide +kernel
theorem d_Mo_turn_51 : decode prog_10_method_16_code 51 = .ok (.iaload, 1) := by decide +kernel
theorem d_Mo_turn_52 : decode prog_10_method_16_code 52 = .ok (.iconst 3, 1) := by decide +kernel
theorem d_Mo_turn_53 : decode prog_10_method_16_code 53 = .ok (.ishr, 1) := by decide +kernel
theorem d_Mo_turn_54 : decode prog_10_method_16_code 54 = .ok (.bipush 15, 2) := by decide +kernel
theorem d_Mo_turn_56 : decode prog_10_method_16_code 56 = .ok (.iand, 1) := by decide +kernel
theorem d_Mo_turn_57 : decode prog_10_method_16_code 57 = .ok (.ifCond .ne 7, 3) := by decide +kernel
theorem d_Mo_turn_60 : decode prog_10_method_16_code 60 = .ok (.iconst 1, 1) := by decide +kernel
theorem d_Mo_turn_61 : decode prog_10_method_16_code 61 = .ok (.goto 4, 3) := by decide +kernel
theorem d_Mo_turn_64 : decode prog_10_method_16_code 64 = .ok (.iconst 0, 1) := by decide +kernel
theorem d_Mo_turn_65 : decode prog_10_method_16_code 65 = .ok (.istore_n 3, 1) := by decide +kernel
theorem d_Mo_turn_66 : decode prog_10_method_16_code 66 = .ok (.aload_n 0, 1) := by decide +kernel
theorem d_Mo_turn_67 : decode prog_10_method_16_code 67 = .ok (.getfield 28, 3) := by decide +kernel
theorem d_Mo_turn_70 : decode prog_10_method_16_code 70 = .ok (.iload_n 1, 1) := by decide +kernel
theorem d_Mo_turn_71 : decode prog_10_method_16_code 71 = .ok (.iload_n 2, 1) := by decide +kernel
theorem d_Mo_turn_72 : decode prog_10_method_16_code 72 = .ok (.ifCond .eq 22, 3) := by decide +kernel
theorem d_Mo_turn_75 : decode prog_10_method_16_code 75 = .ok (.aload_n 0, 1) := by decide +kernel
theorem d_Mo_turn_76 : decode prog_10_method_16_code 76 = .ok (.getfield 25, 3) := by decide +kernel
theorem d_Mo_turn_79 : decode prog_10_method_16_code 79 = .ok (.iload_n 1, 1) := by decide +kernel
theorem d_Mo_turn_80 : decode prog_10_method_16_code 80 = .ok (.iaload, 1) := by decide +kernel
theorem d_Mo_turn_81 : decode prog_10_method_16_code 81 = .ok (.bipush 90, 2) := by decide +kernel
theorem d_Mo_turn_83 : decode prog_10_method_16_code 83 = .ok (.if_icmp .ge 7, 3) := by decide +kernel
theorem d_Mo_turn_86 : decode prog_10_method_16_code 86 = .ok (.iconst 2, 1) := by decide +kernel
theorem d_Mo_turn_87 : decode prog_10_method_16_code 87 = .ok (.goto 26, 3) := by decide +kernel
theorem d_Mo_turn_90 : decode prog_10_method_16_code 90 = .ok (.iconst 0, 1) := by decide +kernel
theorem d_Mo_turn_91 : decode prog_10_method_16_code 91 = .ok (.goto 22, 3) := by decide +kernel
theorem d_Mo_turn_94 : decode prog_10_method_16_code 94 = .ok (.aload_n 0, 1) := by decide +kernel
theorem d_Mo_turn_95 : decode prog_10_method_16_code 95 = .ok (.getfield 25, 3) := by decide +kernel
theorem d_Mo_turn_98 : decode prog_10_method_16_code 98 = .ok (.iload_n 1, 1) := by decide +kernel
theorem d_Mo_turn_99 : decode prog_10_method_16_code 99 = .ok (.iaload, 1) := by decide +kernel
theorem d_Mo_turn_100 : decode prog_10_method_16_code 100 = .ok (.ifCond .le 12, 3) := by decide +kernel
theorem d_Mo_turn_103 : decode prog_10_method_16_code 103 = .ok (.iload_n 3, 1) := by decide +kernel
theorem d_Mo_turn_104 : decode prog_10_method_16_code 104 = .ok (.ifCond .eq 8, 3) := by decide +kernel
theorem d_Mo_turn_107 : decode prog_10_method_16_code 107 = .ok (.bipush (-2), 2) := by decide +kernel
theorem d_Mo_turn_109 : decode prog_10_method_16_code 109 = .ok (.goto 4, 3) := by decide +kernel
theorem d_Mo_turn_112 : decode prog_10_method_16_code 112 = .ok (.iconst 0, 1) := by decide +kernel
theorem d_Mo_turn_113 : decode prog_10_method_16_code 113 = .ok (.iastore, 1) := by decide +kernel
theorem d_Mo_turn_114 : decode prog_10_method_16_code 114 = .ok (.aload_n 0, 1) := by decide +kernel
theorem d_Mo_turn_115 : decode prog_10_method_16_code 115 = .ok (.getfield 25, 3) := by decide +kernel
theorem d_Mo_turn_118 : decode prog_10_method_16_code 118 = .ok (.iload_n 1, 1) := by decide +kernel
theorem d_Mo_turn_119 : decode prog_10_method_16_code 119 = .ok (.aload_n 0, 1) := by decide +kernel
theorem d_Mo_turn_120 : decode prog_10_method_16_code 120 = .ok (.getfield 25, 3) := by decide +kernel
theorem d_Mo_turn_123 : decode prog_10_method_16_code 123 = .ok (.iload_n 1, 1) := by decide +kernel
theorem d_Mo_turn_124 : decode prog_10_method_16_code 124 = .ok (.iaload, 1) := by decide +kernel
theorem d_Mo_turn_125 : decode prog_10_method_16_code 125 = .ok (.aload_n 0, 1) := by decide +kernel
theorem d_Mo_turn_126 : decode prog_10_method_16_code 126 = .ok (.getfield 28, 3) := by decide +kernel
theorem d_Mo_turn_129 : decode prog_10_method_16_code 129 = .ok (.iload_n 1, 1) := by decide +kernel
theorem d_Mo_turn_130 : decode prog_10_method_16_code 130 = .ok (.iaload, 1) := by decide +kernel
theorem d_Mo_turn_131 : decode prog_10_method_16_code 131 = .ok (.iadd, 1) := by decide +kernel
theorem d_Mo_turn_132 : decode prog_10_method_16_code 132 = .ok (.iastore, 1) := by decide +kernel
theorem d_Mo_turn_133 : decode prog_10_method_16_code 133 = .ok (.return_, 1) := by decide +kernel
abbrev m_Mo_tick : ac_I := (⟨"PairedGatesModel", "tick", "(I)I"⟩, prog_10_method_17_code, 4, (some (.int)), [])
theorem d_Mo_tick_0 : decode prog_10_method_17_code 0 = .ok (.iconst 0, 1) := by decide +kernel
theorem d_Mo_tick_1 : decode prog_10_method_17_code 1 = .ok (.istore_n 2, 1) := by decide +kernel
theorem d_Mo_tick_2 : decode prog_10_method_17_code 2 = .ok (.iload_n 2, 1) := by decide +kernel
theorem d_Mo_tick_3 : decode prog_10_method_17_code 3 = .ok (.iconst 2, 1) := by decide +kernel
theorem d_Mo_tick_4 : decode prog_10_method_17_code 4 = .ok (.if_icmp .ge 56, 3) := by decide +kernel
theorem d_Mo_tick_7 : decode prog_10_method_17_code 7 = .ok (.iconst 2, 1) := by decide +kernel
theorem d_Mo_tick_8 : decode prog_10_method_17_code 8 = .ok (.iload_n 1, 1) := by decide +kernel
theorem d_Mo_tick_9 : decode prog_10_method_17_code 9 = .ok (.imul, 1) := by decide +kernel
theorem d_Mo_tick_10 : decode prog_10_method_17_code 10 = .ok (.iload_n 2, 1) := by decide +kernel
theorem d_Mo_tick_11 : decode prog_10_method_17_code 11 = .ok (.iadd, 1) := by decide +kernel
theorem d_Mo_tick_12 : decode prog_10_method_17_code 12 = .ok (.istore_n 3, 1) := by decide +kernel
theorem d_Mo_tick_13 : decode prog_10_method_17_code 13 = .ok (.aload_n 0, 1) := by decide +kernel
theorem d_Mo_tick_14 : decode prog_10_method_17_code 14 = .ok (.getfield 67, 3) := by decide +kernel
theorem d_Mo_tick_17 : decode prog_10_method_17_code 17 = .ok (.iload_n 3, 1) := by decide +kernel
theorem d_Mo_tick_18 : decode prog_10_method_17_code 18 = .ok (.iaload, 1) := by decide +kernel
theorem d_Mo_tick_19 : decode prog_10_method_17_code 19 = .ok (.ifCond .le 35, 3) := by decide +kernel
theorem d_Mo_tick_22 : decode prog_10_method_17_code 22 = .ok (.aload_n 0, 1) := by decide +kernel
theorem d_Mo_tick_23 : decode prog_10_method_17_code 23 = .ok (.getfield 121, 3) := by decide +kernel
theorem d_Mo_tick_26 : decode prog_10_method_17_code 26 = .ok (.aload_n 0, 1) := by decide +kernel
theorem d_Mo_tick_27 : decode prog_10_method_17_code 27 = .ok (.getfield 73, 3) := by decide +kernel
theorem d_Mo_tick_30 : decode prog_10_method_17_code 30 = .ok (.bipush 6, 2) := by decide +kernel
theorem d_Mo_tick_32 : decode prog_10_method_17_code 32 = .ok (.iload_n 3, 1) := by decide +kernel
theorem d_Mo_tick_33 : decode prog_10_method_17_code 33 = .ok (.imul, 1) := by decide +kernel
theorem d_Mo_tick_34 : decode prog_10_method_17_code 34 = .ok (.iaload, 1) := by decide +kernel
theorem d_Mo_tick_35 : decode prog_10_method_17_code 35 = .ok (.isub, 1) := by decide +kernel
theorem d_Mo_tick_36 : decode prog_10_method_17_code 36 = .ok (.sipush 200, 3) := by decide +kernel
theorem d_Mo_tick_39 : decode prog_10_method_17_code 39 = .ok (.if_icmp .lt 15, 3) := by decide +kernel
theorem d_Mo_tick_42 : decode prog_10_method_17_code 42 = .ok (.aload_n 0, 1) := by decide +kernel
theorem d_Mo_tick_43 : decode prog_10_method_17_code 43 = .ok (.aload_n 0, 1) := by decide +kernel
theorem d_Mo_tick_44 : decode prog_10_method_17_code 44 = .ok (.iload_n 3, 1) := by decide +kernel
theorem d_Mo_tick_45 : decode prog_10_method_17_code 45 = .ok (.invokevirtual 113, 3) := by decide +kernel
theorem d_Mo_tick_48 : decode prog_10_method_17_code 48 = .ok (.invokevirtual 95, 3) := by decide +kernel
theorem d_Mo_tick_51 : decode prog_10_method_17_code 51 = .ok (.goto (-38), 3) := by decide +kernel
theorem d_Mo_tick_54 : decode prog_10_method_17_code 54 = .ok (.iinc 2 1, 3) := by decide +kernel
theorem d_Mo_tick_57 : decode prog_10_method_17_code 57 = .ok (.goto (-55), 3) := by decide +kernel
theorem d_Mo_tick_60 : decode prog_10_method_17_code 60 = .ok (.aload_n 0, 1) := by decide +kernel
theorem d_Mo_tick_61 : decode prog_10_method_17_code 61 = .ok (.iload_n 1, 1) := by decide +kernel
theorem d_Mo_tick_62 : decode prog_10_method_17_code 62 = .ok (.invokevirtual 124, 3) := by decide +kernel
theorem d_Mo_tick_65 : decode prog_10_method_17_code 65 = .ok (.aload_n 0, 1) := by decide +kernel
theorem d_Mo_tick_66 : decode prog_10_method_17_code 66 = .ok (.iload_n 1, 1) := by decide +kernel
theorem d_Mo_tick_67 : decode prog_10_method_17_code 67 = .ok (.invokevirtual 127, 3) := by decide +kernel
theorem d_Mo_tick_70 : decode prog_10_method_17_code 70 = .ok (.istore_n 2, 1) := by decide +kernel
theorem d_Mo_tick_71 : decode prog_10_method_17_code 71 = .ok (.iconst 0, 1) := by decide +kernel
theorem d_Mo_tick_72 : decode prog_10_method_17_code 72 = .ok (.istore_n 3, 1) := by decide +kernel
theorem d_Mo_tick_73 : decode prog_10_method_17_code 73 = .ok (.iload_n 3, 1) := by decide +kernel
theorem d_Mo_tick_74 : decode prog_10_method_17_code 74 = .ok (.aload_n 0, 1) := by decide +kernel
theorem d_Mo_tick_75 : decode prog_10_method_17_code 75 = .ok (.getfield 92, 3) := by decide +kernel
theorem d_Mo_tick_78 : decode prog_10_method_17_code 78 = .ok (.if_icmp .ge 15, 3) := by decide +kernel
theorem d_Mo_tick_81 : decode prog_10_method_17_code 81 = .ok (.aload_n 0, 1) := by decide +kernel
theorem d_Mo_tick_82 : decode prog_10_method_17_code 82 = .ok (.iload_n 1, 1) := by decide +kernel
theorem d_Mo_tick_83 : decode prog_10_method_17_code 83 = .ok (.iload_n 3, 1) := by decide +kernel
theorem d_Mo_tick_84 : decode prog_10_method_17_code 84 = .ok (.invokevirtual 130, 3) := by decide +kernel
theorem d_Mo_tick_87 : decode prog_10_method_17_code 87 = .ok (.iinc 3 1, 3) := by decide +kernel
theorem d_Mo_tick_90 : decode prog_10_method_17_code 90 = .ok (.goto (-17), 3) := by decide +kernel
theorem d_Mo_tick_93 : decode prog_10_method_17_code 93 = .ok (.aload_n 0, 1) := by decide +kernel
theorem d_Mo_tick_94 : decode prog_10_method_17_code 94 = .ok (.iload_n 1, 1) := by decide +kernel
theorem d_Mo_tick_95 : decode prog_10_method_17_code 95 = .ok (.invokevirtual 133, 3) := by decide +kernel
theorem d_Mo_tick_98 : decode prog_10_method_17_code 98 = .ok (.aload_n 0, 1) := by decide +kernel
theorem d_Mo_tick_99 : decode prog_10_method_17_code 99 = .ok (.iload_n 1, 1) := by decide +kernel
theorem d_Mo_tick_100 : decode prog_10_method_17_code 100 = .ok (.invokevirtual 136, 3) := by decide +kernel
theorem d_Mo_tick_103 : decode prog_10_method_17_code 103 = .ok (.iload_n 2, 1) := by decide +kernel
theorem d_Mo_tick_104 : decode prog_10_method_17_code 104 = .ok (.ireturn, 1) := by decide +kernel
abbrev m_Mo_beams : ac_I := (⟨"PairedGatesModel", "beams", "(II)V"⟩, prog_10_method_18_code, 3, none, [])
theorem d_Mo_beams_0 : decode prog_10_method_18_code 0 = .ok (.aload_n 0, 1) := by decide +kernel
theorem d_Mo_beams_1 : decode prog_10_method_18_code 1 = .ok (.iload_n 1, 1) := by decide +kernel
theorem d_Mo_beams_2 : decode prog_10_method_18_code 2 = .ok (.invokestatic 139, 3) := by decide +kernel
theorem d_Mo_beams_5 : decode prog_10_method_18_code 5 = .ok (.ifCond .eq 7, 3) := by decide +kernel
theorem d_Mo_beams_8 : decode prog_10_method_18_code 8 = .ok (.iconst 0, 1) := by decide +kernel
theorem d_Mo_beams_9 : decode prog_10_method_18_code 9 = .ok (.goto 4, 3) := by decide +kernel
theorem d_Mo_beams_12 : decode prog_10_method_18_code 12 = .ok (.iconst 1, 1) := by decide +kernel
theorem d_Mo_beams_13 : decode prog_10_method_18_code 13 = .ok (.invokevirtual 143, 3) := by decide +kernel
theorem d_Mo_beams_16 : decode prog_10_method_18_code 16 = .ok (.ifCond .ne 14, 3) := by decide +kernel
theorem d_Mo_beams_19 : decode prog_10_method_18_code 19 = .ok (.aload_n 0, 1) := by decide +kernel
theorem d_Mo_beams_20 : decode prog_10_method_18_code 20 = .ok (.getfield 7, 3) := by decide +kernel
theorem d_Mo_beams_23 : decode prog_10_method_18_code 23 = .ok (.iload_n 1, 1) := by decide +kernel
theorem d_Mo_beams_24 : decode prog_10_method_18_code 24 = .ok (.iload_n 2, 1) := by decide +kernel
theorem d_Mo_beams_25 : decode prog_10_method_18_code 25 = .ok (.sipush 1023, 3) := by decide +kernel
theorem d_Mo_beams_28 : decode prog_10_method_18_code 28 = .ok (.iand, 1) := by decide +kernel
theorem d_Mo_beams_29 : decode prog_10_method_18_code 29 = .ok (.iastore, 1) := by decide +kernel
theorem d_Mo_beams_30 : decode prog_10_method_18_code 30 = .ok (.return_, 1) := by decide +kernel
abbrev m_Mo_ticks : ac_I := (⟨"PairedGatesModel", "ticks", "(I)I"⟩, prog_10_method_19_code, 4, (some (.int)), [])
theorem d_Mo_ticks_0 : decode prog_10_method_19_code 0 = .ok (.aload_n 0, 1) := by decide +kernel
theorem d_Mo_ticks_1 : decode prog_10_method_19_code 1 = .ok (.iload_n 1, 1) := by decide +kernel
theorem d_Mo_ticks_2 : decode prog_10_method_19_code 2 = .ok (.iconst 1, 1) := by decide +kernel
theorem d_Mo_ticks_3 : decode prog_10_method_19_code 3 = .ok (.if_icmp .lt 10, 3) := by decide +kernel
theorem d_Mo_ticks_6 : decode prog_10_method_19_code 6 = .ok (.iload_n 1, 1) := by decide +kernel
theorem d_Mo_ticks_7 : decode prog_10_method_19_code 7 = .ok (.sipush 300, 3) := by decide +kernel
theorem d_Mo_ticks_10 : decode prog_10_method_19_code 10 = .ok (.if_icmp .le 7, 3) := by decide +kernel
theorem d_Mo_ticks_13 : decode prog_10_method_19_code 13 = .ok (.iconst 1, 1) := by decide +kernel
theorem d_Mo_ticks_14 : decode prog_10_method_19_code 14 = .ok (.goto 4, 3) := by decide +kernel
theorem d_Mo_ticks_17 : decode prog_10_method_19_code 17 = .ok (.iconst 0, 1) := by decide +kernel
theorem d_Mo_ticks_18 : decode prog_10_method_19_code 18 = .ok (.invokevirtual 143, 3) := by decide +kernel
theorem d_Mo_ticks_21 : decode prog_10_method_19_code 21 = .ok (.ifCond .eq 5, 3) := by decide +kernel
theorem d_Mo_ticks_24 : decode prog_10_method_19_code 24 = .ok (.iconst 0, 1) := by decide +kernel
theorem d_Mo_ticks_25 : decode prog_10_method_19_code 25 = .ok (.ireturn, 1) := by decide +kernel
theorem d_Mo_ticks_26 : decode prog_10_method_19_code 26 = .ok (.iconst 0, 1) := by decide +kernel
theorem d_Mo_ticks_27 : decode prog_10_method_19_code 27 = .ok (.istore_n 2, 1) := by decide +kernel
theorem d_Mo_ticks_28 : decode prog_10_method_19_code 28 = .ok (.iconst 0, 1) := by decide +kernel
theorem d_Mo_ticks_29 : decode prog_10_method_19_code 29 = .ok (.istore_n 3, 1) := by decide +kernel
theorem d_Mo_ticks_30 : decode prog_10_method_19_code 30 = .ok (.iload_n 3, 1) := by decide +kernel
theorem d_Mo_ticks_31 : decode prog_10_method_19_code 31 = .ok (.iload_n 1, 1) := by decide +kernel
theorem d_Mo_ticks_32 : decode prog_10_method_19_code 32 = .ok (.if_icmp .ge 35, 3) := by decide +kernel
theorem d_Mo_ticks_35 : decode prog_10_method_19_code 35 = .ok (.aload_n 0, 1) := by decide +kernel
theorem d_Mo_ticks_36 : decode prog_10_method_19_code 36 = .ok (.dup, 1) := by decide +kernel
theorem d_Mo_ticks_37 : decode prog_10_method_19_code 37 = .ok (.getfield 121, 3) := by decide +kernel
theorem d_Mo_ticks_40 : decode prog_10_method_19_code 40 = .ok (.iconst 1, 1) := by decide +kernel
theorem d_Mo_ticks_41 : decode prog_10_method_19_code 41 = .ok (.iadd, 1) := by decide +kernel
theorem d_Mo_ticks_42 : decode prog_10_method_19_code 42 = .ok (.putfield 121, 3) := by decide +kernel
theorem d_Mo_ticks_45 : decode prog_10_method_19_code 45 = .ok (.iload_n 2, 1) := by decide +kernel
theorem d_Mo_ticks_46 : decode prog_10_method_19_code 46 = .ok (.aload_n 0, 1) := by decide +kernel
theorem d_Mo_ticks_47 : decode prog_10_method_19_code 47 = .ok (.iconst 0, 1) := by decide +kernel
theorem d_Mo_ticks_48 : decode prog_10_method_19_code 48 = .ok (.invokevirtual 146, 3) := by decide +kernel
theorem d_Mo_ticks_51 : decode prog_10_method_19_code 51 = .ok (.iadd, 1) := by decide +kernel
theorem d_Mo_ticks_52 : decode prog_10_method_19_code 52 = .ok (.istore_n 2, 1) := by decide +kernel
theorem d_Mo_ticks_53 : decode prog_10_method_19_code 53 = .ok (.iload_n 2, 1) := by decide +kernel
theorem d_Mo_ticks_54 : decode prog_10_method_19_code 54 = .ok (.aload_n 0, 1) := by decide +kernel
theorem d_Mo_ticks_55 : decode prog_10_method_19_code 55 = .ok (.iconst 1, 1) := by decide +kernel
theorem d_Mo_ticks_56 : decode prog_10_method_19_code 56 = .ok (.invokevirtual 146, 3) := by decide +kernel
theorem d_Mo_ticks_59 : decode prog_10_method_19_code 59 = .ok (.iadd, 1) := by decide +kernel
theorem d_Mo_ticks_60 : decode prog_10_method_19_code 60 = .ok (.istore_n 2, 1) := by decide +kernel
theorem d_Mo_ticks_61 : decode prog_10_method_19_code 61 = .ok (.iinc 3 1, 3) := by decide +kernel
theorem d_Mo_ticks_64 : decode prog_10_method_19_code 64 = .ok (.goto (-34), 3) := by decide +kernel
theorem d_Mo_ticks_67 : decode prog_10_method_19_code 67 = .ok (.iload_n 2, 1) := by decide +kernel
theorem d_Mo_ticks_68 : decode prog_10_method_19_code 68 = .ok (.ireturn, 1) := by decide +kernel
abbrev m_Mo_isRepeated : ac_I := (⟨"PairedGatesModel", "isRepeated", "(I)Z"⟩, prog_10_method_20_code, 4, (some (.boolean)), [])
theorem d_Mo_isRepeated_0 : decode prog_10_method_20_code 0 = .ok (.iconst 0, 1) := by decide +kernel
theorem d_Mo_isRepeated_1 : decode prog_10_method_20_code 1 = .ok (.istore_n 2, 1) := by decide +kernel
theorem d_Mo_isRepeated_2 : decode prog_10_method_20_code 2 = .ok (.iconst 0, 1) := by decide +kernel
theorem d_Mo_isRepeated_3 : decode prog_10_method_20_code 3 = .ok (.istore_n 3, 1) := by decide +kernel
theorem d_Mo_isRepeated_4 : decode prog_10_method_20_code 4 = .ok (.iload_n 3, 1) := by decide +kernel
theorem d_Mo_isRepeated_5 : decode prog_10_method_20_code 5 = .ok (.aload_n 0, 1) := by decide +kernel
theorem d_Mo_isRepeated_6 : decode prog_10_method_20_code 6 = .ok (.getfield 149, 3) := by decide +kernel
theorem d_Mo_isRepeated_9 : decode prog_10_method_20_code 9 = .ok (.if_icmp .ge 46, 3) := by decide +kernel
theorem d_Mo_isRepeated_12 : decode prog_10_method_20_code 12 = .ok (.iload_n 2, 1) := by decide +kernel
theorem d_Mo_isRepeated_13 : decode prog_10_method_20_code 13 = .ok (.ifCond .ne 30, 3) := by decide +kernel
theorem d_Mo_isRepeated_16 : decode prog_10_method_20_code 16 = .ok (.aload_n 0, 1) := by decide +kernel
theorem d_Mo_isRepeated_17 : decode prog_10_method_20_code 17 = .ok (.getfield 76, 3) := by decide +kernel
theorem d_Mo_isRepeated_20 : decode prog_10_method_20_code 20 = .ok (.iload_n 3, 1) := by decide +kernel
theorem d_Mo_isRepeated_21 : decode prog_10_method_20_code 21 = .ok (.iaload, 1) := by decide +kernel
theorem d_Mo_isRepeated_22 : decode prog_10_method_20_code 22 = .ok (.iload_n 1, 1) := by decide +kernel
theorem d_Mo_isRepeated_23 : decode prog_10_method_20_code 23 = .ok (.if_icmp .ne 24, 3) := by decide +kernel
theorem d_Mo_isRepeated_26 : decode prog_10_method_20_code 26 = .ok (.aload_n 0, 1) := by decide +kernel
theorem d_Mo_isRepeated_27 : decode prog_10_method_20_code 27 = .ok (.getfield 121, 3) := by decide +kernel
theorem d_Mo_isRepeated_30 : decode prog_10_method_20_code 30 = .ok (.aload_n 0, 1) := by decide +kernel
theorem d_Mo_isRepeated_31 : decode prog_10_method_20_code 31 = .ok (.getfield 79, 3) := by decide +kernel
theorem d_Mo_isRepeated_34 : decode prog_10_method_20_code 34 = .ok (.iload_n 3, 1) := by decide +kernel
theorem d_Mo_isRepeated_35 : decode prog_10_method_20_code 35 = .ok (.iaload, 1) := by decide +kernel
theorem d_Mo_isRepeated_36 : decode prog_10_method_20_code 36 = .ok (.isub, 1) := by decide +kernel
theorem d_Mo_isRepeated_37 : decode prog_10_method_20_code 37 = .ok (.sipush 300, 3) := by decide +kernel
theorem d_Mo_isRepeated_40 : decode prog_10_method_20_code 40 = .ok (.if_icmp .ge 7, 3) := by decide +kernel
theorem d_Mo_isRepeated_43 : decode prog_10_method_20_code 43 = .ok (.iconst 1, 1) := by decide +kernel
theorem d_Mo_isRepeated_44 : decode prog_10_method_20_code 44 = .ok (.goto 4, 3) := by decide +kernel
theorem d_Mo_isRepeated_47 : decode prog_10_method_20_code 47 = .ok (.iconst 0, 1) := by decide +kernel
theorem d_Mo_isRepeated_48 : decode prog_10_method_20_code 48 = .ok (.istore_n 2, 1) := by decide +kernel
theorem d_Mo_isRepeated_49 : decode prog_10_method_20_code 49 = .ok (.iinc 3 1, 3) := by decide +kernel
theorem d_Mo_isRepeated_52 : decode prog_10_method_20_code 52 = .ok (.goto (-48), 3) := by decide +kernel
theorem d_Mo_isRepeated_55 : decode prog_10_method_20_code 55 = .ok (.iload_n 2, 1) := by decide +kernel
theorem d_Mo_isRepeated_56 : decode prog_10_method_20_code 56 = .ok (.ireturn, 1) := by decide +kernel
abbrev m_Mo_token : ac_I := (⟨"PairedGatesModel", "token", "(III)I"⟩, prog_10_method_21_code, 6, (some (.int)), [])
theorem d_Mo_token_0 : decode prog_10_method_21_code 0 = .ok (.iload_n 1, 1) := by decide +kernel
theorem d_Mo_token_1 : decode prog_10_method_21_code 1 = .ok (.invokestatic 139, 3) := by decide +kernel
theorem d_Mo_token_4 : decode prog_10_method_21_code 4 = .ok (.ifCond .eq 14, 3) := by decide +kernel
theorem d_Mo_token_7 : decode prog_10_method_21_code 7 = .ok (.iload_n 2, 1) := by decide +kernel
theorem d_Mo_token_8 : decode prog_10_method_21_code 8 = .ok (.invokestatic 139, 3) := by decide +kernel
theorem d_Mo_token_11 : decode prog_10_method_21_code 11 = .ok (.ifCond .eq 7, 3) := by decide +kernel
theorem d_Mo_token_14 : decode prog_10_method_21_code 14 = .ok (.iconst 1, 1) := by decide +kernel
theorem d_Mo_token_15 : decode prog_10_method_21_code 15 = .ok (.goto 4, 3) := by decide +kernel
theorem d_Mo_token_18 : decode prog_10_method_21_code 18 = .ok (.iconst 0, 1) := by decide +kernel
theorem d_Mo_token_19 : decode prog_10_method_21_code 19 = .ok (.istore 4, 2) := by decide +kernel
theorem d_Mo_token_21 : decode prog_10_method_21_code 21 = .ok (.aload_n 0, 1) := by decide +kernel
theorem d_Mo_token_22 : decode prog_10_method_21_code 22 = .ok (.iload 4, 2) := by decide +kernel
theorem d_Mo_token_24 : decode prog_10_method_21_code 24 = .ok (.ifCond .ne 7, 3) := by decide +kernel
theorem d_Mo_token_27 : decode prog_10_method_21_code 27 = .ok (.iconst 1, 1) := by decide +kernel
theorem d_Mo_token_28 : decode prog_10_method_21_code 28 = .ok (.goto 12, 3) := by decide +kernel
theorem d_Mo_token_31 : decode prog_10_method_21_code 31 = .ok (.iload_n 3, 1) := by decide +kernel
theorem d_Mo_token_32 : decode prog_10_method_21_code 32 = .ok (.ifCond .ge 7, 3) := by decide +kernel
theorem d_Mo_token_35 : decode prog_10_method_21_code 35 = .ok (.iconst 2, 1) := by decide +kernel
theorem d_Mo_token_36 : decode prog_10_method_21_code 36 = .ok (.goto 4, 3) := by decide +kernel
theorem d_Mo_token_39 : decode prog_10_method_21_code 39 = .ok (.iconst 0, 1) := by decide +kernel
theorem d_Mo_token_40 : decode prog_10_method_21_code 40 = .ok (.invokevirtual 143, 3) := by decide +kernel
theorem d_Mo_token_43 : decode prog_10_method_21_code 43 = .ok (.ifCond .eq 5, 3) := by decide +kernel
theorem d_Mo_token_46 : decode prog_10_method_21_code 46 = .ok (.iconst 0, 1) := by decide +kernel
theorem d_Mo_token_47 : decode prog_10_method_21_code 47 = .ok (.ireturn, 1) := by decide +kernel
theorem d_Mo_token_48 : decode prog_10_method_21_code 48 = .ok (.iconst 2, 1) := by decide +kernel
theorem d_Mo_token_49 : decode prog_10_method_21_code 49 = .ok (.iload_n 1, 1) := by decide +kernel
theorem d_Mo_token_50 : decode prog_10_method_21_code 50 = .ok (.imul, 1) := by decide +kernel
theorem d_Mo_token_51 : decode prog_10_method_21_code 51 = .ok (.iload_n 2, 1) := by decide +kernel
theorem d_Mo_token_52 : decode prog_10_method_21_code 52 = .ok (.iadd, 1) := by decide +kernel
theorem d_Mo_token_53 : decode prog_10_method_21_code 53 = .ok (.istore 5, 2) := by decide +kernel
theorem d_Mo_token_55 : decode prog_10_method_21_code 55 = .ok (.aload_n 0, 1) := by decide +kernel
theorem d_Mo_token_56 : decode prog_10_method_21_code 56 = .ok (.iload_n 1, 1) := by decide +kernel
theorem d_Mo_token_57 : decode prog_10_method_21_code 57 = .ok (.iload_n 2, 1) := by decide +kernel
theorem d_Mo_token_58 : decode prog_10_method_21_code 58 = .ok (.invokevirtual 152, 3) := by decide +kernel
theorem d_Mo_token_61 : decode prog_10_method_21_code 61 = .ok (.ifCond .ne 5, 3) := by decide +kernel
theorem d_Mo_token_64 : decode prog_10_method_21_code 64 = .ok (.iconst 1, 1) := by decide +kernel
theorem d_Mo_token_65 : decode prog_10_method_21_code 65 = .ok (.ireturn, 1) := by decide +kernel
theorem d_Mo_token_66 : decode prog_10_method_21_code 66 = .ok (.aload_n 0, 1) := by decide +kernel
theorem d_Mo_token_67 : decode prog_10_method_21_code 67 = .ok (.iload_n 3, 1) := by decide +kernel
theorem d_Mo_token_68 : decode prog_10_method_21_code 68 = .ok (.invokevirtual 156, 3) := by decide +kernel
theorem d_Mo_token_71 : decode prog_10_method_21_code 71 = .ok (.ifCond .eq 5, 3) := by decide +kernel
theorem d_Mo_token_74 : decode prog_10_method_21_code 74 = .ok (.iconst 3, 1) := by decide +kernel
theorem d_Mo_token_75 : decode prog_10_method_21_code 75 = .ok (.ireturn, 1) := by decide +kernel
theorem d_Mo_token_76 : decode prog_10_method_21_code 76 = .ok (.aload_n 0, 1) := by decide +kernel
theorem d_Mo_token_77 : decode prog_10_method_21_code 77 = .ok (.getfield 67, 3) := by decide +kernel
theorem d_Mo_token_80 : decode prog_10_method_21_code 80 = .ok (.iload 5, 2) := by decide +kernel
theorem d_Mo_token_82 : decode prog_10_method_21_code 82 = .ok (.iaload, 1) := by decide +kernel
theorem d_Mo_token_83 : decode prog_10_method_21_code 83 = .ok (.bipush 6, 2) := by decide +kernel
theorem d_Mo_token_85 : decode prog_10_method_21_code 85 = .ok (.if_icmp .ne 5, 3) := by decide +kernel
theorem d_Mo_token_88 : decode prog_10_method_21_code 88 = .ok (.iconst 2, 1) := by decide +kernel
theorem d_Mo_token_89 : decode prog_10_method_21_code 89 = .ok (.ireturn, 1) := by decide +kernel
theorem d_Mo_token_90 : decode prog_10_method_21_code 90 = .ok (.aload_n 0, 1) := by decide +kernel
theorem d_Mo_token_91 : decode prog_10_method_21_code 91 = .ok (.getfield 70, 3) := by decide +kernel
theorem d_Mo_token_94 : decode prog_10_method_21_code 94 = .ok (.bipush 6, 2) := by decide +kernel
theorem d_Mo_token_96 : decode prog_10_method_21_code 96 = .ok (.iload 5, 2) := by decide +kernel
theorem d_Mo_token_98 : decode prog_10_method_21_code 98 = .ok (.imul, 1) := by decide +kernel
theorem d_Mo_token_99 : decode prog_10_method_21_code 99 = .ok (.aload_n 0, 1) := by decide +kernel
theorem d_Mo_token_100 : decode prog_10_method_21_code 100 = .ok (.getfield 67, 3) := by decide +kernel
theorem d_Mo_token_103 : decode prog_10_method_21_code 103 = .ok (.iload 5, 2) := by decide +kernel
theorem d_Mo_token_105 : decode prog_10_method_21_code 105 = .ok (.iaload, 1) := by decide +kernel
theorem d_Mo_token_106 : decode prog_10_method_21_code 106 = .ok (.iadd, 1) := by decide +kernel
theorem d_Mo_token_107 : decode prog_10_method_21_code 107 = .ok (.iload_n 3, 1) := by decide +kernel
theorem d_Mo_token_108 : decode prog_10_method_21_code 108 = .ok (.iastore, 1) := by decide +kernel
theorem d_Mo_token_109 : decode prog_10_method_21_code 109 = .ok (.aload_n 0, 1) := by decide +kernel
theorem d_Mo_token_110 : decode prog_10_method_21_code 110 = .ok (.getfield 73, 3) := by decide +kernel
theorem d_Mo_token_113 : decode prog_10_method_21_code 113 = .ok (.bipush 6, 2) := by decide +kernel
theorem d_Mo_token_115 : decode prog_10_method_21_code 115 = .ok (.iload 5, 2) := by decide +kernel
theorem d_Mo_token_117 : decode prog_10_method_21_code 117 = .ok (.imul, 1) := by decide +kernel
theorem d_Mo_token_118 : decode prog_10_method_21_code 118 = .ok (.aload_n 0, 1) := by decide +kernel
theorem d_Mo_token_119 : decode prog_10_method_21_code 119 = .ok (.getfield 67, 3) := by decide +kernel
theorem d_Mo_token_122 : decode prog_10_method_21_code 122 = .ok (.iload 5, 2) := by decide +kernel
theorem d_Mo_token_124 : decode prog_10_method_21_code 124 = .ok (.iaload, 1) := by decide +kernel
theorem d_Mo_token_125 : decode prog_10_method_21_code 125 = .ok (.iadd, 1) := by decide +kernel
theorem d_Mo_token_126 : decode prog_10_method_21_code 126 = .ok (.aload_n 0, 1) := by decide +kernel
theorem d_Mo_token_127 : decode prog_10_method_21_code 127 = .ok (.getfield 121, 3) := by decide +kernel
theorem d_Mo_token_130 : decode prog_10_method_21_code 130 = .ok (.iastore, 1) := by decide +kernel
theorem d_Mo_token_131 : decode prog_10_method_21_code 131 = .ok (.aload_n 0, 1) := by decide +kernel
theorem d_Mo_token_132 : decode prog_10_method_21_code 132 = .ok (.getfield 67, 3) := by decide +kernel
theorem d_Mo_token_135 : decode prog_10_method_21_code 135 = .ok (.iload 5, 2) := by decide +kernel
theorem d_Mo_token_137 : decode prog_10_method_21_code 137 = .ok (.dup2, 1) := by decide +kernel
theorem d_Mo_token_138 : decode prog_10_method_21_code 138 = .ok (.iaload, 1) := by decide +kernel
theorem d_Mo_token_139 : decode prog_10_method_21_code 139 = .ok (.iconst 1, 1) := by decide +kernel
theorem d_Mo_token_140 : decode prog_10_method_21_code 140 = .ok (.iadd, 1) := by decide +kernel
theorem d_Mo_token_141 : decode prog_10_method_21_code 141 = .ok (.iastore, 1) := by decide +kernel
theorem d_Mo_token_142 : decode prog_10_method_21_code 142 = .ok (.aload_n 0, 1) := by decide +kernel
theorem d_Mo_token_143 : decode prog_10_method_21_code 143 = .ok (.getfield 76, 3) := by decide +kernel
theorem d_Mo_token_146 : decode prog_10_method_21_code 146 = .ok (.aload_n 0, 1) := by decide +kernel
theorem d_Mo_token_147 : decode prog_10_method_21_code 147 = .ok (.getfield 149, 3) := by decide +kernel
theorem d_Mo_token_150 : decode prog_10_method_21_code 150 = .ok (.iload_n 3, 1) := by decide +kernel
theorem d_Mo_token_151 : decode prog_10_method_21_code 151 = .ok (.iastore, 1) := by decide +kernel
theorem d_Mo_token_152 : decode prog_10_method_21_code 152 = .ok (.aload_n 0, 1) := by decide +kernel
theorem d_Mo_token_153 : decode prog_10_method_21_code 153 = .ok (.getfield 79, 3) := by decide +kernel
theorem d_Mo_token_156 : decode prog_10_method_21_code 156 = .ok (.aload_n 0, 1) := by decide +kernel
theorem d_Mo_token_157 : decode prog_10_method_21_code 157 = .ok (.getfield 149, 3) := by decide +kernel
theorem d_Mo_token_160 : decode prog_10_method_21_code 160 = .ok (.aload_n 0, 1) := by decide +kernel
theorem d_Mo_token_161 : decode prog_10_method_21_code 161 = .ok (.getfield 121, 3) := by decide +kernel
theorem d_Mo_token_164 : decode prog_10_method_21_code 164 = .ok (.iastore, 1) := by decide +kernel
theorem d_Mo_token_165 : decode prog_10_method_21_code 165 = .ok (.aload_n 0, 1) := by decide +kernel
theorem d_Mo_token_166 : decode prog_10_method_21_code 166 = .ok (.dup, 1) := by decide +kernel
theorem d_Mo_token_167 : decode prog_10_method_21_code 167 = .ok (.getfield 149, 3) := by decide +kernel
theorem d_Mo_token_170 : decode prog_10_method_21_code 170 = .ok (.iconst 1, 1) := by decide +kernel
theorem d_Mo_token_171 : decode prog_10_method_21_code 171 = .ok (.iadd, 1) := by decide +kernel
theorem d_Mo_token_172 : decode prog_10_method_21_code 172 = .ok (.putfield 149, 3) := by decide +kernel
theorem d_Mo_token_175 : decode prog_10_method_21_code 175 = .ok (.iconst 0, 1) := by decide +kernel
theorem d_Mo_token_176 : decode prog_10_method_21_code 176 = .ok (.ireturn, 1) := by decide +kernel
abbrev m_Mo_cancel : ac_I := (⟨"PairedGatesModel", "cancel", "(II)I"⟩, prog_10_method_22_code, 5, (some (.int)), [])
theorem d_Mo_cancel_0 : decode prog_10_method_22_code 0 = .ok (.aload_n 0, 1) := by decide +kernel
theorem d_Mo_cancel_1 : decode prog_10_method_22_code 1 = .ok (.iload_n 1, 1) := by decide +kernel
theorem d_Mo_cancel_2 : decode prog_10_method_22_code 2 = .ok (.invokestatic 139, 3) := by decide +kernel
theorem d_Mo_cancel_5 : decode prog_10_method_22_code 5 = .ok (.ifCond .eq 14, 3) := by decide +kernel
theorem d_Mo_cancel_8 : decode prog_10_method_22_code 8 = .ok (.iload_n 2, 1) := by decide +kernel
theorem d_Mo_cancel_9 : decode prog_10_method_22_code 9 = .ok (.invokestatic 139, 3) := by decide +kernel
theorem d_Mo_cancel_12 : decode prog_10_method_22_code 12 = .ok (.ifCond .eq 7, 3) := by decide +kernel
theorem d_Mo_cancel_15 : decode prog_10_method_22_code 15 = .ok (.iconst 0, 1) := by decide +kernel
theorem d_Mo_cancel_16 : decode prog_10_method_22_code 16 = .ok (.goto 4, 3) := by decide +kernel
theorem d_Mo_cancel_19 : decode prog_10_method_22_code 19 = .ok (.iconst 1, 1) := by decide +kernel
theorem d_Mo_cancel_20 : decode prog_10_method_22_code 20 = .ok (.invokevirtual 143, 3) := by decide +kernel
theorem d_Mo_cancel_23 : decode prog_10_method_22_code 23 = .ok (.ifCond .eq 5, 3) := by decide +kernel
theorem d_Mo_cancel_26 : decode prog_10_method_22_code 26 = .ok (.iconst 0, 1) := by decide +kernel
theorem d_Mo_cancel_27 : decode prog_10_method_22_code 27 = .ok (.ireturn, 1) := by decide +kernel
theorem d_Mo_cancel_28 : decode prog_10_method_22_code 28 = .ok (.iconst 2, 1) := by decide +kernel
theorem d_Mo_cancel_29 : decode prog_10_method_22_code 29 = .ok (.iload_n 1, 1) := by decide +kernel
theorem d_Mo_cancel_30 : decode prog_10_method_22_code 30 = .ok (.imul, 1) := by decide +kernel
theorem d_Mo_cancel_31 : decode prog_10_method_22_code 31 = .ok (.iload_n 2, 1) := by decide +kernel
theorem d_Mo_cancel_32 : decode prog_10_method_22_code 32 = .ok (.iadd, 1) := by decide +kernel
theorem d_Mo_cancel_33 : decode prog_10_method_22_code 33 = .ok (.istore_n 3, 1) := by decide +kernel
theorem d_Mo_cancel_34 : decode prog_10_method_22_code 34 = .ok (.aload_n 0, 1) := by decide +kernel
theorem d_Mo_cancel_35 : decode prog_10_method_22_code 35 = .ok (.getfield 67, 3) := by decide +kernel
theorem d_Mo_cancel_38 : decode prog_10_method_22_code 38 = .ok (.iload_n 3, 1) := by decide +kernel
theorem d_Mo_cancel_39 : decode prog_10_method_22_code 39 = .ok (.iaload, 1) := by decide +kernel
theorem d_Mo_cancel_40 : decode prog_10_method_22_code 40 = .ok (.ifCond .ne 5, 3) := by decide +kernel
theorem d_Mo_cancel_43 : decode prog_10_method_22_code 43 = .ok (.iconst (-1), 1) := by decide +kernel
theorem d_Mo_cancel_44 : decode prog_10_method_22_code 44 = .ok (.ireturn, 1) := by decide +kernel
theorem d_Mo_cancel_45 : decode prog_10_method_22_code 45 = .ok (.aload_n 0, 1) := by decide +kernel
theorem d_Mo_cancel_46 : decode prog_10_method_22_code 46 = .ok (.iload_n 3, 1) := by decide +kernel
theorem d_Mo_cancel_47 : decode prog_10_method_22_code 47 = .ok (.invokevirtual 113, 3) := by decide +kernel
theorem d_Mo_cancel_50 : decode prog_10_method_22_code 50 = .ok (.istore 4, 2) := by decide +kernel
theorem d_Mo_cancel_52 : decode prog_10_method_22_code 52 = .ok (.aload_n 0, 1) := by decide +kernel
theorem d_Mo_cancel_53 : decode prog_10_method_22_code 53 = .ok (.iload 4, 2) := by decide +kernel
theorem d_Mo_cancel_55 : decode prog_10_method_22_code 55 = .ok (.invokevirtual 95, 3) := by decide +kernel
theorem d_Mo_cancel_58 : decode prog_10_method_22_code 58 = .ok (.iload 4, 2) := by decide +kernel
theorem d_Mo_cancel_60 : decode prog_10_method_22_code 60 = .ok (.ireturn, 1) := by decide +kernel
abbrev m_Mo_mode : ac_I := (⟨"PairedGatesModel", "mode", "(II)I"⟩, prog_10_method_23_code, 6, (some (.int)), [])
theorem d_Mo_mode_0 : decode prog_10_method_23_code 0 = .ok (.aload_n 0, 1) := by decide +kernel
theorem d_Mo_mode_1 : decode prog_10_method_23_code 1 = .ok (.iload_n 1, 1) := by decide +kernel
theorem d_Mo_mode_2 : decode prog_10_method_23_code 2 = .ok (.invokestatic 139, 3) := by decide +kernel
theorem d_Mo_mode_5 : decode prog_10_method_23_code 5 = .ok (.ifCond .ne 7, 3) := by decide +kernel
theorem d_Mo_mode_8 : decode prog_10_method_23_code 8 = .ok (.iconst 1, 1) := by decide +kernel
theorem d_Mo_mode_9 : decode prog_10_method_23_code 9 = .ok (.goto 30, 3) := by decide +kernel
theorem d_Mo_mode_12 : decode prog_10_method_23_code 12 = .ok (.iload_n 2, 1) := by decide +kernel
theorem d_Mo_mode_13 : decode prog_10_method_23_code 13 = .ok (.ifCond .lt 8, 3) := by decide +kernel
theorem d_Mo_mode_16 : decode prog_10_method_23_code 16 = .ok (.iload_n 2, 1) := by decide +kernel
theorem d_Mo_mode_17 : decode prog_10_method_23_code 17 = .ok (.iconst 3, 1) := by decide +kernel
theorem d_Mo_mode_18 : decode prog_10_method_23_code 18 = .ok (.if_icmp .le 7, 3) := by decide +kernel
theorem d_Mo_mode_21 : decode prog_10_method_23_code 21 = .ok (.iconst 2, 1) := by decide +kernel
theorem d_Mo_mode_22 : decode prog_10_method_23_code 22 = .ok (.goto 17, 3) := by decide +kernel
theorem d_Mo_mode_25 : decode prog_10_method_23_code 25 = .ok (.aload_n 0, 1) := by decide +kernel
theorem d_Mo_mode_26 : decode prog_10_method_23_code 26 = .ok (.getfield 34, 3) := by decide +kernel
theorem d_Mo_mode_29 : decode prog_10_method_23_code 29 = .ok (.iload_n 1, 1) := by decide +kernel
theorem d_Mo_mode_30 : decode prog_10_method_23_code 30 = .ok (.iaload, 1) := by decide +kernel
theorem d_Mo_mode_31 : decode prog_10_method_23_code 31 = .ok (.ifCond .le 7, 3) := by decide +kernel
theorem d_Mo_mode_34 : decode prog_10_method_23_code 34 = .ok (.iconst 3, 1) := by decide +kernel
theorem d_Mo_mode_35 : decode prog_10_method_23_code 35 = .ok (.goto 4, 3) := by decide +kernel
theorem d_Mo_mode_38 : decode prog_10_method_23_code 38 = .ok (.iconst 0, 1) := by decide +kernel
theorem d_Mo_mode_39 : decode prog_10_method_23_code 39 = .ok (.invokevirtual 143, 3) := by decide +kernel
theorem d_Mo_mode_42 : decode prog_10_method_23_code 42 = .ok (.ifCond .eq 5, 3) := by decide +kernel
theorem d_Mo_mode_45 : decode prog_10_method_23_code 45 = .ok (.iconst 0, 1) := by decide +kernel
theorem d_Mo_mode_46 : decode prog_10_method_23_code 46 = .ok (.ireturn, 1) := by decide +kernel
theorem d_Mo_mode_47 : decode prog_10_method_23_code 47 = .ok (.aload_n 0, 1) := by decide +kernel
theorem d_Mo_mode_48 : decode prog_10_method_23_code 48 = .ok (.getfield 22, 3) := by decide +kernel
theorem d_Mo_mode_51 : decode prog_10_method_23_code 51 = .ok (.iload_n 1, 1) := by decide +kernel
theorem d_Mo_mode_52 : decode prog_10_method_23_code 52 = .ok (.iload_n 2, 1) := by decide +kernel
theorem d_Mo_mode_53 : decode prog_10_method_23_code 53 = .ok (.iastore, 1) := by decide +kernel
theorem d_Mo_mode_54 : decode prog_10_method_23_code 54 = .ok (.iconst 0, 1) := by decide +kernel
theorem d_Mo_mode_55 : decode prog_10_method_23_code 55 = .ok (.istore_n 3, 1) := by decide +kernel
theorem d_Mo_mode_56 : decode prog_10_method_23_code 56 = .ok (.iconst 0, 1) := by decide +kernel
theorem d_Mo_mode_57 : decode prog_10_method_23_code 57 = .ok (.istore 4, 2) := by decide +kernel
theorem d_Mo_mode_59 : decode prog_10_method_23_code 59 = .ok (.iload 4, 2) := by decide +kernel
theorem d_Mo_mode_61 : decode prog_10_method_23_code 61 = .ok (.iconst 2, 1) := by decide +kernel
theorem d_Mo_mode_62 : decode prog_10_method_23_code 62 = .ok (.if_icmp .ge 53, 3) := by decide +kernel
theorem d_Mo_mode_65 : decode prog_10_method_23_code 65 = .ok (.iconst 2, 1) := by decide +kernel
theorem d_Mo_mode_66 : decode prog_10_method_23_code 66 = .ok (.iload_n 1, 1) := by decide +kernel
theorem d_Mo_mode_67 : decode prog_10_method_23_code 67 = .ok (.imul, 1) := by decide +kernel
theorem d_Mo_mode_68 : decode prog_10_method_23_code 68 = .ok (.iload 4, 2) := by decide +kernel
theorem d_Mo_mode_70 : decode prog_10_method_23_code 70 = .ok (.iadd, 1) := by decide +kernel
theorem d_Mo_mode_71 : decode prog_10_method_23_code 71 = .ok (.istore 5, 2) := by decide +kernel
theorem d_Mo_mode_73 : decode prog_10_method_23_code 73 = .ok (.aload_n 0, 1) := by decide +kernel
theorem d_Mo_mode_74 : decode prog_10_method_23_code 74 = .ok (.getfield 67, 3) := by decide +kernel
theorem d_Mo_mode_77 : decode prog_10_method_23_code 77 = .ok (.iload 5, 2) := by decide +kernel
theorem d_Mo_mode_79 : decode prog_10_method_23_code 79 = .ok (.iaload, 1) := by decide +kernel
theorem d_Mo_mode_80 : decode prog_10_method_23_code 80 = .ok (.ifCond .le 29, 3) := by decide +kernel
theorem d_Mo_mode_83 : decode prog_10_method_23_code 83 = .ok (.aload_n 0, 1) := by decide +kernel
theorem d_Mo_mode_84 : decode prog_10_method_23_code 84 = .ok (.iload_n 1, 1) := by decide +kernel
theorem d_Mo_mode_85 : decode prog_10_method_23_code 85 = .ok (.iload 4, 2) := by decide +kernel
theorem d_Mo_mode_87 : decode prog_10_method_23_code 87 = .ok (.invokevirtual 152, 3) := by decide +kernel
theorem d_Mo_mode_90 : decode prog_10_method_23_code 90 = .ok (.ifCond .ne 19, 3) := by decide +kernel
theorem d_Mo_mode_93 : decode prog_10_method_23_code 93 = .ok (.aload_n 0, 1) := by decide +kernel
theorem d_Mo_mode_94 : decode prog_10_method_23_code 94 = .ok (.aload_n 0, 1) := by decide +kernel
theorem d_Mo_mode_95 : decode prog_10_method_23_code 95 = .ok (.iload 5, 2) := by decide +kernel
theorem d_Mo_mode_97 : decode prog_10_method_23_code 97 = .ok (.invokevirtual 113, 3) := by decide +kernel
theorem d_Mo_mode_100 : decode prog_10_method_23_code 100 = .ok (.invokevirtual 95, 3) := by decide +kernel
theorem d_Mo_mode_103 : decode prog_10_method_23_code 103 = .ok (.iinc 3 1, 3) := by decide +kernel
theorem d_Mo_mode_106 : decode prog_10_method_23_code 106 = .ok (.goto (-33), 3) := by decide +kernel
theorem d_Mo_mode_109 : decode prog_10_method_23_code 109 = .ok (.iinc 4 1, 3) := by decide +kernel
theorem d_Mo_mode_112 : decode prog_10_method_23_code 112 = .ok (.goto (-53), 3) := by decide +kernel
theorem d_Mo_mode_115 : decode prog_10_method_23_code 115 = .ok (.iload_n 3, 1) := by decide +kernel
theorem d_Mo_mode_116 : decode prog_10_method_23_code 116 = .ok (.ireturn, 1) := by decide +kernel
