abbrev m_Mo_alarm : ac_I := (⟨"PairedGatesModel", "alarm", "(Z)V"⟩, prog_10_method_24_code, 2, none, [])
theorem d_Mo_alarm_0 : decode prog_10_method_24_code 0 = .ok (.aload_n 0, 1) := by decide +kernel
theorem d_Mo_alarm_1 : decode prog_10_method_24_code 1 = .ok (.iconst 0, 1) := by decide +kernel
theorem d_Mo_alarm_2 : decode prog_10_method_24_code 2 = .ok (.putfield 85, 3) := by decide +kernel
theorem d_Mo_alarm_5 : decode prog_10_method_24_code 5 = .ok (.aload_n 0, 1) := by decide +kernel
theorem d_Mo_alarm_6 : decode prog_10_method_24_code 6 = .ok (.iload_n 1, 1) := by decide +kernel
theorem d_Mo_alarm_7 : decode prog_10_method_24_code 7 = .ok (.putfield 117, 3) := by decide +kernel
theorem d_Mo_alarm_10 : decode prog_10_method_24_code 10 = .ok (.return_, 1) := by decide +kernel
abbrev m_Mo_time : ac_I := (⟨"PairedGatesModel", "time", "()I"⟩, prog_10_method_25_code, 1, (some (.int)), [])
theorem d_Mo_time_0 : decode prog_10_method_25_code 0 = .ok (.aload_n 0, 1) := by decide +kernel
theorem d_Mo_time_1 : decode prog_10_method_25_code 1 = .ok (.iconst 0, 1) := by decide +kernel
theorem d_Mo_time_2 : decode prog_10_method_25_code 2 = .ok (.putfield 85, 3) := by decide +kernel
theorem d_Mo_time_5 : decode prog_10_method_25_code 5 = .ok (.aload_n 0, 1) := by decide +kernel
theorem d_Mo_time_6 : decode prog_10_method_25_code 6 = .ok (.getfield 121, 3) := by decide +kernel
theorem d_Mo_time_9 : decode prog_10_method_25_code 9 = .ok (.ireturn, 1) := by decide +kernel
abbrev m_Mo_bodies : ac_I := (⟨"PairedGatesModel", "bodies", "(I)I"⟩, prog_10_method_26_code, 2, (some (.int)), [])
theorem d_Mo_bodies_0 : decode prog_10_method_26_code 0 = .ok (.aload_n 0, 1) := by decide +kernel
theorem d_Mo_bodies_1 : decode prog_10_method_26_code 1 = .ok (.iload_n 1, 1) := by decide +kernel
theorem d_Mo_bodies_2 : decode prog_10_method_26_code 2 = .ok (.invokestatic 139, 3) := by decide +kernel
theorem d_Mo_bodies_5 : decode prog_10_method_26_code 5 = .ok (.ifCond .eq 7, 3) := by decide +kernel
theorem d_Mo_bodies_8 : decode prog_10_method_26_code 8 = .ok (.iconst 0, 1) := by decide +kernel
theorem d_Mo_bodies_9 : decode prog_10_method_26_code 9 = .ok (.goto 4, 3) := by decide +kernel
theorem d_Mo_bodies_12 : decode prog_10_method_26_code 12 = .ok (.iconst 1, 1) := by decide +kernel
theorem d_Mo_bodies_13 : decode prog_10_method_26_code 13 = .ok (.invokevirtual 143, 3) := by decide +kernel
theorem d_Mo_bodies_16 : decode prog_10_method_26_code 16 = .ok (.ifCond .eq 7, 3) := by decide +kernel
theorem d_Mo_bodies_19 : decode prog_10_method_26_code 19 = .ok (.iconst 0, 1) := by decide +kernel
theorem d_Mo_bodies_20 : decode prog_10_method_26_code 20 = .ok (.goto 9, 3) := by decide +kernel
theorem d_Mo_bodies_23 : decode prog_10_method_26_code 23 = .ok (.aload_n 0, 1) := by decide +kernel
theorem d_Mo_bodies_24 : decode prog_10_method_26_code 24 = .ok (.getfield 34, 3) := by decide +kernel
theorem d_Mo_bodies_27 : decode prog_10_method_26_code 27 = .ok (.iload_n 1, 1) := by decide +kernel
theorem d_Mo_bodies_28 : decode prog_10_method_26_code 28 = .ok (.iaload, 1) := by decide +kernel
theorem d_Mo_bodies_29 : decode prog_10_method_26_code 29 = .ok (.ireturn, 1) := by decide +kernel
abbrev m_Mo_body : ac_I := (⟨"PairedGatesModel", "body", "(III)I"⟩, prog_10_method_27_code, 6, (some (.int)), [])
theorem d_Mo_body_0 : decode prog_10_method_27_code 0 = .ok (.iload_n 1, 1) := by decide +kernel
theorem d_Mo_body_1 : decode prog_10_method_27_code 1 = .ok (.invokestatic 139, 3) := by decide +kernel
theorem d_Mo_body_4 : decode prog_10_method_27_code 4 = .ok (.ifCond .eq 21, 3) := by decide +kernel
theorem d_Mo_body_7 : decode prog_10_method_27_code 7 = .ok (.iload_n 2, 1) := by decide +kernel
theorem d_Mo_body_8 : decode prog_10_method_27_code 8 = .ok (.ifCond .lt 17, 3) := by decide +kernel
theorem d_Mo_body_11 : decode prog_10_method_27_code 11 = .ok (.iload_n 2, 1) := by decide +kernel
theorem d_Mo_body_12 : decode prog_10_method_27_code 12 = .ok (.aload_n 0, 1) := by decide +kernel
theorem d_Mo_body_13 : decode prog_10_method_27_code 13 = .ok (.getfield 34, 3) := by decide +kernel
theorem d_Mo_body_16 : decode prog_10_method_27_code 16 = .ok (.iload_n 1, 1) := by decide +kernel
theorem d_Mo_body_17 : decode prog_10_method_27_code 17 = .ok (.iaload, 1) := by decide +kernel
theorem d_Mo_body_18 : decode prog_10_method_27_code 18 = .ok (.if_icmp .ge 7, 3) := by decide +kernel
theorem d_Mo_body_21 : decode prog_10_method_27_code 21 = .ok (.iconst 1, 1) := by decide +kernel
theorem d_Mo_body_22 : decode prog_10_method_27_code 22 = .ok (.goto 4, 3) := by decide +kernel
theorem d_Mo_body_25 : decode prog_10_method_27_code 25 = .ok (.iconst 0, 1) := by decide +kernel
theorem d_Mo_body_26 : decode prog_10_method_27_code 26 = .ok (.istore 4, 2) := by decide +kernel
theorem d_Mo_body_28 : decode prog_10_method_27_code 28 = .ok (.aload_n 0, 1) := by decide +kernel
theorem d_Mo_body_29 : decode prog_10_method_27_code 29 = .ok (.iload 4, 2) := by decide +kernel
theorem d_Mo_body_31 : decode prog_10_method_27_code 31 = .ok (.ifCond .ne 7, 3) := by decide +kernel
theorem d_Mo_body_34 : decode prog_10_method_27_code 34 = .ok (.iconst 1, 1) := by decide +kernel
theorem d_Mo_body_35 : decode prog_10_method_27_code 35 = .ok (.goto 17, 3) := by decide +kernel
theorem d_Mo_body_38 : decode prog_10_method_27_code 38 = .ok (.iload_n 3, 1) := by decide +kernel
theorem d_Mo_body_39 : decode prog_10_method_27_code 39 = .ok (.ifCond .lt 8, 3) := by decide +kernel
theorem d_Mo_body_42 : decode prog_10_method_27_code 42 = .ok (.iload_n 3, 1) := by decide +kernel
theorem d_Mo_body_43 : decode prog_10_method_27_code 43 = .ok (.iconst 4, 1) := by decide +kernel
theorem d_Mo_body_44 : decode prog_10_method_27_code 44 = .ok (.if_icmp .le 7, 3) := by decide +kernel
theorem d_Mo_body_47 : decode prog_10_method_27_code 47 = .ok (.iconst 2, 1) := by decide +kernel
theorem d_Mo_body_48 : decode prog_10_method_27_code 48 = .ok (.goto 4, 3) := by decide +kernel
theorem d_Mo_body_51 : decode prog_10_method_27_code 51 = .ok (.iconst 0, 1) := by decide +kernel
theorem d_Mo_body_52 : decode prog_10_method_27_code 52 = .ok (.invokevirtual 143, 3) := by decide +kernel
theorem d_Mo_body_55 : decode prog_10_method_27_code 55 = .ok (.ifCond .eq 5, 3) := by decide +kernel
theorem d_Mo_body_58 : decode prog_10_method_27_code 58 = .ok (.iconst 0, 1) := by decide +kernel
theorem d_Mo_body_59 : decode prog_10_method_27_code 59 = .ok (.ireturn, 1) := by decide +kernel
theorem d_Mo_body_60 : decode prog_10_method_27_code 60 = .ok (.iconst 5, 1) := by decide +kernel
theorem d_Mo_body_61 : decode prog_10_method_27_code 61 = .ok (.iload_n 1, 1) := by decide +kernel
theorem d_Mo_body_62 : decode prog_10_method_27_code 62 = .ok (.imul, 1) := by decide +kernel
theorem d_Mo_body_63 : decode prog_10_method_27_code 63 = .ok (.iload_n 2, 1) := by decide +kernel
theorem d_Mo_body_64 : decode prog_10_method_27_code 64 = .ok (.iadd, 1) := by decide +kernel
theorem d_Mo_body_65 : decode prog_10_method_27_code 65 = .ok (.istore 5, 2) := by decide +kernel
theorem d_Mo_body_67 : decode prog_10_method_27_code 67 = .ok (.iload_n 3, 1) := by decide +kernel
theorem d_Mo_body_68 : decode prog_10_method_27_code 68 = .ok (.ifCond .ne 13, 3) := by decide +kernel
theorem d_Mo_body_71 : decode prog_10_method_27_code 71 = .ok (.aload_n 0, 1) := by decide +kernel
theorem d_Mo_body_72 : decode prog_10_method_27_code 72 = .ok (.getfield 37, 3) := by decide +kernel
theorem d_Mo_body_75 : decode prog_10_method_27_code 75 = .ok (.iload 5, 2) := by decide +kernel
theorem d_Mo_body_77 : decode prog_10_method_27_code 77 = .ok (.iaload, 1) := by decide +kernel
theorem d_Mo_body_78 : decode prog_10_method_27_code 78 = .ok (.goto 55, 3) := by decide +kernel
theorem d_Mo_body_81 : decode prog_10_method_27_code 81 = .ok (.iload_n 3, 1) := by decide +kernel
theorem d_Mo_body_82 : decode prog_10_method_27_code 82 = .ok (.iconst 1, 1) := by decide +kernel
theorem d_Mo_body_83 : decode prog_10_method_27_code 83 = .ok (.if_icmp .ne 13, 3) := by decide +kernel
theorem d_Mo_body_86 : decode prog_10_method_27_code 86 = .ok (.aload_n 0, 1) := by decide +kernel
theorem d_Mo_body_87 : decode prog_10_method_27_code 87 = .ok (.getfield 40, 3) := by decide +kernel
theorem d_Mo_body_90 : decode prog_10_method_27_code 90 = .ok (.iload 5, 2) := by decide +kernel
theorem d_Mo_body_92 : decode prog_10_method_27_code 92 = .ok (.iaload, 1) := by decide +kernel
theorem d_Mo_body_93 : decode prog_10_method_27_code 93 = .ok (.goto 40, 3) := by decide +kernel
theorem d_Mo_body_96 : decode prog_10_method_27_code 96 = .ok (.iload_n 3, 1) := by decide +kernel
theorem d_Mo_body_97 : decode prog_10_method_27_code 97 = .ok (.iconst 2, 1) := by decide +kernel
theorem d_Mo_body_98 : decode prog_10_method_27_code 98 = .ok (.if_icmp .ne 13, 3) := by decide +kernel
theorem d_Mo_body_101 : decode prog_10_method_27_code 101 = .ok (.aload_n 0, 1) := by decide +kernel
theorem d_Mo_body_102 : decode prog_10_method_27_code 102 = .ok (.getfield 43, 3) := by decide +kernel
theorem d_Mo_body_105 : decode prog_10_method_27_code 105 = .ok (.iload 5, 2) := by decide +kernel
theorem d_Mo_body_107 : decode prog_10_method_27_code 107 = .ok (.iaload, 1) := by decide +kernel
theorem d_Mo_body_108 : decode prog_10_method_27_code 108 = .ok (.goto 25, 3) := by decide +kernel
theorem d_Mo_body_111 : decode prog_10_method_27_code 111 = .ok (.iload_n 3, 1) := by decide +kernel
theorem d_Mo_body_112 : decode prog_10_method_27_code 112 = .ok (.iconst 3, 1) := by decide +kernel
theorem d_Mo_body_113 : decode prog_10_method_27_code 113 = .ok (.if_icmp .ne 13, 3) := by decide +kernel
theorem d_Mo_body_116 : decode prog_10_method_27_code 116 = .ok (.aload_n 0, 1) := by decide +kernel
theorem d_Mo_body_117 : decode prog_10_method_27_code 117 = .ok (.getfield 46, 3) := by decide +kernel
theorem d_Mo_body_120 : decode prog_10_method_27_code 120 = .ok (.iload 5, 2) := by decide +kernel
theorem d_Mo_body_122 : decode prog_10_method_27_code 122 = .ok (.iaload, 1) := by decide +kernel
theorem d_Mo_body_123 : decode prog_10_method_27_code 123 = .ok (.goto 10, 3) := by decide +kernel
theorem d_Mo_body_126 : decode prog_10_method_27_code 126 = .ok (.aload_n 0, 1) := by decide +kernel
theorem d_Mo_body_127 : decode prog_10_method_27_code 127 = .ok (.getfield 49, 3) := by decide +kernel
theorem d_Mo_body_130 : decode prog_10_method_27_code 130 = .ok (.iload 5, 2) := by decide +kernel
theorem d_Mo_body_132 : decode prog_10_method_27_code 132 = .ok (.iaload, 1) := by decide +kernel
theorem d_Mo_body_133 : decode prog_10_method_27_code 133 = .ok (.ireturn, 1) := by decide +kernel
abbrev m_Mo_waiting : ac_I := (⟨"PairedGatesModel", "waiting", "(II)I"⟩, prog_10_method_28_code, 3, (some (.int)), [])
theorem d_Mo_waiting_0 : decode prog_10_method_28_code 0 = .ok (.aload_n 0, 1) := by decide +kernel
theorem d_Mo_waiting_1 : decode prog_10_method_28_code 1 = .ok (.iload_n 1, 1) := by decide +kernel
theorem d_Mo_waiting_2 : decode prog_10_method_28_code 2 = .ok (.invokestatic 139, 3) := by decide +kernel
theorem d_Mo_waiting_5 : decode prog_10_method_28_code 5 = .ok (.ifCond .eq 14, 3) := by decide +kernel
theorem d_Mo_waiting_8 : decode prog_10_method_28_code 8 = .ok (.iload_n 2, 1) := by decide +kernel
theorem d_Mo_waiting_9 : decode prog_10_method_28_code 9 = .ok (.invokestatic 139, 3) := by decide +kernel
theorem d_Mo_waiting_12 : decode prog_10_method_28_code 12 = .ok (.ifCond .eq 7, 3) := by decide +kernel
theorem d_Mo_waiting_15 : decode prog_10_method_28_code 15 = .ok (.iconst 0, 1) := by decide +kernel
theorem d_Mo_waiting_16 : decode prog_10_method_28_code 16 = .ok (.goto 4, 3) := by decide +kernel
theorem d_Mo_waiting_19 : decode prog_10_method_28_code 19 = .ok (.iconst 1, 1) := by decide +kernel
theorem d_Mo_waiting_20 : decode prog_10_method_28_code 20 = .ok (.invokevirtual 143, 3) := by decide +kernel
theorem d_Mo_waiting_23 : decode prog_10_method_28_code 23 = .ok (.ifCond .eq 7, 3) := by decide +kernel
theorem d_Mo_waiting_26 : decode prog_10_method_28_code 26 = .ok (.iconst 0, 1) := by decide +kernel
theorem d_Mo_waiting_27 : decode prog_10_method_28_code 27 = .ok (.goto 13, 3) := by decide +kernel
theorem d_Mo_waiting_30 : decode prog_10_method_28_code 30 = .ok (.aload_n 0, 1) := by decide +kernel
theorem d_Mo_waiting_31 : decode prog_10_method_28_code 31 = .ok (.getfield 67, 3) := by decide +kernel
theorem d_Mo_waiting_34 : decode prog_10_method_28_code 34 = .ok (.iconst 2, 1) := by decide +kernel
theorem d_Mo_waiting_35 : decode prog_10_method_28_code 35 = .ok (.iload_n 1, 1) := by decide +kernel
theorem d_Mo_waiting_36 : decode prog_10_method_28_code 36 = .ok (.imul, 1) := by decide +kernel
theorem d_Mo_waiting_37 : decode prog_10_method_28_code 37 = .ok (.iload_n 2, 1) := by decide +kernel
theorem d_Mo_waiting_38 : decode prog_10_method_28_code 38 = .ok (.iadd, 1) := by decide +kernel
theorem d_Mo_waiting_39 : decode prog_10_method_28_code 39 = .ok (.iaload, 1) := by decide +kernel
theorem d_Mo_waiting_40 : decode prog_10_method_28_code 40 = .ok (.ireturn, 1) := by decide +kernel
abbrev m_Mo_waits : ac_I := (⟨"PairedGatesModel", "waits", "(III)I"⟩, prog_10_method_29_code, 5, (some (.int)), [])
theorem d_Mo_waits_0 : decode prog_10_method_29_code 0 = .ok (.aload_n 0, 1) := by decide +kernel
theorem d_Mo_waits_1 : decode prog_10_method_29_code 1 = .ok (.iload_n 1, 1) := by decide +kernel
theorem d_Mo_waits_2 : decode prog_10_method_29_code 2 = .ok (.invokestatic 139, 3) := by decide +kernel
theorem d_Mo_waits_5 : decode prog_10_method_29_code 5 = .ok (.ifCond .eq 14, 3) := by decide +kernel
theorem d_Mo_waits_8 : decode prog_10_method_29_code 8 = .ok (.iload_n 2, 1) := by decide +kernel
theorem d_Mo_waits_9 : decode prog_10_method_29_code 9 = .ok (.invokestatic 139, 3) := by decide +kernel
theorem d_Mo_waits_12 : decode prog_10_method_29_code 12 = .ok (.ifCond .eq 7, 3) := by decide +kernel
theorem d_Mo_waits_15 : decode prog_10_method_29_code 15 = .ok (.iconst 0, 1) := by decide +kernel
theorem d_Mo_waits_16 : decode prog_10_method_29_code 16 = .ok (.goto 4, 3) := by decide +kernel
theorem d_Mo_waits_19 : decode prog_10_method_29_code 19 = .ok (.iconst 1, 1) := by decide +kernel
theorem d_Mo_waits_20 : decode prog_10_method_29_code 20 = .ok (.invokevirtual 143, 3) := by decide +kernel
theorem d_Mo_waits_23 : decode prog_10_method_29_code 23 = .ok (.ifCond .eq 5, 3) := by decide +kernel
theorem d_Mo_waits_26 : decode prog_10_method_29_code 26 = .ok (.iconst 0, 1) := by decide +kernel
theorem d_Mo_waits_27 : decode prog_10_method_29_code 27 = .ok (.ireturn, 1) := by decide +kernel
theorem d_Mo_waits_28 : decode prog_10_method_29_code 28 = .ok (.iconst 2, 1) := by decide +kernel
theorem d_Mo_waits_29 : decode prog_10_method_29_code 29 = .ok (.iload_n 1, 1) := by decide +kernel
theorem d_Mo_waits_30 : decode prog_10_method_29_code 30 = .ok (.imul, 1) := by decide +kernel
theorem d_Mo_waits_31 : decode prog_10_method_29_code 31 = .ok (.iload_n 2, 1) := by decide +kernel
theorem d_Mo_waits_32 : decode prog_10_method_29_code 32 = .ok (.iadd, 1) := by decide +kernel
theorem d_Mo_waits_33 : decode prog_10_method_29_code 33 = .ok (.istore 4, 2) := by decide +kernel
theorem d_Mo_waits_35 : decode prog_10_method_29_code 35 = .ok (.iload_n 3, 1) := by decide +kernel
theorem d_Mo_waits_36 : decode prog_10_method_29_code 36 = .ok (.ifCond .lt 14, 3) := by decide +kernel
theorem d_Mo_waits_39 : decode prog_10_method_29_code 39 = .ok (.iload_n 3, 1) := by decide +kernel
theorem d_Mo_waits_40 : decode prog_10_method_29_code 40 = .ok (.aload_n 0, 1) := by decide +kernel
theorem d_Mo_waits_41 : decode prog_10_method_29_code 41 = .ok (.getfield 67, 3) := by decide +kernel
theorem d_Mo_waits_44 : decode prog_10_method_29_code 44 = .ok (.iload 4, 2) := by decide +kernel
theorem d_Mo_waits_46 : decode prog_10_method_29_code 46 = .ok (.iaload, 1) := by decide +kernel
theorem d_Mo_waits_47 : decode prog_10_method_29_code 47 = .ok (.if_icmp .lt 7, 3) := by decide +kernel
theorem d_Mo_waits_50 : decode prog_10_method_29_code 50 = .ok (.iconst (-1), 1) := by decide +kernel
theorem d_Mo_waits_51 : decode prog_10_method_29_code 51 = .ok (.goto 15, 3) := by decide +kernel
theorem d_Mo_waits_54 : decode prog_10_method_29_code 54 = .ok (.aload_n 0, 1) := by decide +kernel
theorem d_Mo_waits_55 : decode prog_10_method_29_code 55 = .ok (.getfield 70, 3) := by decide +kernel
theorem d_Mo_waits_58 : decode prog_10_method_29_code 58 = .ok (.bipush 6, 2) := by decide +kernel
theorem d_Mo_waits_60 : decode prog_10_method_29_code 60 = .ok (.iload 4, 2) := by decide +kernel
theorem d_Mo_waits_62 : decode prog_10_method_29_code 62 = .ok (.imul, 1) := by decide +kernel
theorem d_Mo_waits_63 : decode prog_10_method_29_code 63 = .ok (.iload_n 3, 1) := by decide +kernel
theorem d_Mo_waits_64 : decode prog_10_method_29_code 64 = .ok (.iadd, 1) := by decide +kernel
theorem d_Mo_waits_65 : decode prog_10_method_29_code 65 = .ok (.iaload, 1) := by decide +kernel
theorem d_Mo_waits_66 : decode prog_10_method_29_code 66 = .ok (.ireturn, 1) := by decide +kernel
abbrev m_Mo_count : ac_I := (⟨"PairedGatesModel", "count", "(II)I"⟩, prog_10_method_30_code, 3, (some (.int)), [])
theorem d_Mo_count_0 : decode prog_10_method_30_code 0 = .ok (.aload_n 0, 1) := by decide +kernel
theorem d_Mo_count_1 : decode prog_10_method_30_code 1 = .ok (.iload_n 1, 1) := by decide +kernel
theorem d_Mo_count_2 : decode prog_10_method_30_code 2 = .ok (.invokestatic 139, 3) := by decide +kernel
theorem d_Mo_count_5 : decode prog_10_method_30_code 5 = .ok (.ifCond .eq 7, 3) := by decide +kernel
theorem d_Mo_count_8 : decode prog_10_method_30_code 8 = .ok (.iconst 0, 1) := by decide +kernel
theorem d_Mo_count_9 : decode prog_10_method_30_code 9 = .ok (.goto 4, 3) := by decide +kernel
theorem d_Mo_count_12 : decode prog_10_method_30_code 12 = .ok (.iconst 1, 1) := by decide +kernel
theorem d_Mo_count_13 : decode prog_10_method_30_code 13 = .ok (.invokevirtual 143, 3) := by decide +kernel
theorem d_Mo_count_16 : decode prog_10_method_30_code 16 = .ok (.ifCond .eq 5, 3) := by decide +kernel
theorem d_Mo_count_19 : decode prog_10_method_30_code 19 = .ok (.iconst 0, 1) := by decide +kernel
theorem d_Mo_count_20 : decode prog_10_method_30_code 20 = .ok (.ireturn, 1) := by decide +kernel
theorem d_Mo_count_21 : decode prog_10_method_30_code 21 = .ok (.iload_n 2, 1) := by decide +kernel
theorem d_Mo_count_22 : decode prog_10_method_30_code 22 = .ok (.ifCond .lt 8, 3) := by decide +kernel
theorem d_Mo_count_25 : decode prog_10_method_30_code 25 = .ok (.iload_n 2, 1) := by decide +kernel
theorem d_Mo_count_26 : decode prog_10_method_30_code 26 = .ok (.iconst 4, 1) := by decide +kernel
theorem d_Mo_count_27 : decode prog_10_method_30_code 27 = .ok (.if_icmp .le 7, 3) := by decide +kernel
theorem d_Mo_count_30 : decode prog_10_method_30_code 30 = .ok (.iconst 0, 1) := by decide +kernel
theorem d_Mo_count_31 : decode prog_10_method_30_code 31 = .ok (.goto 13, 3) := by decide +kernel
theorem d_Mo_count_34 : decode prog_10_method_30_code 34 = .ok (.aload_n 0, 1) := by decide +kernel
theorem d_Mo_count_35 : decode prog_10_method_30_code 35 = .ok (.getfield 31, 3) := by decide +kernel
theorem d_Mo_count_38 : decode prog_10_method_30_code 38 = .ok (.iconst 5, 1) := by decide +kernel
theorem d_Mo_count_39 : decode prog_10_method_30_code 39 = .ok (.iload_n 1, 1) := by decide +kernel
theorem d_Mo_count_40 : decode prog_10_method_30_code 40 = .ok (.imul, 1) := by decide +kernel
theorem d_Mo_count_41 : decode prog_10_method_30_code 41 = .ok (.iload_n 2, 1) := by decide +kernel
theorem d_Mo_count_42 : decode prog_10_method_30_code 42 = .ok (.iadd, 1) := by decide +kernel
theorem d_Mo_count_43 : decode prog_10_method_30_code 43 = .ok (.iaload, 1) := by decide +kernel
theorem d_Mo_count_44 : decode prog_10_method_30_code 44 = .ok (.ireturn, 1) := by decide +kernel
abbrev m_Mo_angle : ac_I := (⟨"PairedGatesModel", "angle", "(I)I"⟩, prog_10_method_31_code, 2, (some (.int)), [])
theorem d_Mo_angle_0 : decode prog_10_method_31_code 0 = .ok (.aload_n 0, 1) := by decide +kernel
theorem d_Mo_angle_1 : decode prog_10_method_31_code 1 = .ok (.iload_n 1, 1) := by decide +kernel
theorem d_Mo_angle_2 : decode prog_10_method_31_code 2 = .ok (.invokestatic 139, 3) := by decide +kernel
theorem d_Mo_angle_5 : decode prog_10_method_31_code 5 = .ok (.ifCond .eq 7, 3) := by decide +kernel
theorem d_Mo_angle_8 : decode prog_10_method_31_code 8 = .ok (.iconst 0, 1) := by decide +kernel
theorem d_Mo_angle_9 : decode prog_10_method_31_code 9 = .ok (.goto 4, 3) := by decide +kernel
theorem d_Mo_angle_12 : decode prog_10_method_31_code 12 = .ok (.iconst 1, 1) := by decide +kernel
theorem d_Mo_angle_13 : decode prog_10_method_31_code 13 = .ok (.invokevirtual 143, 3) := by decide +kernel
theorem d_Mo_angle_16 : decode prog_10_method_31_code 16 = .ok (.ifCond .eq 7, 3) := by decide +kernel
theorem d_Mo_angle_19 : decode prog_10_method_31_code 19 = .ok (.iconst 0, 1) := by decide +kernel
theorem d_Mo_angle_20 : decode prog_10_method_31_code 20 = .ok (.goto 9, 3) := by decide +kernel
theorem d_Mo_angle_23 : decode prog_10_method_31_code 23 = .ok (.aload_n 0, 1) := by decide +kernel
theorem d_Mo_angle_24 : decode prog_10_method_31_code 24 = .ok (.getfield 25, 3) := by decide +kernel
theorem d_Mo_angle_27 : decode prog_10_method_31_code 27 = .ok (.iload_n 1, 1) := by decide +kernel
theorem d_Mo_angle_28 : decode prog_10_method_31_code 28 = .ok (.iaload, 1) := by decide +kernel
theorem d_Mo_angle_29 : decode prog_10_method_31_code 29 = .ok (.ireturn, 1) := by decide +kernel
abbrev m_Mo_order : ac_I := (⟨"PairedGatesModel", "order", "(I)I"⟩, prog_10_method_32_code, 2, (some (.int)), [])
theorem d_Mo_order_0 : decode prog_10_method_32_code 0 = .ok (.aload_n 0, 1) := by decide +kernel
theorem d_Mo_order_1 : decode prog_10_method_32_code 1 = .ok (.iload_n 1, 1) := by decide +kernel
theorem d_Mo_order_2 : decode prog_10_method_32_code 2 = .ok (.invokestatic 139, 3) := by decide +kernel
theorem d_Mo_order_5 : decode prog_10_method_32_code 5 = .ok (.ifCond .eq 7, 3) := by decide +kernel
theorem d_Mo_order_8 : decode prog_10_method_32_code 8 = .ok (.iconst 0, 1) := by decide +kernel
theorem d_Mo_order_9 : decode prog_10_method_32_code 9 = .ok (.goto 4, 3) := by decide +kernel
theorem d_Mo_order_12 : decode prog_10_method_32_code 12 = .ok (.iconst 1, 1) := by decide +kernel
theorem d_Mo_order_13 : decode prog_10_method_32_code 13 = .ok (.invokevirtual 143, 3) := by decide +kernel
theorem d_Mo_order_16 : decode prog_10_method_32_code 16 = .ok (.ifCond .eq 7, 3) := by decide +kernel
theorem d_Mo_order_19 : decode prog_10_method_32_code 19 = .ok (.iconst 0, 1) := by decide +kernel
theorem d_Mo_order_20 : decode prog_10_method_32_code 20 = .ok (.goto 9, 3) := by decide +kernel
theorem d_Mo_order_23 : decode prog_10_method_32_code 23 = .ok (.aload_n 0, 1) := by decide +kernel
theorem d_Mo_order_24 : decode prog_10_method_32_code 24 = .ok (.getfield 28, 3) := by decide +kernel
theorem d_Mo_order_27 : decode prog_10_method_32_code 27 = .ok (.iload_n 1, 1) := by decide +kernel
theorem d_Mo_order_28 : decode prog_10_method_32_code 28 = .ok (.iaload, 1) := by decide +kernel
theorem d_Mo_order_29 : decode prog_10_method_32_code 29 = .ok (.ireturn, 1) := by decide +kernel
abbrev m_Mo_seen : ac_I := (⟨"PairedGatesModel", "seen", "(I)I"⟩, prog_10_method_33_code, 2, (some (.int)), [])
theorem d_Mo_seen_0 : decode prog_10_method_33_code 0 = .ok (.aload_n 0, 1) := by decide +kernel
theorem d_Mo_seen_1 : decode prog_10_method_33_code 1 = .ok (.iload_n 1, 1) := by decide +kernel
theorem d_Mo_seen_2 : decode prog_10_method_33_code 2 = .ok (.invokestatic 139, 3) := by decide +kernel
theorem d_Mo_seen_5 : decode prog_10_method_33_code 5 = .ok (.ifCond .eq 7, 3) := by decide +kernel
theorem d_Mo_seen_8 : decode prog_10_method_33_code 8 = .ok (.iconst 0, 1) := by decide +kernel
theorem d_Mo_seen_9 : decode prog_10_method_33_code 9 = .ok (.goto 4, 3) := by decide +kernel
theorem d_Mo_seen_12 : decode prog_10_method_33_code 12 = .ok (.iconst 1, 1) := by decide +kernel
theorem d_Mo_seen_13 : decode prog_10_method_33_code 13 = .ok (.invokevirtual 143, 3) := by decide +kernel
theorem d_Mo_seen_16 : decode prog_10_method_33_code 16 = .ok (.ifCond .eq 7, 3) := by decide +kernel
theorem d_Mo_seen_19 : decode prog_10_method_33_code 19 = .ok (.iconst 0, 1) := by decide +kernel
theorem d_Mo_seen_20 : decode prog_10_method_33_code 20 = .ok (.goto 9, 3) := by decide +kernel
theorem d_Mo_seen_23 : decode prog_10_method_33_code 23 = .ok (.aload_n 0, 1) := by decide +kernel
theorem d_Mo_seen_24 : decode prog_10_method_33_code 24 = .ok (.getfield 19, 3) := by decide +kernel
theorem d_Mo_seen_27 : decode prog_10_method_33_code 27 = .ok (.iload_n 1, 1) := by decide +kernel
theorem d_Mo_seen_28 : decode prog_10_method_33_code 28 = .ok (.iaload, 1) := by decide +kernel
theorem d_Mo_seen_29 : decode prog_10_method_33_code 29 = .ok (.ireturn, 1) := by decide +kernel
abbrev m_Mo_accepted : ac_I := (⟨"PairedGatesModel", "accepted", "()I"⟩, prog_10_method_34_code, 1, (some (.int)), [])
theorem d_Mo_accepted_0 : decode prog_10_method_34_code 0 = .ok (.aload_n 0, 1) := by decide +kernel
theorem d_Mo_accepted_1 : decode prog_10_method_34_code 1 = .ok (.iconst 0, 1) := by decide +kernel
theorem d_Mo_accepted_2 : decode prog_10_method_34_code 2 = .ok (.putfield 85, 3) := by decide +kernel
theorem d_Mo_accepted_5 : decode prog_10_method_34_code 5 = .ok (.aload_n 0, 1) := by decide +kernel
theorem d_Mo_accepted_6 : decode prog_10_method_34_code 6 = .ok (.getfield 149, 3) := by decide +kernel
theorem d_Mo_accepted_9 : decode prog_10_method_34_code 9 = .ok (.ireturn, 1) := by decide +kernel
abbrev m_Mo_refunds : ac_I := (⟨"PairedGatesModel", "refunds", "()I"⟩, prog_10_method_35_code, 1, (some (.int)), [])
theorem d_Mo_refunds_0 : decode prog_10_method_35_code 0 = .ok (.aload_n 0, 1) := by decide +kernel
theorem d_Mo_refunds_1 : decode prog_10_method_35_code 1 = .ok (.iconst 0, 1) := by decide +kernel
theorem d_Mo_refunds_2 : decode prog_10_method_35_code 2 = .ok (.putfield 85, 3) := by decide +kernel
theorem d_Mo_refunds_5 : decode prog_10_method_35_code 5 = .ok (.aload_n 0, 1) := by decide +kernel
theorem d_Mo_refunds_6 : decode prog_10_method_35_code 6 = .ok (.getfield 89, 3) := by decide +kernel
theorem d_Mo_refunds_9 : decode prog_10_method_35_code 9 = .ok (.ireturn, 1) := by decide +kernel
abbrev m_Mo_refund : ac_I := (⟨"PairedGatesModel", "refund", "(I)I"⟩, prog_10_method_36_code, 2, (some (.int)), [])
theorem d_Mo_refund_0 : decode prog_10_method_36_code 0 = .ok (.aload_n 0, 1) := by decide +kernel
theorem d_Mo_refund_1 : decode prog_10_method_36_code 1 = .ok (.iconst 0, 1) := by decide +kernel
theorem d_Mo_refund_2 : decode prog_10_method_36_code 2 = .ok (.putfield 85, 3) := by decide +kernel
theorem d_Mo_refund_5 : decode prog_10_method_36_code 5 = .ok (.iload_n 1, 1) := by decide +kernel
theorem d_Mo_refund_6 : decode prog_10_method_36_code 6 = .ok (.ifCond .lt 11, 3) := by decide +kernel
theorem d_Mo_refund_9 : decode prog_10_method_36_code 9 = .ok (.iload_n 1, 1) := by decide +kernel
theorem d_Mo_refund_10 : decode prog_10_method_36_code 10 = .ok (.aload_n 0, 1) := by decide +kernel
theorem d_Mo_refund_11 : decode prog_10_method_36_code 11 = .ok (.getfield 89, 3) := by decide +kernel
theorem d_Mo_refund_14 : decode prog_10_method_36_code 14 = .ok (.if_icmp .lt 7, 3) := by decide +kernel
theorem d_Mo_refund_17 : decode prog_10_method_36_code 17 = .ok (.iconst (-1), 1) := by decide +kernel
theorem d_Mo_refund_18 : decode prog_10_method_36_code 18 = .ok (.goto 9, 3) := by decide +kernel
theorem d_Mo_refund_21 : decode prog_10_method_36_code 21 = .ok (.aload_n 0, 1) := by decide +kernel
theorem d_Mo_refund_22 : decode prog_10_method_36_code 22 = .ok (.getfield 82, 3) := by decide +kernel
theorem d_Mo_refund_25 : decode prog_10_method_36_code 25 = .ok (.iload_n 1, 1) := by decide +kernel
theorem d_Mo_refund_26 : decode prog_10_method_36_code 26 = .ok (.iaload, 1) := by decide +kernel
theorem d_Mo_refund_27 : decode prog_10_method_36_code 27 = .ok (.ireturn, 1) := by decide +kernel
abbrev m_Blobs_init : ac_I := (⟨"PairedGates$Blobs", "<init>", "()V"⟩, prog_2_method_1_code, 1, none, [])
theorem d_Blobs_init_0 : decode prog_2_method_1_code 0 = .ok (.aload_n 0, 1) := by decide +kernel
theorem d_Blobs_init_1 : decode prog_2_method_1_code 1 = .ok (.invokespecial 3, 3) := by decide +kernel
theorem d_Blobs_init_4 : decode prog_2_method_1_code 4 = .ok (.aload_n 0, 1) := by decide +kernel
theorem d_Blobs_init_5 : decode prog_2_method_1_code 5 = .ok (.iconst 4, 1) := by decide +kernel
theorem d_Blobs_init_6 : decode prog_2_method_1_code 6 = .ok (.newarray .int, 2) := by decide +kernel
theorem d_Blobs_init_8 : decode prog_2_method_1_code 8 = .ok (.putfield 9, 3) := by decide +kernel
theorem d_Blobs_init_11 : decode prog_2_method_1_code 11 = .ok (.aload_n 0, 1) := by decide +kernel
theorem d_Blobs_init_12 : decode prog_2_method_1_code 12 = .ok (.iconst 4, 1) := by decide +kernel
theorem d_Blobs_init_13 : decode prog_2_method_1_code 13 = .ok (.newarray .int, 2) := by decide +kernel
theorem d_Blobs_init_15 : decode prog_2_method_1_code 15 = .ok (.putfield 15, 3) := by decide +kernel
theorem d_Blobs_init_18 : decode prog_2_method_1_code 18 = .ok (.aload_n 0, 1) := by decide +kernel
theorem d_Blobs_init_19 : decode prog_2_method_1_code 19 = .ok (.iconst 0, 1) := by decide +kernel
theorem d_Blobs_init_20 : decode prog_2_method_1_code 20 = .ok (.putfield 18, 3) := by decide +kernel
theorem d_Blobs_init_23 : decode prog_2_method_1_code 23 = .ok (.return_, 1) := by decide +kernel
abbrev m_Blobs_find : ac_I := (⟨"PairedGates$Blobs", "find", "(I)V"⟩, prog_2_method_2_code, 3, none, [])
theorem d_Blobs_find_0 : decode prog_2_method_2_code 0 = .ok (.aload_n 0, 1) := by decide +kernel
theorem d_Blobs_find_1 : decode prog_2_method_2_code 1 = .ok (.iconst 0, 1) := by decide +kernel
theorem d_Blobs_find_2 : decode prog_2_method_2_code 2 = .ok (.putfield 18, 3) := by decide +kernel
theorem d_Blobs_find_5 : decode prog_2_method_2_code 5 = .ok (.iconst 0, 1) := by decide +kernel
theorem d_Blobs_find_6 : decode prog_2_method_2_code 6 = .ok (.istore_n 2, 1) := by decide +kernel
theorem d_Blobs_find_7 : decode prog_2_method_2_code 7 = .ok (.iload_n 2, 1) := by decide +kernel
theorem d_Blobs_find_8 : decode prog_2_method_2_code 8 = .ok (.bipush 10, 2) := by decide +kernel
theorem d_Blobs_find_10 : decode prog_2_method_2_code 10 = .ok (.if_icmp .ge 22, 3) := by decide +kernel
theorem d_Blobs_find_13 : decode prog_2_method_2_code 13 = .ok (.iload_n 1, 1) := by decide +kernel
theorem d_Blobs_find_14 : decode prog_2_method_2_code 14 = .ok (.iload_n 2, 1) := by decide +kernel
theorem d_Blobs_find_15 : decode prog_2_method_2_code 15 = .ok (.ishr, 1) := by decide +kernel
theorem d_Blobs_find_16 : decode prog_2_method_2_code 16 = .ok (.iconst 1, 1) := by decide +kernel
theorem d_Blobs_find_17 : decode prog_2_method_2_code 17 = .ok (.iand, 1) := by decide +kernel
theorem d_Blobs_find_18 : decode prog_2_method_2_code 18 = .ok (.ifCond .eq 8, 3) := by decide +kernel
theorem d_Blobs_find_21 : decode prog_2_method_2_code 21 = .ok (.aload_n 0, 1) := by decide +kernel
theorem d_Blobs_find_22 : decode prog_2_method_2_code 22 = .ok (.iload_n 2, 1) := by decide +kernel
theorem d_Blobs_find_23 : decode prog_2_method_2_code 23 = .ok (.invokevirtual 22, 3) := by decide +kernel
theorem d_Blobs_find_26 : decode prog_2_method_2_code 26 = .ok (.iinc 2 1, 3) := by decide +kernel
theorem d_Blobs_find_29 : decode prog_2_method_2_code 29 = .ok (.goto (-22), 3) := by decide +kernel
theorem d_Blobs_find_32 : decode prog_2_method_2_code 32 = .ok (.return_, 1) := by decide +kernel
abbrev m_Blobs_addBeam : ac_I := (⟨"PairedGates$Blobs", "addBeam", "(I)V"⟩, prog_2_method_3_code, 2, none, [])
theorem d_Blobs_addBeam_0 : decode prog_2_method_3_code 0 = .ok (.aload_n 0, 1) := by decide +kernel
theorem d_Blobs_addBeam_1 : decode prog_2_method_3_code 1 = .ok (.getfield 18, 3) := by decide +kernel
theorem d_Blobs_addBeam_4 : decode prog_2_method_3_code 4 = .ok (.ifCond .le 35, 3) := by decide +kernel
theorem d_Blobs_addBeam_7 : decode prog_2_method_3_code 7 = .ok (.iload_n 1, 1) := by decide +kernel
theorem d_Blobs_addBeam_8 : decode prog_2_method_3_code 8 = .ok (.aload_n 0, 1) := by decide +kernel
theorem d_Blobs_addBeam_9 : decode prog_2_method_3_code 9 = .ok (.getfield 15, 3) := by decide +kernel
theorem d_Blobs_addBeam_12 : decode prog_2_method_3_code 12 = .ok (.aload_n 0, 1) := by decide +kernel
theorem d_Blobs_addBeam_13 : decode prog_2_method_3_code 13 = .ok (.getfield 18, 3) := by decide +kernel
theorem d_Blobs_addBeam_16 : decode prog_2_method_3_code 16 = .ok (.iconst 1, 1) := by decide +kernel
theorem d_Blobs_addBeam_17 : decode prog_2_method_3_code 17 = .ok (.isub, 1) := by decide +kernel
theorem d_Blobs_addBeam_18 : decode prog_2_method_3_code 18 = .ok (.iaload, 1) := by decide +kernel
theorem d_Blobs_addBeam_19 : decode prog_2_method_3_code 19 = .ok (.isub, 1) := by decide +kernel
theorem d_Blobs_addBeam_20 : decode prog_2_method_3_code 20 = .ok (.iconst 2, 1) := by decide +kernel
theorem d_Blobs_addBeam_21 : decode prog_2_method_3_code 21 = .ok (.if_icmp .gt 18, 3) := by decide +kernel
theorem d_Blobs_addBeam_24 : decode prog_2_method_3_code 24 = .ok (.aload_n 0, 1) := by decide +kernel
theorem d_Blobs_addBeam_25 : decode prog_2_method_3_code 25 = .ok (.getfield 15, 3) := by decide +kernel
theorem d_Blobs_addBeam_28 : decode prog_2_method_3_code 28 = .ok (.aload_n 0, 1) := by decide +kernel
theorem d_Blobs_addBeam_29 : decode prog_2_method_3_code 29 = .ok (.getfield 18, 3) := by decide +kernel
theorem d_Blobs_addBeam_32 : decode prog_2_method_3_code 32 = .ok (.iconst 1, 1) := by decide +kernel
theorem d_Blobs_addBeam_33 : decode prog_2_method_3_code 33 = .ok (.isub, 1) := by decide +kernel
theorem d_Blobs_addBeam_34 : decode prog_2_method_3_code 34 = .ok (.iload_n 1, 1) := by decide +kernel
theorem d_Blobs_addBeam_35 : decode prog_2_method_3_code 35 = .ok (.iastore, 1) := by decide +kernel
theorem d_Blobs_addBeam_36 : decode prog_2_method_3_code 36 = .ok (.goto 45, 3) := by decide +kernel
theorem d_Blobs_addBeam_39 : decode prog_2_method_3_code 39 = .ok (.aload_n 0, 1) := by decide +kernel
theorem d_Blobs_addBeam_40 : decode prog_2_method_3_code 40 = .ok (.getfield 18, 3) := by decide +kernel
theorem d_Blobs_addBeam_43 : decode prog_2_method_3_code 43 = .ok (.aload_n 0, 1) := by decide +kernel
theorem d_Blobs_addBeam_44 : decode prog_2_method_3_code 44 = .ok (.getfield 9, 3) := by decide +kernel
theorem d_Blobs_addBeam_47 : decode prog_2_method_3_code 47 = .ok (.arraylength, 1) := by decide +kernel
theorem d_Blobs_addBeam_48 : decode prog_2_method_3_code 48 = .ok (.if_icmp .ge 33, 3) := by decide +kernel
theorem d_Blobs_addBeam_51 : decode prog_2_method_3_code 51 = .ok (.aload_n 0, 1) := by decide +kernel
theorem d_Blobs_addBeam_52 : decode prog_2_method_3_code 52 = .ok (.getfield 9, 3) := by decide +kernel
theorem d_Blobs_addBeam_55 : decode prog_2_method_3_code 55 = .ok (.aload_n 0, 1) := by decide +kernel
theorem d_Blobs_addBeam_56 : decode prog_2_method_3_code 56 = .ok (.getfield 18, 3) := by decide +kernel
theorem d_Blobs_addBeam_59 : decode prog_2_method_3_code 59 = .ok (.iload_n 1, 1) := by decide +kernel
theorem d_Blobs_addBeam_60 : decode prog_2_method_3_code 60 = .ok (.iastore, 1) := by decide +kernel
theorem d_Blobs_addBeam_61 : decode prog_2_method_3_code 61 = .ok (.aload_n 0, 1) := by decide +kernel
theorem d_Blobs_addBeam_62 : decode prog_2_method_3_code 62 = .ok (.getfield 15, 3) := by decide +kernel
theorem d_Blobs_addBeam_65 : decode prog_2_method_3_code 65 = .ok (.aload_n 0, 1) := by decide +kernel
theorem d_Blobs_addBeam_66 : decode prog_2_method_3_code 66 = .ok (.getfield 18, 3) := by decide +kernel
theorem d_Blobs_addBeam_69 : decode prog_2_method_3_code 69 = .ok (.iload_n 1, 1) := by decide +kernel
theorem d_Blobs_addBeam_70 : decode prog_2_method_3_code 70 = .ok (.iastore, 1) := by decide +kernel
theorem d_Blobs_addBeam_71 : decode prog_2_method_3_code 71 = .ok (.aload_n 0, 1) := by decide +kernel
theorem d_Blobs_addBeam_72 : decode prog_2_method_3_code 72 = .ok (.dup, 1) := by decide +kernel
theorem d_Blobs_addBeam_73 : decode prog_2_method_3_code 73 = .ok (.getfield 18, 3) := by decide +kernel
theorem d_Blobs_addBeam_76 : decode prog_2_method_3_code 76 = .ok (.iconst 1, 1) := by decide +kernel
theorem d_Blobs_addBeam_77 : decode prog_2_method_3_code 77 = .ok (.iadd, 1) := by decide +kernel
theorem d_Blobs_addBeam_78 : decode prog_2_method_3_code 78 = .ok (.putfield 18, 3) := by decide +kernel
theorem d_Blobs_addBeam_81 : decode prog_2_method_3_code 81 = .ok (.return_, 1) := by decide +kernel
abbrev m_Blobs_firstMetBy : ac_I := (⟨"PairedGates$Blobs", "firstMetBy", "(LPairedGates$Body;)I"⟩, prog_2_method_4_code, 3, (some (.int)), [])
theorem d_Blobs_firstMetBy_0 : decode prog_2_method_4_code 0 = .ok (.iconst 0, 1) := by decide +kernel
theorem d_Blobs_firstMetBy_1 : decode prog_2_method_4_code 1 = .ok (.istore_n 2, 1) := by decide +kernel
theorem d_Blobs_firstMetBy_2 : decode prog_2_method_4_code 2 = .ok (.iload_n 2, 1) := by decide +kernel
theorem d_Blobs_firstMetBy_3 : decode prog_2_method_4_code 3 = .ok (.aload_n 0, 1) := by decide +kernel
theorem d_Blobs_firstMetBy_4 : decode prog_2_method_4_code 4 = .ok (.getfield 18, 3) := by decide +kernel
theorem d_Blobs_firstMetBy_7 : decode prog_2_method_4_code 7 = .ok (.if_icmp .ge 20, 3) := by decide +kernel
theorem d_Blobs_firstMetBy_10 : decode prog_2_method_4_code 10 = .ok (.aload_n 0, 1) := by decide +kernel
theorem d_Blobs_firstMetBy_11 : decode prog_2_method_4_code 11 = .ok (.aload_n 1, 1) := by decide +kernel
theorem d_Blobs_firstMetBy_12 : decode prog_2_method_4_code 12 = .ok (.iload_n 2, 1) := by decide +kernel
theorem d_Blobs_firstMetBy_13 : decode prog_2_method_4_code 13 = .ok (.invokevirtual 26, 3) := by decide +kernel
theorem d_Blobs_firstMetBy_16 : decode prog_2_method_4_code 16 = .ok (.ifCond .eq 5, 3) := by decide +kernel
theorem d_Blobs_firstMetBy_19 : decode prog_2_method_4_code 19 = .ok (.iload_n 2, 1) := by decide +kernel
theorem d_Blobs_firstMetBy_20 : decode prog_2_method_4_code 20 = .ok (.ireturn, 1) := by decide +kernel
theorem d_Blobs_firstMetBy_21 : decode prog_2_method_4_code 21 = .ok (.iinc 2 1, 3) := by decide +kernel
theorem d_Blobs_firstMetBy_24 : decode prog_2_method_4_code 24 = .ok (.goto (-22), 3) := by decide +kernel
theorem d_Blobs_firstMetBy_27 : decode prog_2_method_4_code 27 = .ok (.iconst (-1), 1) := by decide +kernel
theorem d_Blobs_firstMetBy_28 : decode prog_2_method_4_code 28 = .ok (.ireturn, 1) := by decide +kernel
abbrev m_Blobs_isMetBy : ac_I := (⟨"PairedGates$Blobs", "isMetBy", "(LPairedGates$Body;I)Z"⟩, prog_2_method_5_code, 3, (some (.boolean)), [])
theorem d_Blobs_isMetBy_0 : decode prog_2_method_5_code 0 = .ok (.aload_n 1, 1) := by decide +kernel
theorem d_Blobs_isMetBy_1 : decode prog_2_method_5_code 1 = .ok (.getfield 30, 3) := by decide +kernel
theorem d_Blobs_isMetBy_4 : decode prog_2_method_5_code 4 = .ok (.iconst 1, 1) := by decide +kernel
theorem d_Blobs_isMetBy_5 : decode prog_2_method_5_code 5 = .ok (.isub, 1) := by decide +kernel
theorem d_Blobs_isMetBy_6 : decode prog_2_method_5_code 6 = .ok (.aload_n 0, 1) := by decide +kernel
theorem d_Blobs_isMetBy_7 : decode prog_2_method_5_code 7 = .ok (.getfield 15, 3) := by decide +kernel
theorem d_Blobs_isMetBy_10 : decode prog_2_method_5_code 10 = .ok (.iload_n 2, 1) := by decide +kernel
theorem d_Blobs_isMetBy_11 : decode prog_2_method_5_code 11 = .ok (.iaload, 1) := by decide +kernel
theorem d_Blobs_isMetBy_12 : decode prog_2_method_5_code 12 = .ok (.if_icmp .gt 22, 3) := by decide +kernel
theorem d_Blobs_isMetBy_15 : decode prog_2_method_5_code 15 = .ok (.aload_n 1, 1) := by decide +kernel
theorem d_Blobs_isMetBy_16 : decode prog_2_method_5_code 16 = .ok (.getfield 34, 3) := by decide +kernel
theorem d_Blobs_isMetBy_19 : decode prog_2_method_5_code 19 = .ok (.iconst 1, 1) := by decide +kernel
theorem d_Blobs_isMetBy_20 : decode prog_2_method_5_code 20 = .ok (.iadd, 1) := by decide +kernel
theorem d_Blobs_isMetBy_21 : decode prog_2_method_5_code 21 = .ok (.aload_n 0, 1) := by decide +kernel
theorem d_Blobs_isMetBy_22 : decode prog_2_method_5_code 22 = .ok (.getfield 9, 3) := by decide +kernel
theorem d_Blobs_isMetBy_25 : decode prog_2_method_5_code 25 = .ok (.iload_n 2, 1) := by decide +kernel
theorem d_Blobs_isMetBy_26 : decode prog_2_method_5_code 26 = .ok (.iaload, 1) := by decide +kernel
theorem d_Blobs_isMetBy_27 : decode prog_2_method_5_code 27 = .ok (.if_icmp .lt 7, 3) := by decide +kernel
theorem d_Blobs_isMetBy_30 : decode prog_2_method_5_code 30 = .ok (.iconst 1, 1) := by decide +kernel
theorem d_Blobs_isMetBy_31 : decode prog_2_method_5_code 31 = .ok (.goto 4, 3) := by decide +kernel
theorem d_Blobs_isMetBy_34 : decode prog_2_method_5_code 34 = .ok (.iconst 0, 1) := by decide +kernel
theorem d_Blobs_isMetBy_35 : decode prog_2_method_5_code 35 = .ok (.ireturn, 1) := by decide +kernel
abbrev m_Body_init : ac_I := (⟨"PairedGates$Body", "<init>", "()V"⟩, prog_3_method_1_code, 1, none, [])
theorem d_Body_init_0 : decode prog_3_method_1_code 0 = .ok (.aload_n 0, 1) := by decide +kernel
theorem d_Body_init_1 : decode prog_3_method_1_code 1 = .ok (.invokespecial 3, 3) := by decide +kernel
theorem d_Body_init_4 : decode prog_3_method_1_code 4 = .ok (.aload_n 0, 1) := by decide +kernel
theorem d_Body_init_5 : decode prog_3_method_1_code 5 = .ok (.iconst 0, 1) := by decide +kernel
theorem d_Body_init_6 : decode prog_3_method_1_code 6 = .ok (.putfield 9, 3) := by decide +kernel
theorem d_Body_init_9 : decode prog_3_method_1_code 9 = .ok (.aload_n 0, 1) := by decide +kernel
theorem d_Body_init_10 : decode prog_3_method_1_code 10 = .ok (.iconst 0, 1) := by decide +kernel
theorem d_Body_init_11 : decode prog_3_method_1_code 11 = .ok (.putfield 15, 3) := by decide +kernel
theorem d_Body_init_14 : decode prog_3_method_1_code 14 = .ok (.aload_n 0, 1) := by decide +kernel
theorem d_Body_init_15 : decode prog_3_method_1_code 15 = .ok (.iconst 0, 1) := by decide +kernel
theorem d_Body_init_16 : decode prog_3_method_1_code 16 = .ok (.putfield 18, 3) := by decide +kernel
theorem d_Body_init_19 : decode prog_3_method_1_code 19 = .ok (.aload_n 0, 1) := by decide +kernel
theorem d_Body_init_20 : decode prog_3_method_1_code 20 = .ok (.iconst (-1), 1) := by decide +kernel
theorem d_Body_init_21 : decode prog_3_method_1_code 21 = .ok (.putfield 21, 3) := by decide +kernel
theorem d_Body_init_24 : decode prog_3_method_1_code 24 = .ok (.aload_n 0, 1) := by decide +kernel
theorem d_Body_init_25 : decode prog_3_method_1_code 25 = .ok (.iconst 0, 1) := by decide +kernel
theorem d_Body_init_26 : decode prog_3_method_1_code 26 = .ok (.putfield 24, 3) := by decide +kernel
theorem d_Body_init_29 : decode prog_3_method_1_code 29 = .ok (.return_, 1) := by decide +kernel
