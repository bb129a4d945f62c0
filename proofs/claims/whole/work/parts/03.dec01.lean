abbrev m_Mo_thrown : ac_I := (⟨"PairedGatesModel", "thrown", "()I"⟩, prog_10_method_2_code, 1, (some (.int)), [])
theorem d_Mo_thrown_0 : decode prog_10_method_2_code 0 = .ok (.aload_n 0, 1) := by decide +kernel
theorem d_Mo_thrown_1 : decode prog_10_method_2_code 1 = .ok (.getfield 85, 3) := by decide +kernel
theorem d_Mo_thrown_4 : decode prog_10_method_2_code 4 = .ok (.ireturn, 1) := by decide +kernel
abbrev m_Mo_refused : ac_I := (⟨"PairedGatesModel", "refused", "(I)Z"⟩, prog_10_method_3_code, 2, (some (.boolean)), [])
theorem d_Mo_refused_0 : decode prog_10_method_3_code 0 = .ok (.aload_n 0, 1) := by decide +kernel
theorem d_Mo_refused_1 : decode prog_10_method_3_code 1 = .ok (.iload_n 1, 1) := by decide +kernel
theorem d_Mo_refused_2 : decode prog_10_method_3_code 2 = .ok (.putfield 85, 3) := by decide +kernel
theorem d_Mo_refused_5 : decode prog_10_method_3_code 5 = .ok (.iload_n 1, 1) := by decide +kernel
theorem d_Mo_refused_6 : decode prog_10_method_3_code 6 = .ok (.ifCond .le 7, 3) := by decide +kernel
theorem d_Mo_refused_9 : decode prog_10_method_3_code 9 = .ok (.iconst 1, 1) := by decide +kernel
theorem d_Mo_refused_10 : decode prog_10_method_3_code 10 = .ok (.goto 4, 3) := by decide +kernel
theorem d_Mo_refused_13 : decode prog_10_method_3_code 13 = .ok (.iconst 0, 1) := by decide +kernel
theorem d_Mo_refused_14 : decode prog_10_method_3_code 14 = .ok (.ireturn, 1) := by decide +kernel
abbrev m_Mo_isTwo : ac_I := (⟨"PairedGatesModel", "isTwo", "(I)Z"⟩, prog_10_method_4_code, 1, (some (.boolean)), [])
theorem d_Mo_isTwo_0 : decode prog_10_method_4_code 0 = .ok (.iload_n 0, 1) := by decide +kernel
theorem d_Mo_isTwo_1 : decode prog_10_method_4_code 1 = .ok (.ifCond .eq 8, 3) := by decide +kernel
theorem d_Mo_isTwo_4 : decode prog_10_method_4_code 4 = .ok (.iload_n 0, 1) := by decide +kernel
theorem d_Mo_isTwo_5 : decode prog_10_method_4_code 5 = .ok (.iconst 1, 1) := by decide +kernel
theorem d_Mo_isTwo_6 : decode prog_10_method_4_code 6 = .ok (.if_icmp .ne 7, 3) := by decide +kernel
theorem d_Mo_isTwo_9 : decode prog_10_method_4_code 9 = .ok (.iconst 1, 1) := by decide +kernel
theorem d_Mo_isTwo_10 : decode prog_10_method_4_code 10 = .ok (.goto 4, 3) := by decide +kernel
theorem d_Mo_isTwo_13 : decode prog_10_method_4_code 13 = .ok (.iconst 0, 1) := by decide +kernel
theorem d_Mo_isTwo_14 : decode prog_10_method_4_code 14 = .ok (.ireturn, 1) := by decide +kernel
abbrev m_Mo_giveBack : ac_I := (⟨"PairedGatesModel", "giveBack", "(I)V"⟩, prog_10_method_5_code, 2, none, [])
theorem d_Mo_giveBack_0 : decode prog_10_method_5_code 0 = .ok (.aload_n 0, 1) := by decide +kernel
theorem d_Mo_giveBack_1 : decode prog_10_method_5_code 1 = .ok (.getfield 82, 3) := by decide +kernel
theorem d_Mo_giveBack_4 : decode prog_10_method_5_code 4 = .ok (.aload_n 0, 1) := by decide +kernel
theorem d_Mo_giveBack_5 : decode prog_10_method_5_code 5 = .ok (.getfield 89, 3) := by decide +kernel
theorem d_Mo_giveBack_8 : decode prog_10_method_5_code 8 = .ok (.iload_n 1, 1) := by decide +kernel
theorem d_Mo_giveBack_9 : decode prog_10_method_5_code 9 = .ok (.iastore, 1) := by decide +kernel
theorem d_Mo_giveBack_10 : decode prog_10_method_5_code 10 = .ok (.aload_n 0, 1) := by decide +kernel
theorem d_Mo_giveBack_11 : decode prog_10_method_5_code 11 = .ok (.dup, 1) := by decide +kernel
theorem d_Mo_giveBack_12 : decode prog_10_method_5_code 12 = .ok (.getfield 89, 3) := by decide +kernel
theorem d_Mo_giveBack_15 : decode prog_10_method_5_code 15 = .ok (.iconst 1, 1) := by decide +kernel
theorem d_Mo_giveBack_16 : decode prog_10_method_5_code 16 = .ok (.iadd, 1) := by decide +kernel
theorem d_Mo_giveBack_17 : decode prog_10_method_5_code 17 = .ok (.putfield 89, 3) := by decide +kernel
theorem d_Mo_giveBack_20 : decode prog_10_method_5_code 20 = .ok (.return_, 1) := by decide +kernel
abbrev m_Mo_takeOldest : ac_I := (⟨"PairedGatesModel", "takeOldest", "(I)I"⟩, prog_10_method_6_code, 4, (some (.int)), [])
theorem d_Mo_takeOldest_0 : decode prog_10_method_6_code 0 = .ok (.aload_n 0, 1) := by decide +kernel
theorem d_Mo_takeOldest_1 : decode prog_10_method_6_code 1 = .ok (.getfield 70, 3) := by decide +kernel
theorem d_Mo_takeOldest_4 : decode prog_10_method_6_code 4 = .ok (.bipush 6, 2) := by decide +kernel
theorem d_Mo_takeOldest_6 : decode prog_10_method_6_code 6 = .ok (.iload_n 1, 1) := by decide +kernel
theorem d_Mo_takeOldest_7 : decode prog_10_method_6_code 7 = .ok (.imul, 1) := by decide +kernel
theorem d_Mo_takeOldest_8 : decode prog_10_method_6_code 8 = .ok (.iaload, 1) := by decide +kernel
theorem d_Mo_takeOldest_9 : decode prog_10_method_6_code 9 = .ok (.istore_n 2, 1) := by decide +kernel
theorem d_Mo_takeOldest_10 : decode prog_10_method_6_code 10 = .ok (.aload_n 0, 1) := by decide +kernel
theorem d_Mo_takeOldest_11 : decode prog_10_method_6_code 11 = .ok (.getfield 67, 3) := by decide +kernel
theorem d_Mo_takeOldest_14 : decode prog_10_method_6_code 14 = .ok (.iload_n 1, 1) := by decide +kernel
theorem d_Mo_takeOldest_15 : decode prog_10_method_6_code 15 = .ok (.dup2, 1) := by decide +kernel
theorem d_Mo_takeOldest_16 : decode prog_10_method_6_code 16 = .ok (.iaload, 1) := by decide +kernel
theorem d_Mo_takeOldest_17 : decode prog_10_method_6_code 17 = .ok (.iconst 1, 1) := by decide +kernel
theorem d_Mo_takeOldest_18 : decode prog_10_method_6_code 18 = .ok (.isub, 1) := by decide +kernel
theorem d_Mo_takeOldest_19 : decode prog_10_method_6_code 19 = .ok (.iastore, 1) := by decide +kernel
theorem d_Mo_takeOldest_20 : decode prog_10_method_6_code 20 = .ok (.iconst 0, 1) := by decide +kernel
theorem d_Mo_takeOldest_21 : decode prog_10_method_6_code 21 = .ok (.istore_n 3, 1) := by decide +kernel
theorem d_Mo_takeOldest_22 : decode prog_10_method_6_code 22 = .ok (.iload_n 3, 1) := by decide +kernel
theorem d_Mo_takeOldest_23 : decode prog_10_method_6_code 23 = .ok (.aload_n 0, 1) := by decide +kernel
theorem d_Mo_takeOldest_24 : decode prog_10_method_6_code 24 = .ok (.getfield 67, 3) := by decide +kernel
theorem d_Mo_takeOldest_27 : decode prog_10_method_6_code 27 = .ok (.iload_n 1, 1) := by decide +kernel
theorem d_Mo_takeOldest_28 : decode prog_10_method_6_code 28 = .ok (.iaload, 1) := by decide +kernel
theorem d_Mo_takeOldest_29 : decode prog_10_method_6_code 29 = .ok (.if_icmp .ge 57, 3) := by decide +kernel
theorem d_Mo_takeOldest_32 : decode prog_10_method_6_code 32 = .ok (.aload_n 0, 1) := by decide +kernel
theorem d_Mo_takeOldest_33 : decode prog_10_method_6_code 33 = .ok (.getfield 70, 3) := by decide +kernel
theorem d_Mo_takeOldest_36 : decode prog_10_method_6_code 36 = .ok (.bipush 6, 2) := by decide +kernel
theorem d_Mo_takeOldest_38 : decode prog_10_method_6_code 38 = .ok (.iload_n 1, 1) := by decide +kernel
theorem d_Mo_takeOldest_39 : decode prog_10_method_6_code 39 = .ok (.imul, 1) := by decide +kernel
theorem d_Mo_takeOldest_40 : decode prog_10_method_6_code 40 = .ok (.iload_n 3, 1) := by decide +kernel
theorem d_Mo_takeOldest_41 : decode prog_10_method_6_code 41 = .ok (.iadd, 1) := by decide +kernel
theorem d_Mo_takeOldest_42 : decode prog_10_method_6_code 42 = .ok (.aload_n 0, 1) := by decide +kernel
theorem d_Mo_takeOldest_43 : decode prog_10_method_6_code 43 = .ok (.getfield 70, 3) := by decide +kernel
theorem d_Mo_takeOldest_46 : decode prog_10_method_6_code 46 = .ok (.bipush 6, 2) := by decide +kernel
theorem d_Mo_takeOldest_48 : decode prog_10_method_6_code 48 = .ok (.iload_n 1, 1) := by decide +kernel
theorem d_Mo_takeOldest_49 : decode prog_10_method_6_code 49 = .ok (.imul, 1) := by decide +kernel
theorem d_Mo_takeOldest_50 : decode prog_10_method_6_code 50 = .ok (.iload_n 3, 1) := by decide +kernel
theorem d_Mo_takeOldest_51 : decode prog_10_method_6_code 51 = .ok (.iadd, 1) := by decide +kernel
theorem d_Mo_takeOldest_52 : decode prog_10_method_6_code 52 = .ok (.iconst 1, 1) := by decide +kernel
theorem d_Mo_takeOldest_53 : decode prog_10_method_6_code 53 = .ok (.iadd, 1) := by decide +kernel
theorem d_Mo_takeOldest_54 : decode prog_10_method_6_code 54 = .ok (.iaload, 1) := by decide +kernel
theorem d_Mo_takeOldest_55 : decode prog_10_method_6_code 55 = .ok (.iastore, 1) := by decide +kernel
theorem d_Mo_takeOldest_56 : decode prog_10_method_6_code 56 = .ok (.aload_n 0, 1) := by decide +kernel
theorem d_Mo_takeOldest_57 : decode prog_10_method_6_code 57 = .ok (.getfield 73, 3) := by decide +kernel
theorem d_Mo_takeOldest_60 : decode prog_10_method_6_code 60 = .ok (.bipush 6, 2) := by decide +kernel
theorem d_Mo_takeOldest_62 : decode prog_10_method_6_code 62 = .ok (.iload_n 1, 1) := by decide +kernel
theorem d_Mo_takeOldest_63 : decode prog_10_method_6_code 63 = .ok (.imul, 1) := by decide +kernel
theorem d_Mo_takeOldest_64 : decode prog_10_method_6_code 64 = .ok (.iload_n 3, 1) := by decide +kernel
theorem d_Mo_takeOldest_65 : decode prog_10_method_6_code 65 = .ok (.iadd, 1) := by decide +kernel
theorem d_Mo_takeOldest_66 : decode prog_10_method_6_code 66 = .ok (.aload_n 0, 1) := by decide +kernel
theorem d_Mo_takeOldest_67 : decode prog_10_method_6_code 67 = .ok (.getfield 73, 3) := by decide +kernel
theorem d_Mo_takeOldest_70 : decode prog_10_method_6_code 70 = .ok (.bipush 6, 2) := by decide +kernel
theorem d_Mo_takeOldest_72 : decode prog_10_method_6_code 72 = .ok (.iload_n 1, 1) := by decide +kernel
theorem d_Mo_takeOldest_73 : decode prog_10_method_6_code 73 = .ok (.imul, 1) := by decide +kernel
theorem d_Mo_takeOldest_74 : decode prog_10_method_6_code 74 = .ok (.iload_n 3, 1) := by decide +kernel
theorem d_Mo_takeOldest_75 : decode prog_10_method_6_code 75 = .ok (.iadd, 1) := by decide +kernel
theorem d_Mo_takeOldest_76 : decode prog_10_method_6_code 76 = .ok (.iconst 1, 1) := by decide +kernel
theorem d_Mo_takeOldest_77 : decode prog_10_method_6_code 77 = .ok (.iadd, 1) := by decide +kernel
theorem d_Mo_takeOldest_78 : decode prog_10_method_6_code 78 = .ok (.iaload, 1) := by decide +kernel
theorem d_Mo_takeOldest_79 : decode prog_10_method_6_code 79 = .ok (.iastore, 1) := by decide +kernel
theorem d_Mo_takeOldest_80 : decode prog_10_method_6_code 80 = .ok (.iinc 3 1, 3) := by decide +kernel
theorem d_Mo_takeOldest_83 : decode prog_10_method_6_code 83 = .ok (.goto (-61), 3) := by decide +kernel
theorem d_Mo_takeOldest_86 : decode prog_10_method_6_code 86 = .ok (.iload_n 2, 1) := by decide +kernel
theorem d_Mo_takeOldest_87 : decode prog_10_method_6_code 87 = .ok (.ireturn, 1) := by decide +kernel
abbrev m_Mo_hasSide : ac_I := (⟨"PairedGatesModel", "hasSide", "(II)Z"⟩, prog_10_method_7_code, 3, (some (.boolean)), [])
theorem d_Mo_hasSide_0 : decode prog_10_method_7_code 0 = .ok (.aload_n 0, 1) := by decide +kernel
theorem d_Mo_hasSide_1 : decode prog_10_method_7_code 1 = .ok (.getfield 22, 3) := by decide +kernel
theorem d_Mo_hasSide_4 : decode prog_10_method_7_code 4 = .ok (.iload_n 1, 1) := by decide +kernel
theorem d_Mo_hasSide_5 : decode prog_10_method_7_code 5 = .ok (.iaload, 1) := by decide +kernel
theorem d_Mo_hasSide_6 : decode prog_10_method_7_code 6 = .ok (.ifCond .eq 15, 3) := by decide +kernel
theorem d_Mo_hasSide_9 : decode prog_10_method_7_code 9 = .ok (.aload_n 0, 1) := by decide +kernel
theorem d_Mo_hasSide_10 : decode prog_10_method_7_code 10 = .ok (.getfield 22, 3) := by decide +kernel
theorem d_Mo_hasSide_13 : decode prog_10_method_7_code 13 = .ok (.iload_n 1, 1) := by decide +kernel
theorem d_Mo_hasSide_14 : decode prog_10_method_7_code 14 = .ok (.iaload, 1) := by decide +kernel
theorem d_Mo_hasSide_15 : decode prog_10_method_7_code 15 = .ok (.iload_n 2, 1) := by decide +kernel
theorem d_Mo_hasSide_16 : decode prog_10_method_7_code 16 = .ok (.iconst 1, 1) := by decide +kernel
theorem d_Mo_hasSide_17 : decode prog_10_method_7_code 17 = .ok (.iadd, 1) := by decide +kernel
theorem d_Mo_hasSide_18 : decode prog_10_method_7_code 18 = .ok (.if_icmp .ne 7, 3) := by decide +kernel
theorem d_Mo_hasSide_21 : decode prog_10_method_7_code 21 = .ok (.iconst 1, 1) := by decide +kernel
theorem d_Mo_hasSide_22 : decode prog_10_method_7_code 22 = .ok (.goto 4, 3) := by decide +kernel
theorem d_Mo_hasSide_25 : decode prog_10_method_7_code 25 = .ok (.iconst 0, 1) := by decide +kernel
theorem d_Mo_hasSide_26 : decode prog_10_method_7_code 26 = .ok (.ireturn, 1) := by decide +kernel
abbrev m_Mo_look : ac_I := (⟨"PairedGatesModel", "look", "(I)V"⟩, prog_10_method_8_code, 6, none, [])
theorem d_Mo_look_0 : decode prog_10_method_8_code 0 = .ok (.aload_n 0, 1) := by decide +kernel
theorem d_Mo_look_1 : decode prog_10_method_8_code 1 = .ok (.getfield 7, 3) := by decide +kernel
theorem d_Mo_look_4 : decode prog_10_method_8_code 4 = .ok (.iload_n 1, 1) := by decide +kernel
theorem d_Mo_look_5 : decode prog_10_method_8_code 5 = .ok (.iaload, 1) := by decide +kernel
theorem d_Mo_look_6 : decode prog_10_method_8_code 6 = .ok (.istore_n 2, 1) := by decide +kernel
theorem d_Mo_look_7 : decode prog_10_method_8_code 7 = .ok (.aload_n 0, 1) := by decide +kernel
theorem d_Mo_look_8 : decode prog_10_method_8_code 8 = .ok (.getfield 13, 3) := by decide +kernel
theorem d_Mo_look_11 : decode prog_10_method_8_code 11 = .ok (.iload_n 1, 1) := by decide +kernel
theorem d_Mo_look_12 : decode prog_10_method_8_code 12 = .ok (.iaload, 1) := by decide +kernel
theorem d_Mo_look_13 : decode prog_10_method_8_code 13 = .ok (.istore_n 3, 1) := by decide +kernel
theorem d_Mo_look_14 : decode prog_10_method_8_code 14 = .ok (.aload_n 0, 1) := by decide +kernel
theorem d_Mo_look_15 : decode prog_10_method_8_code 15 = .ok (.getfield 16, 3) := by decide +kernel
theorem d_Mo_look_18 : decode prog_10_method_8_code 18 = .ok (.iload_n 1, 1) := by decide +kernel
theorem d_Mo_look_19 : decode prog_10_method_8_code 19 = .ok (.iaload, 1) := by decide +kernel
theorem d_Mo_look_20 : decode prog_10_method_8_code 20 = .ok (.istore 4, 2) := by decide +kernel
theorem d_Mo_look_22 : decode prog_10_method_8_code 22 = .ok (.aload_n 0, 1) := by decide +kernel
theorem d_Mo_look_23 : decode prog_10_method_8_code 23 = .ok (.getfield 19, 3) := by decide +kernel
theorem d_Mo_look_26 : decode prog_10_method_8_code 26 = .ok (.iload_n 1, 1) := by decide +kernel
theorem d_Mo_look_27 : decode prog_10_method_8_code 27 = .ok (.iload_n 2, 1) := by decide +kernel
theorem d_Mo_look_28 : decode prog_10_method_8_code 28 = .ok (.iload_n 3, 1) := by decide +kernel
theorem d_Mo_look_29 : decode prog_10_method_8_code 29 = .ok (.iand, 1) := by decide +kernel
theorem d_Mo_look_30 : decode prog_10_method_8_code 30 = .ok (.iload_n 2, 1) := by decide +kernel
theorem d_Mo_look_31 : decode prog_10_method_8_code 31 = .ok (.iload 4, 2) := by decide +kernel
theorem d_Mo_look_33 : decode prog_10_method_8_code 33 = .ok (.iand, 1) := by decide +kernel
theorem d_Mo_look_34 : decode prog_10_method_8_code 34 = .ok (.ior, 1) := by decide +kernel
theorem d_Mo_look_35 : decode prog_10_method_8_code 35 = .ok (.iload_n 3, 1) := by decide +kernel
theorem d_Mo_look_36 : decode prog_10_method_8_code 36 = .ok (.iload 4, 2) := by decide +kernel
theorem d_Mo_look_38 : decode prog_10_method_8_code 38 = .ok (.iand, 1) := by decide +kernel
theorem d_Mo_look_39 : decode prog_10_method_8_code 39 = .ok (.ior, 1) := by decide +kernel
theorem d_Mo_look_40 : decode prog_10_method_8_code 40 = .ok (.iastore, 1) := by decide +kernel
theorem d_Mo_look_41 : decode prog_10_method_8_code 41 = .ok (.aload_n 0, 1) := by decide +kernel
theorem d_Mo_look_42 : decode prog_10_method_8_code 42 = .ok (.getfield 16, 3) := by decide +kernel
theorem d_Mo_look_45 : decode prog_10_method_8_code 45 = .ok (.iload_n 1, 1) := by decide +kernel
theorem d_Mo_look_46 : decode prog_10_method_8_code 46 = .ok (.iload_n 3, 1) := by decide +kernel
theorem d_Mo_look_47 : decode prog_10_method_8_code 47 = .ok (.iastore, 1) := by decide +kernel
theorem d_Mo_look_48 : decode prog_10_method_8_code 48 = .ok (.aload_n 0, 1) := by decide +kernel
theorem d_Mo_look_49 : decode prog_10_method_8_code 49 = .ok (.getfield 13, 3) := by decide +kernel
theorem d_Mo_look_52 : decode prog_10_method_8_code 52 = .ok (.iload_n 1, 1) := by decide +kernel
theorem d_Mo_look_53 : decode prog_10_method_8_code 53 = .ok (.iload_n 2, 1) := by decide +kernel
theorem d_Mo_look_54 : decode prog_10_method_8_code 54 = .ok (.iastore, 1) := by decide +kernel
theorem d_Mo_look_55 : decode prog_10_method_8_code 55 = .ok (.aload_n 0, 1) := by decide +kernel
theorem d_Mo_look_56 : decode prog_10_method_8_code 56 = .ok (.iconst 0, 1) := by decide +kernel
theorem d_Mo_look_57 : decode prog_10_method_8_code 57 = .ok (.putfield 92, 3) := by decide +kernel
theorem d_Mo_look_60 : decode prog_10_method_8_code 60 = .ok (.iconst 0, 1) := by decide +kernel
theorem d_Mo_look_61 : decode prog_10_method_8_code 61 = .ok (.istore 5, 2) := by decide +kernel
theorem d_Mo_look_63 : decode prog_10_method_8_code 63 = .ok (.iload 5, 2) := by decide +kernel
theorem d_Mo_look_65 : decode prog_10_method_8_code 65 = .ok (.bipush 10, 2) := by decide +kernel
theorem d_Mo_look_67 : decode prog_10_method_8_code 67 = .ok (.if_icmp .ge 97, 3) := by decide +kernel
theorem d_Mo_look_70 : decode prog_10_method_8_code 70 = .ok (.aload_n 0, 1) := by decide +kernel
theorem d_Mo_look_71 : decode prog_10_method_8_code 71 = .ok (.getfield 19, 3) := by decide +kernel
theorem d_Mo_look_74 : decode prog_10_method_8_code 74 = .ok (.iload_n 1, 1) := by decide +kernel
theorem d_Mo_look_75 : decode prog_10_method_8_code 75 = .ok (.iaload, 1) := by decide +kernel
theorem d_Mo_look_76 : decode prog_10_method_8_code 76 = .ok (.iload 5, 2) := by decide +kernel
theorem d_Mo_look_78 : decode prog_10_method_8_code 78 = .ok (.ishr, 1) := by decide +kernel
theorem d_Mo_look_79 : decode prog_10_method_8_code 79 = .ok (.iconst 1, 1) := by decide +kernel
theorem d_Mo_look_80 : decode prog_10_method_8_code 80 = .ok (.iand, 1) := by decide +kernel
theorem d_Mo_look_81 : decode prog_10_method_8_code 81 = .ok (.iconst 1, 1) := by decide +kernel
theorem d_Mo_look_82 : decode prog_10_method_8_code 82 = .ok (.if_icmp .ne 76, 3) := by decide +kernel
theorem d_Mo_look_85 : decode prog_10_method_8_code 85 = .ok (.aload_n 0, 1) := by decide +kernel
theorem d_Mo_look_86 : decode prog_10_method_8_code 86 = .ok (.getfield 92, 3) := by decide +kernel
theorem d_Mo_look_89 : decode prog_10_method_8_code 89 = .ok (.ifCond .le 37, 3) := by decide +kernel
theorem d_Mo_look_92 : decode prog_10_method_8_code 92 = .ok (.iload 5, 2) := by decide +kernel
theorem d_Mo_look_94 : decode prog_10_method_8_code 94 = .ok (.aload_n 0, 1) := by decide +kernel
theorem d_Mo_look_95 : decode prog_10_method_8_code 95 = .ok (.getfield 64, 3) := by decide +kernel
theorem d_Mo_look_98 : decode prog_10_method_8_code 98 = .ok (.aload_n 0, 1) := by decide +kernel
theorem d_Mo_look_99 : decode prog_10_method_8_code 99 = .ok (.getfield 92, 3) := by decide +kernel
theorem d_Mo_look_102 : decode prog_10_method_8_code 102 = .ok (.iconst 1, 1) := by decide +kernel
theorem d_Mo_look_103 : decode prog_10_method_8_code 103 = .ok (.isub, 1) := by decide +kernel
theorem d_Mo_look_104 : decode prog_10_method_8_code 104 = .ok (.iaload, 1) := by decide +kernel
theorem d_Mo_look_105 : decode prog_10_method_8_code 105 = .ok (.isub, 1) := by decide +kernel
theorem d_Mo_look_106 : decode prog_10_method_8_code 106 = .ok (.iconst 3, 1) := by decide +kernel
theorem d_Mo_look_107 : decode prog_10_method_8_code 107 = .ok (.if_icmp .ge 19, 3) := by decide +kernel
theorem d_Mo_look_110 : decode prog_10_method_8_code 110 = .ok (.aload_n 0, 1) := by decide +kernel
theorem d_Mo_look_111 : decode prog_10_method_8_code 111 = .ok (.getfield 64, 3) := by decide +kernel
theorem d_Mo_look_114 : decode prog_10_method_8_code 114 = .ok (.aload_n 0, 1) := by decide +kernel
theorem d_Mo_look_115 : decode prog_10_method_8_code 115 = .ok (.getfield 92, 3) := by decide +kernel
theorem d_Mo_look_118 : decode prog_10_method_8_code 118 = .ok (.iconst 1, 1) := by decide +kernel
theorem d_Mo_look_119 : decode prog_10_method_8_code 119 = .ok (.isub, 1) := by decide +kernel
theorem d_Mo_look_120 : decode prog_10_method_8_code 120 = .ok (.iload 5, 2) := by decide +kernel
theorem d_Mo_look_122 : decode prog_10_method_8_code 122 = .ok (.iastore, 1) := by decide +kernel
theorem d_Mo_look_123 : decode prog_10_method_8_code 123 = .ok (.goto 35, 3) := by decide +kernel
theorem d_Mo_look_126 : decode prog_10_method_8_code 126 = .ok (.aload_n 0, 1) := by decide +kernel
theorem d_Mo_look_127 : decode prog_10_method_8_code 127 = .ok (.getfield 61, 3) := by decide +kernel
theorem d_Mo_look_130 : decode prog_10_method_8_code 130 = .ok (.aload_n 0, 1) := by decide +kernel
theorem d_Mo_look_131 : decode prog_10_method_8_code 131 = .ok (.getfield 92, 3) := by decide +kernel
theorem d_Mo_look_134 : decode prog_10_method_8_code 134 = .ok (.iload 5, 2) := by decide +kernel
theorem d_Mo_look_136 : decode prog_10_method_8_code 136 = .ok (.iastore, 1) := by decide +kernel
theorem d_Mo_look_137 : decode prog_10_method_8_code 137 = .ok (.aload_n 0, 1) := by decide +kernel
theorem d_Mo_look_138 : decode prog_10_method_8_code 138 = .ok (.getfield 64, 3) := by decide +kernel
theorem d_Mo_look_141 : decode prog_10_method_8_code 141 = .ok (.aload_n 0, 1) := by decide +kernel
theorem d_Mo_look_142 : decode prog_10_method_8_code 142 = .ok (.getfield 92, 3) := by decide +kernel
theorem d_Mo_look_145 : decode prog_10_method_8_code 145 = .ok (.iload 5, 2) := by decide +kernel
theorem d_Mo_look_147 : decode prog_10_method_8_code 147 = .ok (.iastore, 1) := by decide +kernel
theorem d_Mo_look_148 : decode prog_10_method_8_code 148 = .ok (.aload_n 0, 1) := by decide +kernel
theorem d_Mo_look_149 : decode prog_10_method_8_code 149 = .ok (.dup, 1) := by decide +kernel
theorem d_Mo_look_150 : decode prog_10_method_8_code 150 = .ok (.getfield 92, 3) := by decide +kernel
theorem d_Mo_look_153 : decode prog_10_method_8_code 153 = .ok (.iconst 1, 1) := by decide +kernel
theorem d_Mo_look_154 : decode prog_10_method_8_code 154 = .ok (.iadd, 1) := by decide +kernel
theorem d_Mo_look_155 : decode prog_10_method_8_code 155 = .ok (.putfield 92, 3) := by decide +kernel
theorem d_Mo_look_158 : decode prog_10_method_8_code 158 = .ok (.iinc 5 1, 3) := by decide +kernel
theorem d_Mo_look_161 : decode prog_10_method_8_code 161 = .ok (.goto (-98), 3) := by decide +kernel
theorem d_Mo_look_164 : decode prog_10_method_8_code 164 = .ok (.return_, 1) := by decide +kernel
abbrev m_Mo_meets : ac_I := (⟨"PairedGatesModel", "meets", "(III)Z"⟩, prog_10_method_9_code, 4, (some (.boolean)), [])
theorem d_Mo_meets_0 : decode prog_10_method_9_code 0 = .ok (.iload_n 1, 1) := by decide +kernel
theorem d_Mo_meets_1 : decode prog_10_method_9_code 1 = .ok (.iconst 1, 1) := by decide +kernel
theorem d_Mo_meets_2 : decode prog_10_method_9_code 2 = .ok (.isub, 1) := by decide +kernel
theorem d_Mo_meets_3 : decode prog_10_method_9_code 3 = .ok (.aload_n 0, 1) := by decide +kernel
theorem d_Mo_meets_4 : decode prog_10_method_9_code 4 = .ok (.getfield 64, 3) := by decide +kernel
theorem d_Mo_meets_7 : decode prog_10_method_9_code 7 = .ok (.iload_n 3, 1) := by decide +kernel
theorem d_Mo_meets_8 : decode prog_10_method_9_code 8 = .ok (.iaload, 1) := by decide +kernel
theorem d_Mo_meets_9 : decode prog_10_method_9_code 9 = .ok (.if_icmp .gt 19, 3) := by decide +kernel
theorem d_Mo_meets_12 : decode prog_10_method_9_code 12 = .ok (.iload_n 2, 1) := by decide +kernel
theorem d_Mo_meets_13 : decode prog_10_method_9_code 13 = .ok (.iconst 1, 1) := by decide +kernel
theorem d_Mo_meets_14 : decode prog_10_method_9_code 14 = .ok (.iadd, 1) := by decide +kernel
theorem d_Mo_meets_15 : decode prog_10_method_9_code 15 = .ok (.aload_n 0, 1) := by decide +kernel
theorem d_Mo_meets_16 : decode prog_10_method_9_code 16 = .ok (.getfield 61, 3) := by decide +kernel
theorem d_Mo_meets_19 : decode prog_10_method_9_code 19 = .ok (.iload_n 3, 1) := by decide +kernel
theorem d_Mo_meets_20 : decode prog_10_method_9_code 20 = .ok (.iaload, 1) := by decide +kernel
theorem d_Mo_meets_21 : decode prog_10_method_9_code 21 = .ok (.if_icmp .lt 7, 3) := by decide +kernel
theorem d_Mo_meets_24 : decode prog_10_method_9_code 24 = .ok (.iconst 1, 1) := by decide +kernel
theorem d_Mo_meets_25 : decode prog_10_method_9_code 25 = .ok (.goto 4, 3) := by decide +kernel
theorem d_Mo_meets_28 : decode prog_10_method_9_code 28 = .ok (.iconst 0, 1) := by decide +kernel
theorem d_Mo_meets_29 : decode prog_10_method_9_code 29 = .ok (.ireturn, 1) := by decide +kernel
abbrev m_Mo_copy : ac_I := (⟨"PairedGatesModel", "copy", "(II)V"⟩, prog_10_method_10_code, 3, none, [])
theorem d_Mo_copy_0 : decode prog_10_method_10_code 0 = .ok (.aload_n 0, 1) := by decide +kernel
theorem d_Mo_copy_1 : decode prog_10_method_10_code 1 = .ok (.getfield 37, 3) := by decide +kernel
theorem d_Mo_copy_4 : decode prog_10_method_10_code 4 = .ok (.iload_n 1, 1) := by decide +kernel
theorem d_Mo_copy_5 : decode prog_10_method_10_code 5 = .ok (.aload_n 0, 1) := by decide +kernel
theorem d_Mo_copy_6 : decode prog_10_method_10_code 6 = .ok (.getfield 37, 3) := by decide +kernel
theorem d_Mo_copy_9 : decode prog_10_method_10_code 9 = .ok (.iload_n 2, 1) := by decide +kernel
theorem d_Mo_copy_10 : decode prog_10_method_10_code 10 = .ok (.iaload, 1) := by decide +kernel
theorem d_Mo_copy_11 : decode prog_10_method_10_code 11 = .ok (.iastore, 1) := by decide +kernel
theorem d_Mo_copy_12 : decode prog_10_method_10_code 12 = .ok (.aload_n 0, 1) := by decide +kernel
theorem d_Mo_copy_13 : decode prog_10_method_10_code 13 = .ok (.getfield 40, 3) := by decide +kernel
theorem d_Mo_copy_16 : decode prog_10_method_10_code 16 = .ok (.iload_n 1, 1) := by decide +kernel
theorem d_Mo_copy_17 : decode prog_10_method_10_code 17 = .ok (.aload_n 0, 1) := by decide +kernel
theorem d_Mo_copy_18 : decode prog_10_method_10_code 18 = .ok (.getfield 40, 3) := by decide +kernel
theorem d_Mo_copy_21 : decode prog_10_method_10_code 21 = .ok (.iload_n 2, 1) := by decide +kernel
theorem d_Mo_copy_22 : decode prog_10_method_10_code 22 = .ok (.iaload, 1) := by decide +kernel
theorem d_Mo_copy_23 : decode prog_10_method_10_code 23 = .ok (.iastore, 1) := by decide +kernel
theorem d_Mo_copy_24 : decode prog_10_method_10_code 24 = .ok (.aload_n 0, 1) := by decide +kernel
theorem d_Mo_copy_25 : decode prog_10_method_10_code 25 = .ok (.getfield 43, 3) := by decide +kernel
theorem d_Mo_copy_28 : decode prog_10_method_10_code 28 = .ok (.iload_n 1, 1) := by decide +kernel
theorem d_Mo_copy_29 : decode prog_10_method_10_code 29 = .ok (.aload_n 0, 1) := by decide +kernel
theorem d_Mo_copy_30 : decode prog_10_method_10_code 30 = .ok (.getfield 43, 3) := by decide +kernel
theorem d_Mo_copy_33 : decode prog_10_method_10_code 33 = .ok (.iload_n 2, 1) := by decide +kernel
theorem d_Mo_copy_34 : decode prog_10_method_10_code 34 = .ok (.iaload, 1) := by decide +kernel
theorem d_Mo_copy_35 : decode prog_10_method_10_code 35 = .ok (.iastore, 1) := by decide +kernel
theorem d_Mo_copy_36 : decode prog_10_method_10_code 36 = .ok (.aload_n 0, 1) := by decide +kernel
theorem d_Mo_copy_37 : decode prog_10_method_10_code 37 = .ok (.getfield 46, 3) := by decide +kernel
theorem d_Mo_copy_40 : decode prog_10_method_10_code 40 = .ok (.iload_n 1, 1) := by decide +kernel
theorem d_Mo_copy_41 : decode prog_10_method_10_code 41 = .ok (.aload_n 0, 1) := by decide +kernel
theorem d_Mo_copy_42 : decode prog_10_method_10_code 42 = .ok (.getfield 46, 3) := by decide +kernel
theorem d_Mo_copy_45 : decode prog_10_method_10_code 45 = .ok (.iload_n 2, 1) := by decide +kernel
theorem d_Mo_copy_46 : decode prog_10_method_10_code 46 = .ok (.iaload, 1) := by decide +kernel
theorem d_Mo_copy_47 : decode prog_10_method_10_code 47 = .ok (.iastore, 1) := by decide +kernel
theorem d_Mo_copy_48 : decode prog_10_method_10_code 48 = .ok (.aload_n 0, 1) := by decide +kernel
theorem d_Mo_copy_49 : decode prog_10_method_10_code 49 = .ok (.getfield 49, 3) := by decide +kernel
theorem d_Mo_copy_52 : decode prog_10_method_10_code 52 = .ok (.iload_n 1, 1) := by decide +kernel
theorem d_Mo_copy_53 : decode prog_10_method_10_code 53 = .ok (.aload_n 0, 1) := by decide +kernel
theorem d_Mo_copy_54 : decode prog_10_method_10_code 54 = .ok (.getfield 49, 3) := by decide +kernel
theorem d_Mo_copy_57 : decode prog_10_method_10_code 57 = .ok (.iload_n 2, 1) := by decide +kernel
theorem d_Mo_copy_58 : decode prog_10_method_10_code 58 = .ok (.iaload, 1) := by decide +kernel
theorem d_Mo_copy_59 : decode prog_10_method_10_code 59 = .ok (.iastore, 1) := by decide +kernel
theorem d_Mo_copy_60 : decode prog_10_method_10_code 60 = .ok (.aload_n 0, 1) := by decide +kernel
theorem d_Mo_copy_61 : decode prog_10_method_10_code 61 = .ok (.getfield 52, 3) := by decide +kernel
theorem d_Mo_copy_64 : decode prog_10_method_10_code 64 = .ok (.iload_n 1, 1) := by decide +kernel
theorem d_Mo_copy_65 : decode prog_10_method_10_code 65 = .ok (.aload_n 0, 1) := by decide +kernel
theorem d_Mo_copy_66 : decode prog_10_method_10_code 66 = .ok (.getfield 52, 3) := by decide +kernel
theorem d_Mo_copy_69 : decode prog_10_method_10_code 69 = .ok (.iload_n 2, 1) := by decide +kernel
theorem d_Mo_copy_70 : decode prog_10_method_10_code 70 = .ok (.iaload, 1) := by decide +kernel
theorem d_Mo_copy_71 : decode prog_10_method_10_code 71 = .ok (.iastore, 1) := by decide +kernel
theorem d_Mo_copy_72 : decode prog_10_method_10_code 72 = .ok (.aload_n 0, 1) := by decide +kernel
theorem d_Mo_copy_73 : decode prog_10_method_10_code 73 = .ok (.getfield 55, 3) := by decide +kernel
theorem d_Mo_copy_76 : decode prog_10_method_10_code 76 = .ok (.iload_n 1, 1) := by decide +kernel
theorem d_Mo_copy_77 : decode prog_10_method_10_code 77 = .ok (.aload_n 0, 1) := by decide +kernel
theorem d_Mo_copy_78 : decode prog_10_method_10_code 78 = .ok (.getfield 55, 3) := by decide +kernel
theorem d_Mo_copy_81 : decode prog_10_method_10_code 81 = .ok (.iload_n 2, 1) := by decide +kernel
theorem d_Mo_copy_82 : decode prog_10_method_10_code 82 = .ok (.iaload, 1) := by decide +kernel
theorem d_Mo_copy_83 : decode prog_10_method_10_code 83 = .ok (.iastore, 1) := by decide +kernel
theorem d_Mo_copy_84 : decode prog_10_method_10_code 84 = .ok (.aload_n 0, 1) := by decide +kernel
theorem d_Mo_copy_85 : decode prog_10_method_10_code 85 = .ok (.getfield 58, 3) := by decide +kernel
theorem d_Mo_copy_88 : decode prog_10_method_10_code 88 = .ok (.iload_n 1, 1) := by decide +kernel
theorem d_Mo_copy_89 : decode prog_10_method_10_code 89 = .ok (.aload_n 0, 1) := by decide +kernel
theorem d_Mo_copy_90 : decode prog_10_method_10_code 90 = .ok (.getfield 58, 3) := by decide +kernel
theorem d_Mo_copy_93 : decode prog_10_method_10_code 93 = .ok (.iload_n 2, 1) := by decide +kernel
theorem d_Mo_copy_94 : decode prog_10_method_10_code 94 = .ok (.iaload, 1) := by decide +kernel
theorem d_Mo_copy_95 : decode prog_10_method_10_code 95 = .ok (.iastore, 1) := by decide +kernel
theorem d_Mo_copy_96 : decode prog_10_method_10_code 96 = .ok (.return_, 1) := by decide +kernel
abbrev m_Mo_leave : ac_I := (⟨"PairedGatesModel", "leave", "(II)V"⟩, prog_10_method_11_code, 6, none, [])
theorem d_Mo_leave_0 : decode prog_10_method_11_code 0 = .ok (.aload_n 0, 1) := by decide +kernel
theorem d_Mo_leave_1 : decode prog_10_method_11_code 1 = .ok (.getfield 43, 3) := by decide +kernel
theorem d_Mo_leave_4 : decode prog_10_method_11_code 4 = .ok (.iload_n 2, 1) := by decide +kernel
theorem d_Mo_leave_5 : decode prog_10_method_11_code 5 = .ok (.iaload, 1) := by decide +kernel
theorem d_Mo_leave_6 : decode prog_10_method_11_code 6 = .ok (.ifCond .ne 22, 3) := by decide +kernel
theorem d_Mo_leave_9 : decode prog_10_method_11_code 9 = .ok (.aload_n 0, 1) := by decide +kernel
theorem d_Mo_leave_10 : decode prog_10_method_11_code 10 = .ok (.getfield 40, 3) := by decide +kernel
theorem d_Mo_leave_13 : decode prog_10_method_11_code 13 = .ok (.iload_n 2, 1) := by decide +kernel
theorem d_Mo_leave_14 : decode prog_10_method_11_code 14 = .ok (.iaload, 1) := by decide +kernel
theorem d_Mo_leave_15 : decode prog_10_method_11_code 15 = .ok (.bipush 6, 2) := by decide +kernel
theorem d_Mo_leave_17 : decode prog_10_method_11_code 17 = .ok (.if_icmp .le 7, 3) := by decide +kernel
theorem d_Mo_leave_20 : decode prog_10_method_11_code 20 = .ok (.iconst 1, 1) := by decide +kernel
theorem d_Mo_leave_21 : decode prog_10_method_11_code 21 = .ok (.goto 22, 3) := by decide +kernel
theorem d_Mo_leave_24 : decode prog_10_method_11_code 24 = .ok (.iconst 0, 1) := by decide +kernel
theorem d_Mo_leave_25 : decode prog_10_method_11_code 25 = .ok (.goto 18, 3) := by decide +kernel
theorem d_Mo_leave_28 : decode prog_10_method_11_code 28 = .ok (.aload_n 0, 1) := by decide +kernel
theorem d_Mo_leave_29 : decode prog_10_method_11_code 29 = .ok (.getfield 37, 3) := by decide +kernel
theorem d_Mo_leave_32 : decode prog_10_method_11_code 32 = .ok (.iload_n 2, 1) := by decide +kernel
theorem d_Mo_leave_33 : decode prog_10_method_11_code 33 = .ok (.iaload, 1) := by decide +kernel
theorem d_Mo_leave_34 : decode prog_10_method_11_code 34 = .ok (.iconst 3, 1) := by decide +kernel
theorem d_Mo_leave_35 : decode prog_10_method_11_code 35 = .ok (.if_icmp .ge 7, 3) := by decide +kernel
theorem d_Mo_leave_38 : decode prog_10_method_11_code 38 = .ok (.iconst 1, 1) := by decide +kernel
theorem d_Mo_leave_39 : decode prog_10_method_11_code 39 = .ok (.goto 4, 3) := by decide +kernel
theorem d_Mo_leave_42 : decode prog_10_method_11_code 42 = .ok (.iconst 0, 1) := by decide +kernel
theorem d_Mo_leave_43 : decode prog_10_method_11_code 43 = .ok (.istore_n 3, 1) := by decide +kernel
theorem d_Mo_leave_44 : decode prog_10_method_11_code 44 = .ok (.iload_n 3, 1) := by decide +kernel
theorem d_Mo_leave_45 : decode prog_10_method_11_code 45 = .ok (.ifCond .ne 40, 3) := by decide +kernel
theorem d_Mo_leave_48 : decode prog_10_method_11_code 48 = .ok (.aload_n 0, 1) := by decide +kernel
theorem d_Mo_leave_49 : decode prog_10_method_11_code 49 = .ok (.getfield 43, 3) := by decide +kernel
theorem d_Mo_leave_52 : decode prog_10_method_11_code 52 = .ok (.iload_n 2, 1) := by decide +kernel
theorem d_Mo_leave_53 : decode prog_10_method_11_code 53 = .ok (.iaload, 1) := by decide +kernel
theorem d_Mo_leave_54 : decode prog_10_method_11_code 54 = .ok (.ifCond .ne 16, 3) := by decide +kernel
theorem d_Mo_leave_57 : decode prog_10_method_11_code 57 = .ok (.aload_n 0, 1) := by decide +kernel
theorem d_Mo_leave_58 : decode prog_10_method_11_code 58 = .ok (.getfield 37, 3) := by decide +kernel
theorem d_Mo_leave_61 : decode prog_10_method_11_code 61 = .ok (.iload_n 2, 1) := by decide +kernel
theorem d_Mo_leave_62 : decode prog_10_method_11_code 62 = .ok (.iaload, 1) := by decide +kernel
theorem d_Mo_leave_63 : decode prog_10_method_11_code 63 = .ok (.iconst 3, 1) := by decide +kernel
theorem d_Mo_leave_64 : decode prog_10_method_11_code 64 = .ok (.if_icmp .ge 21, 3) := by decide +kernel
theorem d_Mo_leave_67 : decode prog_10_method_11_code 67 = .ok (.goto 14, 3) := by decide +kernel
theorem d_Mo_leave_70 : decode prog_10_method_11_code 70 = .ok (.aload_n 0, 1) := by decide +kernel
theorem d_Mo_leave_71 : decode prog_10_method_11_code 71 = .ok (.getfield 40, 3) := by decide +kernel
theorem d_Mo_leave_74 : decode prog_10_method_11_code 74 = .ok (.iload_n 2, 1) := by decide +kernel
theorem d_Mo_leave_75 : decode prog_10_method_11_code 75 = .ok (.iaload, 1) := by decide +kernel
theorem d_Mo_leave_76 : decode prog_10_method_11_code 76 = .ok (.bipush 6, 2) := by decide +kernel
theorem d_Mo_leave_78 : decode prog_10_method_11_code 78 = .ok (.if_icmp .le 7, 3) := by decide +kernel
theorem d_Mo_leave_81 : decode prog_10_method_11_code 81 = .ok (.iconst 1, 1) := by decide +kernel
theorem d_Mo_leave_82 : decode prog_10_method_11_code 82 = .ok (.goto 4, 3) := by decide +kernel
theorem d_Mo_leave_85 : decode prog_10_method_11_code 85 = .ok (.iconst 0, 1) := by decide +kernel
theorem d_Mo_leave_86 : decode prog_10_method_11_code 86 = .ok (.istore 4, 2) := by decide +kernel
theorem d_Mo_leave_88 : decode prog_10_method_11_code 88 = .ok (.iload_n 3, 1) := by decide +kernel
theorem d_Mo_leave_89 : decode prog_10_method_11_code 89 = .ok (.ifCond .eq 20, 3) := by decide +kernel
theorem d_Mo_leave_92 : decode prog_10_method_11_code 92 = .ok (.aload_n 0, 1) := by decide +kernel
theorem d_Mo_leave_93 : decode prog_10_method_11_code 93 = .ok (.getfield 46, 3) := by decide +kernel
theorem d_Mo_leave_96 : decode prog_10_method_11_code 96 = .ok (.iload_n 2, 1) := by decide +kernel
theorem d_Mo_leave_97 : decode prog_10_method_11_code 97 = .ok (.iaload, 1) := by decide +kernel
theorem d_Mo_leave_98 : decode prog_10_method_11_code 98 = .ok (.ifCond .lt 7, 3) := by decide +kernel
theorem d_Mo_leave_101 : decode prog_10_method_11_code 101 = .ok (.iconst 0, 1) := by decide +kernel
theorem d_Mo_leave_102 : decode prog_10_method_11_code 102 = .ok (.goto 17, 3) := by decide +kernel
theorem d_Mo_leave_105 : decode prog_10_method_11_code 105 = .ok (.iconst 1, 1) := by decide +kernel
theorem d_Mo_leave_106 : decode prog_10_method_11_code 106 = .ok (.goto 13, 3) := by decide +kernel
theorem d_Mo_leave_109 : decode prog_10_method_11_code 109 = .ok (.iload 4, 2) := by decide +kernel
theorem d_Mo_leave_111 : decode prog_10_method_11_code 111 = .ok (.ifCond .eq 7, 3) := by decide +kernel
theorem d_Mo_leave_114 : decode prog_10_method_11_code 114 = .ok (.iconst 2, 1) := by decide +kernel
theorem d_Mo_leave_115 : decode prog_10_method_11_code 115 = .ok (.goto 4, 3) := by decide +kernel
theorem d_Mo_leave_118 : decode prog_10_method_11_code 118 = .ok (.iconst 3, 1) := by decide +kernel
theorem d_Mo_leave_119 : decode prog_10_method_11_code 119 = .ok (.istore 5, 2) := by decide +kernel
theorem d_Mo_leave_121 : decode prog_10_method_11_code 121 = .ok (.aload_n 0, 1) := by decide +kernel
theorem d_Mo_leave_122 : decode prog_10_method_11_code 122 = .ok (.getfield 31, 3) := by decide +kernel
theorem d_Mo_leave_125 : decode prog_10_method_11_code 125 = .ok (.iconst 5, 1) := by decide +kernel
theorem d_Mo_leave_126 : decode prog_10_method_11_code 126 = .ok (.iload_n 1, 1) := by decide +kernel
theorem d_Mo_leave_127 : decode prog_10_method_11_code 127 = .ok (.imul, 1) := by decide +kernel
theorem d_Mo_leave_128 : decode prog_10_method_11_code 128 = .ok (.iload 5, 2) := by decide +kernel
theorem d_Mo_leave_130 : decode prog_10_method_11_code 130 = .ok (.iadd, 1) := by decide +kernel
theorem d_Mo_leave_131 : decode prog_10_method_11_code 131 = .ok (.dup2, 1) := by decide +kernel
theorem d_Mo_leave_132 : decode prog_10_method_11_code 132 = .ok (.iaload, 1) := by decide +kernel
theorem d_Mo_leave_133 : decode prog_10_method_11_code 133 = .ok (.iconst 1, 1) := by decide +kernel
theorem d_Mo_leave_134 : decode prog_10_method_11_code 134 = .ok (.iadd, 1) := by decide +kernel
theorem d_Mo_leave_135 : decode prog_10_method_11_code 135 = .ok (.iastore, 1) := by decide +kernel
theorem d_Mo_leave_136 : decode prog_10_method_11_code 136 = .ok (.iload_n 3, 1) := by decide +kernel
theorem d_Mo_leave_137 : decode prog_10_method_11_code 137 = .ok (.ifCond .eq 27, 3) := by decide +kernel
theorem d_Mo_leave_140 : decode prog_10_method_11_code 140 = .ok (.aload_n 0, 1) := by decide +kernel
theorem d_Mo_leave_141 : decode prog_10_method_11_code 141 = .ok (.getfield 49, 3) := by decide +kernel
theorem d_Mo_leave_144 : decode prog_10_method_11_code 144 = .ok (.iload_n 2, 1) := by decide +kernel
theorem d_Mo_leave_145 : decode prog_10_method_11_code 145 = .ok (.iaload, 1) := by decide +kernel
theorem d_Mo_leave_146 : decode prog_10_method_11_code 146 = .ok (.iconst 5, 1) := by decide +kernel
theorem d_Mo_leave_147 : decode prog_10_method_11_code 147 = .ok (.if_icmp .le 17, 3) := by decide +kernel
theorem d_Mo_leave_150 : decode prog_10_method_11_code 150 = .ok (.aload_n 0, 1) := by decide +kernel
theorem d_Mo_leave_151 : decode prog_10_method_11_code 151 = .ok (.getfield 31, 3) := by decide +kernel
theorem d_Mo_leave_154 : decode prog_10_method_11_code 154 = .ok (.iconst 5, 1) := by decide +kernel
theorem d_Mo_leave_155 : decode prog_10_method_11_code 155 = .ok (.iload_n 1, 1) := by decide +kernel
theorem d_Mo_leave_156 : decode prog_10_method_11_code 156 = .ok (.imul, 1) := by decide +kernel
theorem d_Mo_leave_157 : decode prog_10_method_11_code 157 = .ok (.iconst 4, 1) := by decide +kernel
theorem d_Mo_leave_158 : decode prog_10_method_11_code 158 = .ok (.iadd, 1) := by decide +kernel
theorem d_Mo_leave_159 : decode prog_10_method_11_code 159 = .ok (.dup2, 1) := by decide +kernel
theorem d_Mo_leave_160 : decode prog_10_method_11_code 160 = .ok (.iaload, 1) := by decide +kernel
theorem d_Mo_leave_161 : decode prog_10_method_11_code 161 = .ok (.iconst 1, 1) := by decide +kernel
theorem d_Mo_leave_162 : decode prog_10_method_11_code 162 = .ok (.iadd, 1) := by decide +kernel
theorem d_Mo_leave_163 : decode prog_10_method_11_code 163 = .ok (.iastore, 1) := by decide +kernel
theorem d_Mo_leave_164 : decode prog_10_method_11_code 164 = .ok (.iload_n 3, 1) := by decide +kernel
theorem d_Mo_leave_165 : decode prog_10_method_11_code 165 = .ok (.ifCond .ne 22, 3) := by decide +kernel
theorem d_Mo_leave_168 : decode prog_10_method_11_code 168 = .ok (.aload_n 0, 1) := by decide +kernel
theorem d_Mo_leave_169 : decode prog_10_method_11_code 169 = .ok (.getfield 46, 3) := by decide +kernel
theorem d_Mo_leave_172 : decode prog_10_method_11_code 172 = .ok (.iload_n 2, 1) := by decide +kernel
theorem d_Mo_leave_173 : decode prog_10_method_11_code 173 = .ok (.iaload, 1) := by decide +kernel
theorem d_Mo_leave_174 : decode prog_10_method_11_code 174 = .ok (.ifCond .lt 13, 3) := by decide +kernel
theorem d_Mo_leave_177 : decode prog_10_method_11_code 177 = .ok (.aload_n 0, 1) := by decide +kernel
theorem d_Mo_leave_178 : decode prog_10_method_11_code 178 = .ok (.aload_n 0, 1) := by decide +kernel
theorem d_Mo_leave_179 : decode prog_10_method_11_code 179 = .ok (.getfield 46, 3) := by decide +kernel
theorem d_Mo_leave_182 : decode prog_10_method_11_code 182 = .ok (.iload_n 2, 1) := by decide +kernel
theorem d_Mo_leave_183 : decode prog_10_method_11_code 183 = .ok (.iaload, 1) := by decide +kernel
theorem d_Mo_leave_184 : decode prog_10_method_11_code 184 = .ok (.invokevirtual 95, 3) := by decide +kernel
theorem d_Mo_leave_187 : decode prog_10_method_11_code 187 = .ok (.return_, 1) := by decide +kernel
