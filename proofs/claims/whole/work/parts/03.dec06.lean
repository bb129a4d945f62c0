abbrev m_Lane_renewRow : ac_I := (⟨"PairedGates$Lane", "renewRow", "(I)V"⟩, prog_5_method_8_code, 6, none, [])
theorem d_Lane_renewRow_0 : decode prog_5_method_8_code 0 = .ok (.iconst 4, 1) := by decide +kernel
theorem d_Lane_renewRow_1 : decode prog_5_method_8_code 1 = .ok (.iload_n 1, 1) := by decide +kernel
theorem d_Lane_renewRow_2 : decode prog_5_method_8_code 2 = .ok (.isub, 1) := by decide +kernel
theorem d_Lane_renewRow_3 : decode prog_5_method_8_code 3 = .ok (.istore_n 2, 1) := by decide +kernel
theorem d_Lane_renewRow_4 : decode prog_5_method_8_code 4 = .ok (.iconst 0, 1) := by decide +kernel
theorem d_Lane_renewRow_5 : decode prog_5_method_8_code 5 = .ok (.istore_n 3, 1) := by decide +kernel
theorem d_Lane_renewRow_6 : decode prog_5_method_8_code 6 = .ok (.iconst 0, 1) := by decide +kernel
theorem d_Lane_renewRow_7 : decode prog_5_method_8_code 7 = .ok (.istore 4, 2) := by decide +kernel
theorem d_Lane_renewRow_9 : decode prog_5_method_8_code 9 = .ok (.iload 4, 2) := by decide +kernel
theorem d_Lane_renewRow_11 : decode prog_5_method_8_code 11 = .ok (.aload_n 0, 1) := by decide +kernel
theorem d_Lane_renewRow_12 : decode prog_5_method_8_code 12 = .ok (.getfield 21, 3) := by decide +kernel
theorem d_Lane_renewRow_15 : decode prog_5_method_8_code 15 = .ok (.getfield 132, 3) := by decide +kernel
theorem d_Lane_renewRow_18 : decode prog_5_method_8_code 18 = .ok (.if_icmp .ge 89, 3) := by decide +kernel
theorem d_Lane_renewRow_21 : decode prog_5_method_8_code 21 = .ok (.aload_n 0, 1) := by decide +kernel
theorem d_Lane_renewRow_22 : decode prog_5_method_8_code 22 = .ok (.iload 4, 2) := by decide +kernel
theorem d_Lane_renewRow_24 : decode prog_5_method_8_code 24 = .ok (.invokevirtual 133, 3) := by decide +kernel
theorem d_Lane_renewRow_27 : decode prog_5_method_8_code 27 = .ok (.istore 5, 2) := by decide +kernel
theorem d_Lane_renewRow_29 : decode prog_5_method_8_code 29 = .ok (.iload 5, 2) := by decide +kernel
theorem d_Lane_renewRow_31 : decode prog_5_method_8_code 31 = .ok (.ifCond .le 16, 3) := by decide +kernel
theorem d_Lane_renewRow_34 : decode prog_5_method_8_code 34 = .ok (.aload_n 0, 1) := by decide +kernel
theorem d_Lane_renewRow_35 : decode prog_5_method_8_code 35 = .ok (.iload 4, 2) := by decide +kernel
theorem d_Lane_renewRow_37 : decode prog_5_method_8_code 37 = .ok (.iload 5, 2) := by decide +kernel
theorem d_Lane_renewRow_39 : decode prog_5_method_8_code 39 = .ok (.iload_n 3, 1) := by decide +kernel
theorem d_Lane_renewRow_40 : decode prog_5_method_8_code 40 = .ok (.invokevirtual 137, 3) := by decide +kernel
theorem d_Lane_renewRow_43 : decode prog_5_method_8_code 43 = .ok (.istore_n 3, 1) := by decide +kernel
theorem d_Lane_renewRow_44 : decode prog_5_method_8_code 44 = .ok (.goto 57, 3) := by decide +kernel
theorem d_Lane_renewRow_47 : decode prog_5_method_8_code 47 = .ok (.iload_n 2, 1) := by decide +kernel
theorem d_Lane_renewRow_48 : decode prog_5_method_8_code 48 = .ok (.ifCond .le 53, 3) := by decide +kernel
theorem d_Lane_renewRow_51 : decode prog_5_method_8_code 51 = .ok (.iload_n 3, 1) := by decide +kernel
theorem d_Lane_renewRow_52 : decode prog_5_method_8_code 52 = .ok (.aload_n 0, 1) := by decide +kernel
theorem d_Lane_renewRow_53 : decode prog_5_method_8_code 53 = .ok (.getfield 63, 3) := by decide +kernel
theorem d_Lane_renewRow_56 : decode prog_5_method_8_code 56 = .ok (.arraylength, 1) := by decide +kernel
theorem d_Lane_renewRow_57 : decode prog_5_method_8_code 57 = .ok (.if_icmp .ge 44, 3) := by decide +kernel
theorem d_Lane_renewRow_60 : decode prog_5_method_8_code 60 = .ok (.aload_n 0, 1) := by decide +kernel
theorem d_Lane_renewRow_61 : decode prog_5_method_8_code 61 = .ok (.getfield 63, 3) := by decide +kernel
theorem d_Lane_renewRow_64 : decode prog_5_method_8_code 64 = .ok (.iload_n 3, 1) := by decide +kernel
theorem d_Lane_renewRow_65 : decode prog_5_method_8_code 65 = .ok (.aaload, 1) := by decide +kernel
theorem d_Lane_renewRow_66 : decode prog_5_method_8_code 66 = .ok (.aload_n 0, 1) := by decide +kernel
theorem d_Lane_renewRow_67 : decode prog_5_method_8_code 67 = .ok (.getfield 21, 3) := by decide +kernel
theorem d_Lane_renewRow_70 : decode prog_5_method_8_code 70 = .ok (.getfield 141, 3) := by decide +kernel
theorem d_Lane_renewRow_73 : decode prog_5_method_8_code 73 = .ok (.iload 4, 2) := by decide +kernel
theorem d_Lane_renewRow_75 : decode prog_5_method_8_code 75 = .ok (.iaload, 1) := by decide +kernel
theorem d_Lane_renewRow_76 : decode prog_5_method_8_code 76 = .ok (.aload_n 0, 1) := by decide +kernel
theorem d_Lane_renewRow_77 : decode prog_5_method_8_code 77 = .ok (.getfield 21, 3) := by decide +kernel
theorem d_Lane_renewRow_80 : decode prog_5_method_8_code 80 = .ok (.getfield 144, 3) := by decide +kernel
theorem d_Lane_renewRow_83 : decode prog_5_method_8_code 83 = .ok (.iload 4, 2) := by decide +kernel
theorem d_Lane_renewRow_85 : decode prog_5_method_8_code 85 = .ok (.iaload, 1) := by decide +kernel
theorem d_Lane_renewRow_86 : decode prog_5_method_8_code 86 = .ok (.aload_n 0, 1) := by decide +kernel
theorem d_Lane_renewRow_87 : decode prog_5_method_8_code 87 = .ok (.iload 4, 2) := by decide +kernel
theorem d_Lane_renewRow_89 : decode prog_5_method_8_code 89 = .ok (.invokevirtual 147, 3) := by decide +kernel
theorem d_Lane_renewRow_92 : decode prog_5_method_8_code 92 = .ok (.invokevirtual 150, 3) := by decide +kernel
theorem d_Lane_renewRow_95 : decode prog_5_method_8_code 95 = .ok (.iinc 3 1, 3) := by decide +kernel
theorem d_Lane_renewRow_98 : decode prog_5_method_8_code 98 = .ok (.iinc 2 (-1), 3) := by decide +kernel
theorem d_Lane_renewRow_101 : decode prog_5_method_8_code 101 = .ok (.iinc 4 1, 3) := by decide +kernel
theorem d_Lane_renewRow_104 : decode prog_5_method_8_code 104 = .ok (.goto (-95), 3) := by decide +kernel
theorem d_Lane_renewRow_107 : decode prog_5_method_8_code 107 = .ok (.aload_n 0, 1) := by decide +kernel
theorem d_Lane_renewRow_108 : decode prog_5_method_8_code 108 = .ok (.getfield 59, 3) := by decide +kernel
theorem d_Lane_renewRow_111 : decode prog_5_method_8_code 111 = .ok (.astore 4, 2) := by decide +kernel
theorem d_Lane_renewRow_113 : decode prog_5_method_8_code 113 = .ok (.aload_n 0, 1) := by decide +kernel
theorem d_Lane_renewRow_114 : decode prog_5_method_8_code 114 = .ok (.aload_n 0, 1) := by decide +kernel
theorem d_Lane_renewRow_115 : decode prog_5_method_8_code 115 = .ok (.getfield 63, 3) := by decide +kernel
theorem d_Lane_renewRow_118 : decode prog_5_method_8_code 118 = .ok (.putfield 59, 3) := by decide +kernel
theorem d_Lane_renewRow_121 : decode prog_5_method_8_code 121 = .ok (.aload_n 0, 1) := by decide +kernel
theorem d_Lane_renewRow_122 : decode prog_5_method_8_code 122 = .ok (.aload 4, 2) := by decide +kernel
theorem d_Lane_renewRow_124 : decode prog_5_method_8_code 124 = .ok (.putfield 63, 3) := by decide +kernel
theorem d_Lane_renewRow_127 : decode prog_5_method_8_code 127 = .ok (.aload_n 0, 1) := by decide +kernel
theorem d_Lane_renewRow_128 : decode prog_5_method_8_code 128 = .ok (.iload_n 3, 1) := by decide +kernel
theorem d_Lane_renewRow_129 : decode prog_5_method_8_code 129 = .ok (.putfield 52, 3) := by decide +kernel
theorem d_Lane_renewRow_132 : decode prog_5_method_8_code 132 = .ok (.return_, 1) := by decide +kernel
abbrev m_Lane_sharersOf : ac_I := (⟨"PairedGates$Lane", "sharersOf", "(I)I"⟩, prog_5_method_9_code, 4, (some (.int)), [])
theorem d_Lane_sharersOf_0 : decode prog_5_method_9_code 0 = .ok (.iconst 0, 1) := by decide +kernel
theorem d_Lane_sharersOf_1 : decode prog_5_method_9_code 1 = .ok (.istore_n 2, 1) := by decide +kernel
theorem d_Lane_sharersOf_2 : decode prog_5_method_9_code 2 = .ok (.iconst 0, 1) := by decide +kernel
theorem d_Lane_sharersOf_3 : decode prog_5_method_9_code 3 = .ok (.istore_n 3, 1) := by decide +kernel
theorem d_Lane_sharersOf_4 : decode prog_5_method_9_code 4 = .ok (.iload_n 3, 1) := by decide +kernel
theorem d_Lane_sharersOf_5 : decode prog_5_method_9_code 5 = .ok (.aload_n 0, 1) := by decide +kernel
theorem d_Lane_sharersOf_6 : decode prog_5_method_9_code 6 = .ok (.getfield 52, 3) := by decide +kernel
theorem d_Lane_sharersOf_9 : decode prog_5_method_9_code 9 = .ok (.if_icmp .ge 22, 3) := by decide +kernel
theorem d_Lane_sharersOf_12 : decode prog_5_method_9_code 12 = .ok (.aload_n 0, 1) := by decide +kernel
theorem d_Lane_sharersOf_13 : decode prog_5_method_9_code 13 = .ok (.getfield 45, 3) := by decide +kernel
theorem d_Lane_sharersOf_16 : decode prog_5_method_9_code 16 = .ok (.iload_n 3, 1) := by decide +kernel
theorem d_Lane_sharersOf_17 : decode prog_5_method_9_code 17 = .ok (.iaload, 1) := by decide +kernel
theorem d_Lane_sharersOf_18 : decode prog_5_method_9_code 18 = .ok (.iload_n 1, 1) := by decide +kernel
theorem d_Lane_sharersOf_19 : decode prog_5_method_9_code 19 = .ok (.if_icmp .ne 6, 3) := by decide +kernel
theorem d_Lane_sharersOf_22 : decode prog_5_method_9_code 22 = .ok (.iinc 2 1, 3) := by decide +kernel
theorem d_Lane_sharersOf_25 : decode prog_5_method_9_code 25 = .ok (.iinc 3 1, 3) := by decide +kernel
theorem d_Lane_sharersOf_28 : decode prog_5_method_9_code 28 = .ok (.goto (-24), 3) := by decide +kernel
theorem d_Lane_sharersOf_31 : decode prog_5_method_9_code 31 = .ok (.iload_n 2, 1) := by decide +kernel
theorem d_Lane_sharersOf_32 : decode prog_5_method_9_code 32 = .ok (.ireturn, 1) := by decide +kernel
abbrev m_Lane_shareBlob : ac_I := (⟨"PairedGates$Lane", "shareBlob", "(III)I"⟩, prog_5_method_10_code, 11, (some (.int)), [])
theorem d_Lane_shareBlob_0 : decode prog_5_method_10_code 0 = .ok (.aload_n 0, 1) := by decide +kernel
theorem d_Lane_shareBlob_1 : decode prog_5_method_10_code 1 = .ok (.getfield 21, 3) := by decide +kernel
theorem d_Lane_shareBlob_4 : decode prog_5_method_10_code 4 = .ok (.getfield 141, 3) := by decide +kernel
theorem d_Lane_shareBlob_7 : decode prog_5_method_10_code 7 = .ok (.iload_n 1, 1) := by decide +kernel
theorem d_Lane_shareBlob_8 : decode prog_5_method_10_code 8 = .ok (.iaload, 1) := by decide +kernel
theorem d_Lane_shareBlob_9 : decode prog_5_method_10_code 9 = .ok (.istore 4, 2) := by decide +kernel
theorem d_Lane_shareBlob_11 : decode prog_5_method_10_code 11 = .ok (.aload_n 0, 1) := by decide +kernel
theorem d_Lane_shareBlob_12 : decode prog_5_method_10_code 12 = .ok (.getfield 21, 3) := by decide +kernel
theorem d_Lane_shareBlob_15 : decode prog_5_method_10_code 15 = .ok (.getfield 144, 3) := by decide +kernel
theorem d_Lane_shareBlob_18 : decode prog_5_method_10_code 18 = .ok (.iload_n 1, 1) := by decide +kernel
theorem d_Lane_shareBlob_19 : decode prog_5_method_10_code 19 = .ok (.iaload, 1) := by decide +kernel
theorem d_Lane_shareBlob_20 : decode prog_5_method_10_code 20 = .ok (.iload 4, 2) := by decide +kernel
theorem d_Lane_shareBlob_22 : decode prog_5_method_10_code 22 = .ok (.isub, 1) := by decide +kernel
theorem d_Lane_shareBlob_23 : decode prog_5_method_10_code 23 = .ok (.iconst 1, 1) := by decide +kernel
theorem d_Lane_shareBlob_24 : decode prog_5_method_10_code 24 = .ok (.iadd, 1) := by decide +kernel
theorem d_Lane_shareBlob_25 : decode prog_5_method_10_code 25 = .ok (.istore 5, 2) := by decide +kernel
theorem d_Lane_shareBlob_27 : decode prog_5_method_10_code 27 = .ok (.iconst 0, 1) := by decide +kernel
theorem d_Lane_shareBlob_28 : decode prog_5_method_10_code 28 = .ok (.istore 6, 2) := by decide +kernel
theorem d_Lane_shareBlob_30 : decode prog_5_method_10_code 30 = .ok (.iload_n 3, 1) := by decide +kernel
theorem d_Lane_shareBlob_31 : decode prog_5_method_10_code 31 = .ok (.istore 7, 2) := by decide +kernel
theorem d_Lane_shareBlob_33 : decode prog_5_method_10_code 33 = .ok (.iconst 0, 1) := by decide +kernel
theorem d_Lane_shareBlob_34 : decode prog_5_method_10_code 34 = .ok (.istore 8, 2) := by decide +kernel
theorem d_Lane_shareBlob_36 : decode prog_5_method_10_code 36 = .ok (.iload 8, 2) := by decide +kernel
theorem d_Lane_shareBlob_38 : decode prog_5_method_10_code 38 = .ok (.aload_n 0, 1) := by decide +kernel
theorem d_Lane_shareBlob_39 : decode prog_5_method_10_code 39 = .ok (.getfield 52, 3) := by decide +kernel
theorem d_Lane_shareBlob_42 : decode prog_5_method_10_code 42 = .ok (.if_icmp .ge 94, 3) := by decide +kernel
theorem d_Lane_shareBlob_45 : decode prog_5_method_10_code 45 = .ok (.iload 7, 2) := by decide +kernel
theorem d_Lane_shareBlob_47 : decode prog_5_method_10_code 47 = .ok (.aload_n 0, 1) := by decide +kernel
theorem d_Lane_shareBlob_48 : decode prog_5_method_10_code 48 = .ok (.getfield 63, 3) := by decide +kernel
theorem d_Lane_shareBlob_51 : decode prog_5_method_10_code 51 = .ok (.arraylength, 1) := by decide +kernel
theorem d_Lane_shareBlob_52 : decode prog_5_method_10_code 52 = .ok (.if_icmp .ge 84, 3) := by decide +kernel
theorem d_Lane_shareBlob_55 : decode prog_5_method_10_code 55 = .ok (.iload_n 2, 1) := by decide +kernel
theorem d_Lane_shareBlob_56 : decode prog_5_method_10_code 56 = .ok (.ifCond .le 80, 3) := by decide +kernel
theorem d_Lane_shareBlob_59 : decode prog_5_method_10_code 59 = .ok (.aload_n 0, 1) := by decide +kernel
theorem d_Lane_shareBlob_60 : decode prog_5_method_10_code 60 = .ok (.getfield 45, 3) := by decide +kernel
theorem d_Lane_shareBlob_63 : decode prog_5_method_10_code 63 = .ok (.iload 8, 2) := by decide +kernel
theorem d_Lane_shareBlob_65 : decode prog_5_method_10_code 65 = .ok (.iaload, 1) := by decide +kernel
theorem d_Lane_shareBlob_66 : decode prog_5_method_10_code 66 = .ok (.iload_n 1, 1) := by decide +kernel
theorem d_Lane_shareBlob_67 : decode prog_5_method_10_code 67 = .ok (.if_icmp .ne 63, 3) := by decide +kernel
theorem d_Lane_shareBlob_70 : decode prog_5_method_10_code 70 = .ok (.iload 4, 2) := by decide +kernel
theorem d_Lane_shareBlob_72 : decode prog_5_method_10_code 72 = .ok (.iload 6, 2) := by decide +kernel
theorem d_Lane_shareBlob_74 : decode prog_5_method_10_code 74 = .ok (.iload 5, 2) := by decide +kernel
theorem d_Lane_shareBlob_76 : decode prog_5_method_10_code 76 = .ok (.imul, 1) := by decide +kernel
theorem d_Lane_shareBlob_77 : decode prog_5_method_10_code 77 = .ok (.iload_n 2, 1) := by decide +kernel
theorem d_Lane_shareBlob_78 : decode prog_5_method_10_code 78 = .ok (.idiv, 1) := by decide +kernel
theorem d_Lane_shareBlob_79 : decode prog_5_method_10_code 79 = .ok (.iadd, 1) := by decide +kernel
theorem d_Lane_shareBlob_80 : decode prog_5_method_10_code 80 = .ok (.istore 9, 2) := by decide +kernel
theorem d_Lane_shareBlob_82 : decode prog_5_method_10_code 82 = .ok (.iload 4, 2) := by decide +kernel
theorem d_Lane_shareBlob_84 : decode prog_5_method_10_code 84 = .ok (.iload 6, 2) := by decide +kernel
theorem d_Lane_shareBlob_86 : decode prog_5_method_10_code 86 = .ok (.iconst 1, 1) := by decide +kernel
theorem d_Lane_shareBlob_87 : decode prog_5_method_10_code 87 = .ok (.iadd, 1) := by decide +kernel
theorem d_Lane_shareBlob_88 : decode prog_5_method_10_code 88 = .ok (.iload 5, 2) := by decide +kernel
theorem d_Lane_shareBlob_90 : decode prog_5_method_10_code 90 = .ok (.imul, 1) := by decide +kernel
theorem d_Lane_shareBlob_91 : decode prog_5_method_10_code 91 = .ok (.iload_n 2, 1) := by decide +kernel
theorem d_Lane_shareBlob_92 : decode prog_5_method_10_code 92 = .ok (.idiv, 1) := by decide +kernel
theorem d_Lane_shareBlob_93 : decode prog_5_method_10_code 93 = .ok (.iadd, 1) := by decide +kernel
theorem d_Lane_shareBlob_94 : decode prog_5_method_10_code 94 = .ok (.iconst 1, 1) := by decide +kernel
theorem d_Lane_shareBlob_95 : decode prog_5_method_10_code 95 = .ok (.isub, 1) := by decide +kernel
theorem d_Lane_shareBlob_96 : decode prog_5_method_10_code 96 = .ok (.istore 10, 2) := by decide +kernel
theorem d_Lane_shareBlob_98 : decode prog_5_method_10_code 98 = .ok (.aload_n 0, 1) := by decide +kernel
theorem d_Lane_shareBlob_99 : decode prog_5_method_10_code 99 = .ok (.getfield 63, 3) := by decide +kernel
theorem d_Lane_shareBlob_102 : decode prog_5_method_10_code 102 = .ok (.iload 7, 2) := by decide +kernel
theorem d_Lane_shareBlob_104 : decode prog_5_method_10_code 104 = .ok (.aaload, 1) := by decide +kernel
theorem d_Lane_shareBlob_105 : decode prog_5_method_10_code 105 = .ok (.aload_n 0, 1) := by decide +kernel
theorem d_Lane_shareBlob_106 : decode prog_5_method_10_code 106 = .ok (.getfield 59, 3) := by decide +kernel
theorem d_Lane_shareBlob_109 : decode prog_5_method_10_code 109 = .ok (.iload 8, 2) := by decide +kernel
theorem d_Lane_shareBlob_111 : decode prog_5_method_10_code 111 = .ok (.aaload, 1) := by decide +kernel
theorem d_Lane_shareBlob_112 : decode prog_5_method_10_code 112 = .ok (.iload 9, 2) := by decide +kernel
theorem d_Lane_shareBlob_114 : decode prog_5_method_10_code 114 = .ok (.iload 9, 2) := by decide +kernel
theorem d_Lane_shareBlob_116 : decode prog_5_method_10_code 116 = .ok (.iload 10, 2) := by decide +kernel
theorem d_Lane_shareBlob_118 : decode prog_5_method_10_code 118 = .ok (.invokestatic 154, 3) := by decide +kernel
theorem d_Lane_shareBlob_121 : decode prog_5_method_10_code 121 = .ok (.invokevirtual 160, 3) := by decide +kernel
theorem d_Lane_shareBlob_124 : decode prog_5_method_10_code 124 = .ok (.iinc 6 1, 3) := by decide +kernel
theorem d_Lane_shareBlob_127 : decode prog_5_method_10_code 127 = .ok (.iinc 7 1, 3) := by decide +kernel
theorem d_Lane_shareBlob_130 : decode prog_5_method_10_code 130 = .ok (.iinc 8 1, 3) := by decide +kernel
theorem d_Lane_shareBlob_133 : decode prog_5_method_10_code 133 = .ok (.goto (-97), 3) := by decide +kernel
theorem d_Lane_shareBlob_136 : decode prog_5_method_10_code 136 = .ok (.iload 7, 2) := by decide +kernel
theorem d_Lane_shareBlob_138 : decode prog_5_method_10_code 138 = .ok (.ireturn, 1) := by decide +kernel
abbrev m_Lane_sideFor : ac_I := (⟨"PairedGates$Lane", "sideFor", "(I)I"⟩, prog_5_method_11_code, 3, (some (.int)), [])
theorem d_Lane_sideFor_0 : decode prog_5_method_11_code 0 = .ok (.iconst 0, 1) := by decide +kernel
theorem d_Lane_sideFor_1 : decode prog_5_method_11_code 1 = .ok (.istore_n 2, 1) := by decide +kernel
theorem d_Lane_sideFor_2 : decode prog_5_method_11_code 2 = .ok (.iload_n 2, 1) := by decide +kernel
theorem d_Lane_sideFor_3 : decode prog_5_method_11_code 3 = .ok (.aload_n 0, 1) := by decide +kernel
theorem d_Lane_sideFor_4 : decode prog_5_method_11_code 4 = .ok (.getfield 52, 3) := by decide +kernel
theorem d_Lane_sideFor_7 : decode prog_5_method_11_code 7 = .ok (.if_icmp .ge 36, 3) := by decide +kernel
theorem d_Lane_sideFor_10 : decode prog_5_method_11_code 10 = .ok (.aload_n 0, 1) := by decide +kernel
theorem d_Lane_sideFor_11 : decode prog_5_method_11_code 11 = .ok (.getfield 21, 3) := by decide +kernel
theorem d_Lane_sideFor_14 : decode prog_5_method_11_code 14 = .ok (.aload_n 0, 1) := by decide +kernel
theorem d_Lane_sideFor_15 : decode prog_5_method_11_code 15 = .ok (.getfield 59, 3) := by decide +kernel
theorem d_Lane_sideFor_18 : decode prog_5_method_11_code 18 = .ok (.iload_n 2, 1) := by decide +kernel
theorem d_Lane_sideFor_19 : decode prog_5_method_11_code 19 = .ok (.aaload, 1) := by decide +kernel
theorem d_Lane_sideFor_20 : decode prog_5_method_11_code 20 = .ok (.iload_n 1, 1) := by decide +kernel
theorem d_Lane_sideFor_21 : decode prog_5_method_11_code 21 = .ok (.invokevirtual 164, 3) := by decide +kernel
theorem d_Lane_sideFor_24 : decode prog_5_method_11_code 24 = .ok (.ifCond .eq 13, 3) := by decide +kernel
theorem d_Lane_sideFor_27 : decode prog_5_method_11_code 27 = .ok (.aload_n 0, 1) := by decide +kernel
theorem d_Lane_sideFor_28 : decode prog_5_method_11_code 28 = .ok (.getfield 59, 3) := by decide +kernel
theorem d_Lane_sideFor_31 : decode prog_5_method_11_code 31 = .ok (.iload_n 2, 1) := by decide +kernel
theorem d_Lane_sideFor_32 : decode prog_5_method_11_code 32 = .ok (.aaload, 1) := by decide +kernel
theorem d_Lane_sideFor_33 : decode prog_5_method_11_code 33 = .ok (.getfield 168, 3) := by decide +kernel
theorem d_Lane_sideFor_36 : decode prog_5_method_11_code 36 = .ok (.ireturn, 1) := by decide +kernel
theorem d_Lane_sideFor_37 : decode prog_5_method_11_code 37 = .ok (.iinc 2 1, 3) := by decide +kernel
theorem d_Lane_sideFor_40 : decode prog_5_method_11_code 40 = .ok (.goto (-38), 3) := by decide +kernel
theorem d_Lane_sideFor_43 : decode prog_5_method_11_code 43 = .ok (.aload_n 0, 1) := by decide +kernel
theorem d_Lane_sideFor_44 : decode prog_5_method_11_code 44 = .ok (.getfield 21, 3) := by decide +kernel
theorem d_Lane_sideFor_47 : decode prog_5_method_11_code 47 = .ok (.getfield 141, 3) := by decide +kernel
theorem d_Lane_sideFor_50 : decode prog_5_method_11_code 50 = .ok (.iload_n 1, 1) := by decide +kernel
theorem d_Lane_sideFor_51 : decode prog_5_method_11_code 51 = .ok (.iaload, 1) := by decide +kernel
theorem d_Lane_sideFor_52 : decode prog_5_method_11_code 52 = .ok (.aload_n 0, 1) := by decide +kernel
theorem d_Lane_sideFor_53 : decode prog_5_method_11_code 53 = .ok (.getfield 21, 3) := by decide +kernel
theorem d_Lane_sideFor_56 : decode prog_5_method_11_code 56 = .ok (.getfield 144, 3) := by decide +kernel
theorem d_Lane_sideFor_59 : decode prog_5_method_11_code 59 = .ok (.iload_n 1, 1) := by decide +kernel
theorem d_Lane_sideFor_60 : decode prog_5_method_11_code 60 = .ok (.iaload, 1) := by decide +kernel
theorem d_Lane_sideFor_61 : decode prog_5_method_11_code 61 = .ok (.iadd, 1) := by decide +kernel
theorem d_Lane_sideFor_62 : decode prog_5_method_11_code 62 = .ok (.bipush 9, 2) := by decide +kernel
theorem d_Lane_sideFor_64 : decode prog_5_method_11_code 64 = .ok (.if_icmp .ge 7, 3) := by decide +kernel
theorem d_Lane_sideFor_67 : decode prog_5_method_11_code 67 = .ok (.iconst 0, 1) := by decide +kernel
theorem d_Lane_sideFor_68 : decode prog_5_method_11_code 68 = .ok (.goto 4, 3) := by decide +kernel
theorem d_Lane_sideFor_71 : decode prog_5_method_11_code 71 = .ok (.iconst 1, 1) := by decide +kernel
theorem d_Lane_sideFor_72 : decode prog_5_method_11_code 72 = .ok (.ireturn, 1) := by decide +kernel
abbrev m_Lane_handOutTokens : ac_I := (⟨"PairedGates$Lane", "handOutTokens", "()V"⟩, prog_5_method_12_code, 3, none, [])
theorem d_Lane_handOutTokens_0 : decode prog_5_method_12_code 0 = .ok (.iconst 0, 1) := by decide +kernel
theorem d_Lane_handOutTokens_1 : decode prog_5_method_12_code 1 = .ok (.istore_n 1, 1) := by decide +kernel
theorem d_Lane_handOutTokens_2 : decode prog_5_method_12_code 2 = .ok (.iload_n 1, 1) := by decide +kernel
theorem d_Lane_handOutTokens_3 : decode prog_5_method_12_code 3 = .ok (.aload_n 0, 1) := by decide +kernel
theorem d_Lane_handOutTokens_4 : decode prog_5_method_12_code 4 = .ok (.getfield 52, 3) := by decide +kernel
theorem d_Lane_handOutTokens_7 : decode prog_5_method_12_code 7 = .ok (.if_icmp .ge 55, 3) := by decide +kernel
theorem d_Lane_handOutTokens_10 : decode prog_5_method_12_code 10 = .ok (.aload_n 0, 1) := by decide +kernel
theorem d_Lane_handOutTokens_11 : decode prog_5_method_12_code 11 = .ok (.getfield 59, 3) := by decide +kernel
theorem d_Lane_handOutTokens_14 : decode prog_5_method_12_code 14 = .ok (.iload_n 1, 1) := by decide +kernel
theorem d_Lane_handOutTokens_15 : decode prog_5_method_12_code 15 = .ok (.aaload, 1) := by decide +kernel
theorem d_Lane_handOutTokens_16 : decode prog_5_method_12_code 16 = .ok (.astore_n 2, 1) := by decide +kernel
theorem d_Lane_handOutTokens_17 : decode prog_5_method_12_code 17 = .ok (.aload_n 2, 1) := by decide +kernel
theorem d_Lane_handOutTokens_18 : decode prog_5_method_12_code 18 = .ok (.getfield 115, 3) := by decide +kernel
theorem d_Lane_handOutTokens_21 : decode prog_5_method_12_code 21 = .ok (.iconst (-1), 1) := by decide +kernel
theorem d_Lane_handOutTokens_22 : decode prog_5_method_12_code 22 = .ok (.if_icmp .ne 34, 3) := by decide +kernel
theorem d_Lane_handOutTokens_25 : decode prog_5_method_12_code 25 = .ok (.aload_n 2, 1) := by decide +kernel
theorem d_Lane_handOutTokens_26 : decode prog_5_method_12_code 26 = .ok (.invokevirtual 171, 3) := by decide +kernel
theorem d_Lane_handOutTokens_29 : decode prog_5_method_12_code 29 = .ok (.ifCond .eq 27, 3) := by decide +kernel
theorem d_Lane_handOutTokens_32 : decode prog_5_method_12_code 32 = .ok (.aload_n 2, 1) := by decide +kernel
theorem d_Lane_handOutTokens_33 : decode prog_5_method_12_code 33 = .ok (.aload_n 0, 1) := by decide +kernel
theorem d_Lane_handOutTokens_34 : decode prog_5_method_12_code 34 = .ok (.getfield 37, 3) := by decide +kernel
theorem d_Lane_handOutTokens_37 : decode prog_5_method_12_code 37 = .ok (.aload_n 2, 1) := by decide +kernel
theorem d_Lane_handOutTokens_38 : decode prog_5_method_12_code 38 = .ok (.getfield 168, 3) := by decide +kernel
theorem d_Lane_handOutTokens_41 : decode prog_5_method_12_code 41 = .ok (.ifCond .ne 7, 3) := by decide +kernel
theorem d_Lane_handOutTokens_44 : decode prog_5_method_12_code 44 = .ok (.iconst 0, 1) := by decide +kernel
theorem d_Lane_handOutTokens_45 : decode prog_5_method_12_code 45 = .ok (.goto 4, 3) := by decide +kernel
theorem d_Lane_handOutTokens_48 : decode prog_5_method_12_code 48 = .ok (.iconst 1, 1) := by decide +kernel
theorem d_Lane_handOutTokens_49 : decode prog_5_method_12_code 49 = .ok (.aaload, 1) := by decide +kernel
theorem d_Lane_handOutTokens_50 : decode prog_5_method_12_code 50 = .ok (.invokevirtual 174, 3) := by decide +kernel
theorem d_Lane_handOutTokens_53 : decode prog_5_method_12_code 53 = .ok (.putfield 115, 3) := by decide +kernel
theorem d_Lane_handOutTokens_56 : decode prog_5_method_12_code 56 = .ok (.iinc 1 1, 3) := by decide +kernel
theorem d_Lane_handOutTokens_59 : decode prog_5_method_12_code 59 = .ok (.goto (-57), 3) := by decide +kernel
theorem d_Lane_handOutTokens_62 : decode prog_5_method_12_code 62 = .ok (.return_, 1) := by decide +kernel
abbrev m_Lane_someBodyHasToken : ac_I := (⟨"PairedGates$Lane", "someBodyHasToken", "()Z"⟩, prog_5_method_13_code, 2, (some (.boolean)), [])
theorem d_Lane_someBodyHasToken_0 : decode prog_5_method_13_code 0 = .ok (.iconst 0, 1) := by decide +kernel
theorem d_Lane_someBodyHasToken_1 : decode prog_5_method_13_code 1 = .ok (.istore_n 1, 1) := by decide +kernel
theorem d_Lane_someBodyHasToken_2 : decode prog_5_method_13_code 2 = .ok (.iload_n 1, 1) := by decide +kernel
theorem d_Lane_someBodyHasToken_3 : decode prog_5_method_13_code 3 = .ok (.aload_n 0, 1) := by decide +kernel
theorem d_Lane_someBodyHasToken_4 : decode prog_5_method_13_code 4 = .ok (.getfield 52, 3) := by decide +kernel
theorem d_Lane_someBodyHasToken_7 : decode prog_5_method_13_code 7 = .ok (.if_icmp .ge 24, 3) := by decide +kernel
theorem d_Lane_someBodyHasToken_10 : decode prog_5_method_13_code 10 = .ok (.aload_n 0, 1) := by decide +kernel
theorem d_Lane_someBodyHasToken_11 : decode prog_5_method_13_code 11 = .ok (.getfield 59, 3) := by decide +kernel
theorem d_Lane_someBodyHasToken_14 : decode prog_5_method_13_code 14 = .ok (.iload_n 1, 1) := by decide +kernel
theorem d_Lane_someBodyHasToken_15 : decode prog_5_method_13_code 15 = .ok (.aaload, 1) := by decide +kernel
theorem d_Lane_someBodyHasToken_16 : decode prog_5_method_13_code 16 = .ok (.getfield 115, 3) := by decide +kernel
theorem d_Lane_someBodyHasToken_19 : decode prog_5_method_13_code 19 = .ok (.iconst (-1), 1) := by decide +kernel
theorem d_Lane_someBodyHasToken_20 : decode prog_5_method_13_code 20 = .ok (.if_icmp .eq 5, 3) := by decide +kernel
theorem d_Lane_someBodyHasToken_23 : decode prog_5_method_13_code 23 = .ok (.iconst 1, 1) := by decide +kernel
theorem d_Lane_someBodyHasToken_24 : decode prog_5_method_13_code 24 = .ok (.ireturn, 1) := by decide +kernel
theorem d_Lane_someBodyHasToken_25 : decode prog_5_method_13_code 25 = .ok (.iinc 1 1, 3) := by decide +kernel
theorem d_Lane_someBodyHasToken_28 : decode prog_5_method_13_code 28 = .ok (.goto (-26), 3) := by decide +kernel
theorem d_Lane_someBodyHasToken_31 : decode prog_5_method_13_code 31 = .ok (.iconst 0, 1) := by decide +kernel
theorem d_Lane_someBodyHasToken_32 : decode prog_5_method_13_code 32 = .ok (.ireturn, 1) := by decide +kernel
abbrev m_Pad_init : ac_I := (⟨"PairedGates$Paddles", "<init>", "()V"⟩, prog_6_method_1_code, 1, none, [])
theorem d_Pad_init_0 : decode prog_6_method_1_code 0 = .ok (.aload_n 0, 1) := by decide +kernel
theorem d_Pad_init_1 : decode prog_6_method_1_code 1 = .ok (.invokespecial 3, 3) := by decide +kernel
theorem d_Pad_init_4 : decode prog_6_method_1_code 4 = .ok (.aload_n 0, 1) := by decide +kernel
theorem d_Pad_init_5 : decode prog_6_method_1_code 5 = .ok (.iconst 0, 1) := by decide +kernel
theorem d_Pad_init_6 : decode prog_6_method_1_code 6 = .ok (.putfield 9, 3) := by decide +kernel
theorem d_Pad_init_9 : decode prog_6_method_1_code 9 = .ok (.aload_n 0, 1) := by decide +kernel
theorem d_Pad_init_10 : decode prog_6_method_1_code 10 = .ok (.iconst 0, 1) := by decide +kernel
theorem d_Pad_init_11 : decode prog_6_method_1_code 11 = .ok (.putfield 15, 3) := by decide +kernel
theorem d_Pad_init_14 : decode prog_6_method_1_code 14 = .ok (.return_, 1) := by decide +kernel
abbrev m_Pad_move : ac_I := (⟨"PairedGates$Paddles", "move", "(ZZ)V"⟩, prog_6_method_2_code, 3, none, [])
theorem d_Pad_move_0 : decode prog_6_method_2_code 0 = .ok (.aload_n 0, 1) := by decide +kernel
theorem d_Pad_move_1 : decode prog_6_method_2_code 1 = .ok (.iconst 0, 1) := by decide +kernel
theorem d_Pad_move_2 : decode prog_6_method_2_code 2 = .ok (.putfield 15, 3) := by decide +kernel
theorem d_Pad_move_5 : decode prog_6_method_2_code 5 = .ok (.iload_n 1, 1) := by decide +kernel
theorem d_Pad_move_6 : decode prog_6_method_2_code 6 = .ok (.ifCond .eq 20, 3) := by decide +kernel
theorem d_Pad_move_9 : decode prog_6_method_2_code 9 = .ok (.aload_n 0, 1) := by decide +kernel
theorem d_Pad_move_10 : decode prog_6_method_2_code 10 = .ok (.getfield 9, 3) := by decide +kernel
theorem d_Pad_move_13 : decode prog_6_method_2_code 13 = .ok (.bipush 90, 2) := by decide +kernel
theorem d_Pad_move_15 : decode prog_6_method_2_code 15 = .ok (.if_icmp .ge 28, 3) := by decide +kernel
theorem d_Pad_move_18 : decode prog_6_method_2_code 18 = .ok (.aload_n 0, 1) := by decide +kernel
theorem d_Pad_move_19 : decode prog_6_method_2_code 19 = .ok (.iconst 2, 1) := by decide +kernel
theorem d_Pad_move_20 : decode prog_6_method_2_code 20 = .ok (.putfield 15, 3) := by decide +kernel
theorem d_Pad_move_23 : decode prog_6_method_2_code 23 = .ok (.goto 20, 3) := by decide +kernel
theorem d_Pad_move_26 : decode prog_6_method_2_code 26 = .ok (.aload_n 0, 1) := by decide +kernel
theorem d_Pad_move_27 : decode prog_6_method_2_code 27 = .ok (.getfield 9, 3) := by decide +kernel
theorem d_Pad_move_30 : decode prog_6_method_2_code 30 = .ok (.ifCond .le 13, 3) := by decide +kernel
theorem d_Pad_move_33 : decode prog_6_method_2_code 33 = .ok (.iload_n 2, 1) := by decide +kernel
theorem d_Pad_move_34 : decode prog_6_method_2_code 34 = .ok (.ifCond .ne 9, 3) := by decide +kernel
theorem d_Pad_move_37 : decode prog_6_method_2_code 37 = .ok (.aload_n 0, 1) := by decide +kernel
theorem d_Pad_move_38 : decode prog_6_method_2_code 38 = .ok (.bipush (-2), 2) := by decide +kernel
theorem d_Pad_move_40 : decode prog_6_method_2_code 40 = .ok (.putfield 15, 3) := by decide +kernel
theorem d_Pad_move_43 : decode prog_6_method_2_code 43 = .ok (.aload_n 0, 1) := by decide +kernel
theorem d_Pad_move_44 : decode prog_6_method_2_code 44 = .ok (.dup, 1) := by decide +kernel
theorem d_Pad_move_45 : decode prog_6_method_2_code 45 = .ok (.getfield 9, 3) := by decide +kernel
theorem d_Pad_move_48 : decode prog_6_method_2_code 48 = .ok (.aload_n 0, 1) := by decide +kernel
theorem d_Pad_move_49 : decode prog_6_method_2_code 49 = .ok (.getfield 15, 3) := by decide +kernel
theorem d_Pad_move_52 : decode prog_6_method_2_code 52 = .ok (.iadd, 1) := by decide +kernel
theorem d_Pad_move_53 : decode prog_6_method_2_code 53 = .ok (.putfield 9, 3) := by decide +kernel
theorem d_Pad_move_56 : decode prog_6_method_2_code 56 = .ok (.return_, 1) := by decide +kernel
abbrev m_Rf_init : ac_I := (⟨"PairedGates$Refunds", "<init>", "()V"⟩, prog_7_method_1_code, 1, none, [])
theorem d_Rf_init_0 : decode prog_7_method_1_code 0 = .ok (.aload_n 0, 1) := by decide +kernel
theorem d_Rf_init_1 : decode prog_7_method_1_code 1 = .ok (.invokespecial 3, 3) := by decide +kernel
theorem d_Rf_init_4 : decode prog_7_method_1_code 4 = .ok (.aload_n 0, 1) := by decide +kernel
theorem d_Rf_init_5 : decode prog_7_method_1_code 5 = .ok (.sipush 512, 3) := by decide +kernel
theorem d_Rf_init_8 : decode prog_7_method_1_code 8 = .ok (.newarray .int, 2) := by decide +kernel
theorem d_Rf_init_10 : decode prog_7_method_1_code 10 = .ok (.putfield 9, 3) := by decide +kernel
theorem d_Rf_init_13 : decode prog_7_method_1_code 13 = .ok (.aload_n 0, 1) := by decide +kernel
theorem d_Rf_init_14 : decode prog_7_method_1_code 14 = .ok (.iconst 0, 1) := by decide +kernel
theorem d_Rf_init_15 : decode prog_7_method_1_code 15 = .ok (.putfield 15, 3) := by decide +kernel
theorem d_Rf_init_18 : decode prog_7_method_1_code 18 = .ok (.return_, 1) := by decide +kernel
abbrev m_Rf_add : ac_I := (⟨"PairedGates$Refunds", "add", "(I)V"⟩, prog_7_method_2_code, 2, none, [])
theorem d_Rf_add_0 : decode prog_7_method_2_code 0 = .ok (.aload_n 0, 1) := by decide +kernel
theorem d_Rf_add_1 : decode prog_7_method_2_code 1 = .ok (.getfield 15, 3) := by decide +kernel
theorem d_Rf_add_4 : decode prog_7_method_2_code 4 = .ok (.aload_n 0, 1) := by decide +kernel
theorem d_Rf_add_5 : decode prog_7_method_2_code 5 = .ok (.getfield 9, 3) := by decide +kernel
theorem d_Rf_add_8 : decode prog_7_method_2_code 8 = .ok (.arraylength, 1) := by decide +kernel
theorem d_Rf_add_9 : decode prog_7_method_2_code 9 = .ok (.if_icmp .ge 23, 3) := by decide +kernel
theorem d_Rf_add_12 : decode prog_7_method_2_code 12 = .ok (.aload_n 0, 1) := by decide +kernel
theorem d_Rf_add_13 : decode prog_7_method_2_code 13 = .ok (.getfield 9, 3) := by decide +kernel
theorem d_Rf_add_16 : decode prog_7_method_2_code 16 = .ok (.aload_n 0, 1) := by decide +kernel
theorem d_Rf_add_17 : decode prog_7_method_2_code 17 = .ok (.getfield 15, 3) := by decide +kernel
theorem d_Rf_add_20 : decode prog_7_method_2_code 20 = .ok (.iload_n 1, 1) := by decide +kernel
theorem d_Rf_add_21 : decode prog_7_method_2_code 21 = .ok (.iastore, 1) := by decide +kernel
theorem d_Rf_add_22 : decode prog_7_method_2_code 22 = .ok (.aload_n 0, 1) := by decide +kernel
theorem d_Rf_add_23 : decode prog_7_method_2_code 23 = .ok (.dup, 1) := by decide +kernel
theorem d_Rf_add_24 : decode prog_7_method_2_code 24 = .ok (.getfield 15, 3) := by decide +kernel
theorem d_Rf_add_27 : decode prog_7_method_2_code 27 = .ok (.iconst 1, 1) := by decide +kernel
theorem d_Rf_add_28 : decode prog_7_method_2_code 28 = .ok (.iadd, 1) := by decide +kernel
theorem d_Rf_add_29 : decode prog_7_method_2_code 29 = .ok (.putfield 15, 3) := by decide +kernel
theorem d_Rf_add_32 : decode prog_7_method_2_code 32 = .ok (.return_, 1) := by decide +kernel
abbrev m_Rf_accountAt : ac_I := (⟨"PairedGates$Refunds", "accountAt", "(I)I"⟩, prog_7_method_3_code, 2, (some (.int)), [])
theorem d_Rf_accountAt_0 : decode prog_7_method_3_code 0 = .ok (.iload_n 1, 1) := by decide +kernel
theorem d_Rf_accountAt_1 : decode prog_7_method_3_code 1 = .ok (.ifCond .lt 20, 3) := by decide +kernel
theorem d_Rf_accountAt_4 : decode prog_7_method_3_code 4 = .ok (.iload_n 1, 1) := by decide +kernel
theorem d_Rf_accountAt_5 : decode prog_7_method_3_code 5 = .ok (.aload_n 0, 1) := by decide +kernel
theorem d_Rf_accountAt_6 : decode prog_7_method_3_code 6 = .ok (.getfield 15, 3) := by decide +kernel
theorem d_Rf_accountAt_9 : decode prog_7_method_3_code 9 = .ok (.if_icmp .ge 12, 3) := by decide +kernel
theorem d_Rf_accountAt_12 : decode prog_7_method_3_code 12 = .ok (.aload_n 0, 1) := by decide +kernel
theorem d_Rf_accountAt_13 : decode prog_7_method_3_code 13 = .ok (.getfield 9, 3) := by decide +kernel
theorem d_Rf_accountAt_16 : decode prog_7_method_3_code 16 = .ok (.iload_n 1, 1) := by decide +kernel
theorem d_Rf_accountAt_17 : decode prog_7_method_3_code 17 = .ok (.iaload, 1) := by decide +kernel
theorem d_Rf_accountAt_18 : decode prog_7_method_3_code 18 = .ok (.goto 4, 3) := by decide +kernel
theorem d_Rf_accountAt_21 : decode prog_7_method_3_code 21 = .ok (.iconst (-1), 1) := by decide +kernel
theorem d_Rf_accountAt_22 : decode prog_7_method_3_code 22 = .ok (.ireturn, 1) := by decide +kernel
abbrev m_TL_init : ac_I := (⟨"PairedGates$TokenList", "<init>", "(I)V"⟩, prog_8_method_1_code, 3, none, [])
theorem d_TL_init_0 : decode prog_8_method_1_code 0 = .ok (.aload_n 0, 1) := by decide +kernel
theorem d_TL_init_1 : decode prog_8_method_1_code 1 = .ok (.invokespecial 3, 3) := by decide +kernel
theorem d_TL_init_4 : decode prog_8_method_1_code 4 = .ok (.aload_n 0, 1) := by decide +kernel
theorem d_TL_init_5 : decode prog_8_method_1_code 5 = .ok (.iconst 0, 1) := by decide +kernel
theorem d_TL_init_6 : decode prog_8_method_1_code 6 = .ok (.putfield 9, 3) := by decide +kernel
theorem d_TL_init_9 : decode prog_8_method_1_code 9 = .ok (.iload_n 1, 1) := by decide +kernel
theorem d_TL_init_10 : decode prog_8_method_1_code 10 = .ok (.iconst 0, 1) := by decide +kernel
theorem d_TL_init_11 : decode prog_8_method_1_code 11 = .ok (.invokestatic 15, 3) := by decide +kernel
theorem d_TL_init_14 : decode prog_8_method_1_code 14 = .ok (.istore_n 2, 1) := by decide +kernel
theorem d_TL_init_15 : decode prog_8_method_1_code 15 = .ok (.aload_n 0, 1) := by decide +kernel
theorem d_TL_init_16 : decode prog_8_method_1_code 16 = .ok (.iload_n 2, 1) := by decide +kernel
theorem d_TL_init_17 : decode prog_8_method_1_code 17 = .ok (.newarray .int, 2) := by decide +kernel
theorem d_TL_init_19 : decode prog_8_method_1_code 19 = .ok (.putfield 21, 3) := by decide +kernel
theorem d_TL_init_22 : decode prog_8_method_1_code 22 = .ok (.aload_n 0, 1) := by decide +kernel
theorem d_TL_init_23 : decode prog_8_method_1_code 23 = .ok (.iload_n 2, 1) := by decide +kernel
theorem d_TL_init_24 : decode prog_8_method_1_code 24 = .ok (.newarray .int, 2) := by decide +kernel
theorem d_TL_init_26 : decode prog_8_method_1_code 26 = .ok (.putfield 25, 3) := by decide +kernel
theorem d_TL_init_29 : decode prog_8_method_1_code 29 = .ok (.return_, 1) := by decide +kernel
abbrev m_TL_isFull : ac_I := (⟨"PairedGates$TokenList", "isFull", "()Z"⟩, prog_8_method_2_code, 1, (some (.boolean)), [])
theorem d_TL_isFull_0 : decode prog_8_method_2_code 0 = .ok (.aload_n 0, 1) := by decide +kernel
theorem d_TL_isFull_1 : decode prog_8_method_2_code 1 = .ok (.getfield 9, 3) := by decide +kernel
theorem d_TL_isFull_4 : decode prog_8_method_2_code 4 = .ok (.aload_n 0, 1) := by decide +kernel
theorem d_TL_isFull_5 : decode prog_8_method_2_code 5 = .ok (.getfield 21, 3) := by decide +kernel
theorem d_TL_isFull_8 : decode prog_8_method_2_code 8 = .ok (.arraylength, 1) := by decide +kernel
theorem d_TL_isFull_9 : decode prog_8_method_2_code 9 = .ok (.if_icmp .lt 7, 3) := by decide +kernel
theorem d_TL_isFull_12 : decode prog_8_method_2_code 12 = .ok (.iconst 1, 1) := by decide +kernel
theorem d_TL_isFull_13 : decode prog_8_method_2_code 13 = .ok (.goto 4, 3) := by decide +kernel
theorem d_TL_isFull_16 : decode prog_8_method_2_code 16 = .ok (.iconst 0, 1) := by decide +kernel
theorem d_TL_isFull_17 : decode prog_8_method_2_code 17 = .ok (.ireturn, 1) := by decide +kernel
abbrev m_TL_add : ac_I := (⟨"PairedGates$TokenList", "add", "(II)V"⟩, prog_8_method_3_code, 3, none, [])
theorem d_TL_add_0 : decode prog_8_method_3_code 0 = .ok (.aload_n 0, 1) := by decide +kernel
theorem d_TL_add_1 : decode prog_8_method_3_code 1 = .ok (.getfield 9, 3) := by decide +kernel
theorem d_TL_add_4 : decode prog_8_method_3_code 4 = .ok (.aload_n 0, 1) := by decide +kernel
theorem d_TL_add_5 : decode prog_8_method_3_code 5 = .ok (.getfield 21, 3) := by decide +kernel
theorem d_TL_add_8 : decode prog_8_method_3_code 8 = .ok (.arraylength, 1) := by decide +kernel
theorem d_TL_add_9 : decode prog_8_method_3_code 9 = .ok (.if_icmp .ge 33, 3) := by decide +kernel
theorem d_TL_add_12 : decode prog_8_method_3_code 12 = .ok (.aload_n 0, 1) := by decide +kernel
theorem d_TL_add_13 : decode prog_8_method_3_code 13 = .ok (.getfield 21, 3) := by decide +kernel
theorem d_TL_add_16 : decode prog_8_method_3_code 16 = .ok (.aload_n 0, 1) := by decide +kernel
theorem d_TL_add_17 : decode prog_8_method_3_code 17 = .ok (.getfield 9, 3) := by decide +kernel
theorem d_TL_add_20 : decode prog_8_method_3_code 20 = .ok (.iload_n 1, 1) := by decide +kernel
theorem d_TL_add_21 : decode prog_8_method_3_code 21 = .ok (.iastore, 1) := by decide +kernel
theorem d_TL_add_22 : decode prog_8_method_3_code 22 = .ok (.aload_n 0, 1) := by decide +kernel
theorem d_TL_add_23 : decode prog_8_method_3_code 23 = .ok (.getfield 25, 3) := by decide +kernel
theorem d_TL_add_26 : decode prog_8_method_3_code 26 = .ok (.aload_n 0, 1) := by decide +kernel
theorem d_TL_add_27 : decode prog_8_method_3_code 27 = .ok (.getfield 9, 3) := by decide +kernel
theorem d_TL_add_30 : decode prog_8_method_3_code 30 = .ok (.iload_n 2, 1) := by decide +kernel
theorem d_TL_add_31 : decode prog_8_method_3_code 31 = .ok (.iastore, 1) := by decide +kernel
theorem d_TL_add_32 : decode prog_8_method_3_code 32 = .ok (.aload_n 0, 1) := by decide +kernel
theorem d_TL_add_33 : decode prog_8_method_3_code 33 = .ok (.dup, 1) := by decide +kernel
theorem d_TL_add_34 : decode prog_8_method_3_code 34 = .ok (.getfield 9, 3) := by decide +kernel
theorem d_TL_add_37 : decode prog_8_method_3_code 37 = .ok (.iconst 1, 1) := by decide +kernel
theorem d_TL_add_38 : decode prog_8_method_3_code 38 = .ok (.iadd, 1) := by decide +kernel
theorem d_TL_add_39 : decode prog_8_method_3_code 39 = .ok (.putfield 9, 3) := by decide +kernel
theorem d_TL_add_42 : decode prog_8_method_3_code 42 = .ok (.return_, 1) := by decide +kernel
abbrev m_TL_accountAt : ac_I := (⟨"PairedGates$TokenList", "accountAt", "(I)I"⟩, prog_8_method_4_code, 2, (some (.int)), [])
theorem d_TL_accountAt_0 : decode prog_8_method_4_code 0 = .ok (.iload_n 1, 1) := by decide +kernel
theorem d_TL_accountAt_1 : decode prog_8_method_4_code 1 = .ok (.ifCond .lt 20, 3) := by decide +kernel
theorem d_TL_accountAt_4 : decode prog_8_method_4_code 4 = .ok (.iload_n 1, 1) := by decide +kernel
theorem d_TL_accountAt_5 : decode prog_8_method_4_code 5 = .ok (.aload_n 0, 1) := by decide +kernel
theorem d_TL_accountAt_6 : decode prog_8_method_4_code 6 = .ok (.getfield 9, 3) := by decide +kernel
theorem d_TL_accountAt_9 : decode prog_8_method_4_code 9 = .ok (.if_icmp .ge 12, 3) := by decide +kernel
theorem d_TL_accountAt_12 : decode prog_8_method_4_code 12 = .ok (.aload_n 0, 1) := by decide +kernel
theorem d_TL_accountAt_13 : decode prog_8_method_4_code 13 = .ok (.getfield 21, 3) := by decide +kernel
theorem d_TL_accountAt_16 : decode prog_8_method_4_code 16 = .ok (.iload_n 1, 1) := by decide +kernel
theorem d_TL_accountAt_17 : decode prog_8_method_4_code 17 = .ok (.iaload, 1) := by decide +kernel
theorem d_TL_accountAt_18 : decode prog_8_method_4_code 18 = .ok (.goto 4, 3) := by decide +kernel
theorem d_TL_accountAt_21 : decode prog_8_method_4_code 21 = .ok (.iconst (-1), 1) := by decide +kernel
theorem d_TL_accountAt_22 : decode prog_8_method_4_code 22 = .ok (.ireturn, 1) := by decide +kernel
abbrev m_TL_hasRecent : ac_I := (⟨"PairedGates$TokenList", "hasRecent", "(II)Z"⟩, prog_8_method_5_code, 4, (some (.boolean)), [])
theorem d_TL_hasRecent_0 : decode prog_8_method_5_code 0 = .ok (.aload_n 0, 1) := by decide +kernel
theorem d_TL_hasRecent_1 : decode prog_8_method_5_code 1 = .ok (.getfield 9, 3) := by decide +kernel
theorem d_TL_hasRecent_4 : decode prog_8_method_5_code 4 = .ok (.iconst 1, 1) := by decide +kernel
theorem d_TL_hasRecent_5 : decode prog_8_method_5_code 5 = .ok (.isub, 1) := by decide +kernel
theorem d_TL_hasRecent_6 : decode prog_8_method_5_code 6 = .ok (.istore_n 3, 1) := by decide +kernel
theorem d_TL_hasRecent_7 : decode prog_8_method_5_code 7 = .ok (.iload_n 3, 1) := by decide +kernel
theorem d_TL_hasRecent_8 : decode prog_8_method_5_code 8 = .ok (.ifCond .lt 35, 3) := by decide +kernel
theorem d_TL_hasRecent_11 : decode prog_8_method_5_code 11 = .ok (.iload_n 2, 1) := by decide +kernel
theorem d_TL_hasRecent_12 : decode prog_8_method_5_code 12 = .ok (.aload_n 0, 1) := by decide +kernel
theorem d_TL_hasRecent_13 : decode prog_8_method_5_code 13 = .ok (.getfield 25, 3) := by decide +kernel
theorem d_TL_hasRecent_16 : decode prog_8_method_5_code 16 = .ok (.iload_n 3, 1) := by decide +kernel
theorem d_TL_hasRecent_17 : decode prog_8_method_5_code 17 = .ok (.iaload, 1) := by decide +kernel
theorem d_TL_hasRecent_18 : decode prog_8_method_5_code 18 = .ok (.isub, 1) := by decide +kernel
theorem d_TL_hasRecent_19 : decode prog_8_method_5_code 19 = .ok (.sipush 300, 3) := by decide +kernel
theorem d_TL_hasRecent_22 : decode prog_8_method_5_code 22 = .ok (.if_icmp .ge 21, 3) := by decide +kernel
theorem d_TL_hasRecent_25 : decode prog_8_method_5_code 25 = .ok (.aload_n 0, 1) := by decide +kernel
theorem d_TL_hasRecent_26 : decode prog_8_method_5_code 26 = .ok (.getfield 21, 3) := by decide +kernel
theorem d_TL_hasRecent_29 : decode prog_8_method_5_code 29 = .ok (.iload_n 3, 1) := by decide +kernel
theorem d_TL_hasRecent_30 : decode prog_8_method_5_code 30 = .ok (.iaload, 1) := by decide +kernel
theorem d_TL_hasRecent_31 : decode prog_8_method_5_code 31 = .ok (.iload_n 1, 1) := by decide +kernel
theorem d_TL_hasRecent_32 : decode prog_8_method_5_code 32 = .ok (.if_icmp .ne 5, 3) := by decide +kernel
theorem d_TL_hasRecent_35 : decode prog_8_method_5_code 35 = .ok (.iconst 1, 1) := by decide +kernel
theorem d_TL_hasRecent_36 : decode prog_8_method_5_code 36 = .ok (.ireturn, 1) := by decide +kernel
theorem d_TL_hasRecent_37 : decode prog_8_method_5_code 37 = .ok (.iinc 3 (-1), 3) := by decide +kernel
theorem d_TL_hasRecent_40 : decode prog_8_method_5_code 40 = .ok (.goto (-33), 3) := by decide +kernel
theorem d_TL_hasRecent_43 : decode prog_8_method_5_code 43 = .ok (.iconst 0, 1) := by decide +kernel
theorem d_TL_hasRecent_44 : decode prog_8_method_5_code 44 = .ok (.ireturn, 1) := by decide +kernel
