abbrev m_Mo_goOn : ac_I := (⟨"PairedGatesModel", "goOn", "(I)I"⟩, prog_10_method_12_code, 8, (some (.int)), [])
theorem d_Mo_goOn_0 : decode prog_10_method_12_code 0 = .ok (.iconst 0, 1) := by decide +kernel
theorem d_Mo_goOn_1 : decode prog_10_method_12_code 1 = .ok (.istore_n 2, 1) := by decide +kernel
theorem d_Mo_goOn_2 : decode prog_10_method_12_code 2 = .ok (.iconst 0, 1) := by decide +kernel
theorem d_Mo_goOn_3 : decode prog_10_method_12_code 3 = .ok (.istore_n 3, 1) := by decide +kernel
theorem d_Mo_goOn_4 : decode prog_10_method_12_code 4 = .ok (.iconst 0, 1) := by decide +kernel
theorem d_Mo_goOn_5 : decode prog_10_method_12_code 5 = .ok (.istore 4, 2) := by decide +kernel
theorem d_Mo_goOn_7 : decode prog_10_method_12_code 7 = .ok (.iload 4, 2) := by decide +kernel
theorem d_Mo_goOn_9 : decode prog_10_method_12_code 9 = .ok (.aload_n 0, 1) := by decide +kernel
theorem d_Mo_goOn_10 : decode prog_10_method_12_code 10 = .ok (.getfield 34, 3) := by decide +kernel
theorem d_Mo_goOn_13 : decode prog_10_method_12_code 13 = .ok (.iload_n 1, 1) := by decide +kernel
theorem d_Mo_goOn_14 : decode prog_10_method_12_code 14 = .ok (.iaload, 1) := by decide +kernel
theorem d_Mo_goOn_15 : decode prog_10_method_12_code 15 = .ok (.if_icmp .ge 140, 3) := by decide +kernel
theorem d_Mo_goOn_18 : decode prog_10_method_12_code 18 = .ok (.iconst 5, 1) := by decide +kernel
theorem d_Mo_goOn_19 : decode prog_10_method_12_code 19 = .ok (.iload_n 1, 1) := by decide +kernel
theorem d_Mo_goOn_20 : decode prog_10_method_12_code 20 = .ok (.imul, 1) := by decide +kernel
theorem d_Mo_goOn_21 : decode prog_10_method_12_code 21 = .ok (.iload 4, 2) := by decide +kernel
theorem d_Mo_goOn_23 : decode prog_10_method_12_code 23 = .ok (.iadd, 1) := by decide +kernel
theorem d_Mo_goOn_24 : decode prog_10_method_12_code 24 = .ok (.istore 5, 2) := by decide +kernel
theorem d_Mo_goOn_26 : decode prog_10_method_12_code 26 = .ok (.iconst (-1), 1) := by decide +kernel
theorem d_Mo_goOn_27 : decode prog_10_method_12_code 27 = .ok (.istore 6, 2) := by decide +kernel
theorem d_Mo_goOn_29 : decode prog_10_method_12_code 29 = .ok (.aload_n 0, 1) := by decide +kernel
theorem d_Mo_goOn_30 : decode prog_10_method_12_code 30 = .ok (.getfield 92, 3) := by decide +kernel
theorem d_Mo_goOn_33 : decode prog_10_method_12_code 33 = .ok (.iconst 1, 1) := by decide +kernel
theorem d_Mo_goOn_34 : decode prog_10_method_12_code 34 = .ok (.isub, 1) := by decide +kernel
theorem d_Mo_goOn_35 : decode prog_10_method_12_code 35 = .ok (.istore 7, 2) := by decide +kernel
theorem d_Mo_goOn_37 : decode prog_10_method_12_code 37 = .ok (.iload 7, 2) := by decide +kernel
theorem d_Mo_goOn_39 : decode prog_10_method_12_code 39 = .ok (.ifCond .lt 41, 3) := by decide +kernel
theorem d_Mo_goOn_42 : decode prog_10_method_12_code 42 = .ok (.aload_n 0, 1) := by decide +kernel
theorem d_Mo_goOn_43 : decode prog_10_method_12_code 43 = .ok (.aload_n 0, 1) := by decide +kernel
theorem d_Mo_goOn_44 : decode prog_10_method_12_code 44 = .ok (.getfield 37, 3) := by decide +kernel
theorem d_Mo_goOn_47 : decode prog_10_method_12_code 47 = .ok (.iload 5, 2) := by decide +kernel
theorem d_Mo_goOn_49 : decode prog_10_method_12_code 49 = .ok (.iaload, 1) := by decide +kernel
theorem d_Mo_goOn_50 : decode prog_10_method_12_code 50 = .ok (.aload_n 0, 1) := by decide +kernel
theorem d_Mo_goOn_51 : decode prog_10_method_12_code 51 = .ok (.getfield 40, 3) := by decide +kernel
theorem d_Mo_goOn_54 : decode prog_10_method_12_code 54 = .ok (.iload 5, 2) := by decide +kernel
theorem d_Mo_goOn_56 : decode prog_10_method_12_code 56 = .ok (.iaload, 1) := by decide +kernel
theorem d_Mo_goOn_57 : decode prog_10_method_12_code 57 = .ok (.iload 7, 2) := by decide +kernel
theorem d_Mo_goOn_59 : decode prog_10_method_12_code 59 = .ok (.invokevirtual 99, 3) := by decide +kernel
theorem d_Mo_goOn_62 : decode prog_10_method_12_code 62 = .ok (.ifCond .eq 8, 3) := by decide +kernel
theorem d_Mo_goOn_65 : decode prog_10_method_12_code 65 = .ok (.iload 7, 2) := by decide +kernel
theorem d_Mo_goOn_67 : decode prog_10_method_12_code 67 = .ok (.goto 5, 3) := by decide +kernel
theorem d_Mo_goOn_70 : decode prog_10_method_12_code 70 = .ok (.iload 6, 2) := by decide +kernel
theorem d_Mo_goOn_72 : decode prog_10_method_12_code 72 = .ok (.istore 6, 2) := by decide +kernel
theorem d_Mo_goOn_74 : decode prog_10_method_12_code 74 = .ok (.iinc 7 (-1), 3) := by decide +kernel
theorem d_Mo_goOn_77 : decode prog_10_method_12_code 77 = .ok (.goto (-40), 3) := by decide +kernel
theorem d_Mo_goOn_80 : decode prog_10_method_12_code 80 = .ok (.iload 6, 2) := by decide +kernel
theorem d_Mo_goOn_82 : decode prog_10_method_12_code 82 = .ok (.ifCond .ge 16, 3) := by decide +kernel
theorem d_Mo_goOn_85 : decode prog_10_method_12_code 85 = .ok (.aload_n 0, 1) := by decide +kernel
theorem d_Mo_goOn_86 : decode prog_10_method_12_code 86 = .ok (.iload_n 1, 1) := by decide +kernel
theorem d_Mo_goOn_87 : decode prog_10_method_12_code 87 = .ok (.iload 5, 2) := by decide +kernel
theorem d_Mo_goOn_89 : decode prog_10_method_12_code 89 = .ok (.invokevirtual 103, 3) := by decide +kernel
theorem d_Mo_goOn_92 : decode prog_10_method_12_code 92 = .ok (.iinc 3 1, 3) := by decide +kernel
theorem d_Mo_goOn_95 : decode prog_10_method_12_code 95 = .ok (.goto 54, 3) := by decide +kernel
theorem d_Mo_goOn_98 : decode prog_10_method_12_code 98 = .ok (.aload_n 0, 1) := by decide +kernel
theorem d_Mo_goOn_99 : decode prog_10_method_12_code 99 = .ok (.getfield 52, 3) := by decide +kernel
theorem d_Mo_goOn_102 : decode prog_10_method_12_code 102 = .ok (.iload 5, 2) := by decide +kernel
theorem d_Mo_goOn_104 : decode prog_10_method_12_code 104 = .ok (.iload 6, 2) := by decide +kernel
theorem d_Mo_goOn_106 : decode prog_10_method_12_code 106 = .ok (.iastore, 1) := by decide +kernel
theorem d_Mo_goOn_107 : decode prog_10_method_12_code 107 = .ok (.aload_n 0, 1) := by decide +kernel
theorem d_Mo_goOn_108 : decode prog_10_method_12_code 108 = .ok (.getfield 55, 3) := by decide +kernel
theorem d_Mo_goOn_111 : decode prog_10_method_12_code 111 = .ok (.iload 5, 2) := by decide +kernel
theorem d_Mo_goOn_113 : decode prog_10_method_12_code 113 = .ok (.aload_n 0, 1) := by decide +kernel
theorem d_Mo_goOn_114 : decode prog_10_method_12_code 114 = .ok (.getfield 37, 3) := by decide +kernel
theorem d_Mo_goOn_117 : decode prog_10_method_12_code 117 = .ok (.iload 5, 2) := by decide +kernel
theorem d_Mo_goOn_119 : decode prog_10_method_12_code 119 = .ok (.iaload, 1) := by decide +kernel
theorem d_Mo_goOn_120 : decode prog_10_method_12_code 120 = .ok (.iastore, 1) := by decide +kernel
theorem d_Mo_goOn_121 : decode prog_10_method_12_code 121 = .ok (.aload_n 0, 1) := by decide +kernel
theorem d_Mo_goOn_122 : decode prog_10_method_12_code 122 = .ok (.getfield 58, 3) := by decide +kernel
theorem d_Mo_goOn_125 : decode prog_10_method_12_code 125 = .ok (.iload 5, 2) := by decide +kernel
theorem d_Mo_goOn_127 : decode prog_10_method_12_code 127 = .ok (.aload_n 0, 1) := by decide +kernel
theorem d_Mo_goOn_128 : decode prog_10_method_12_code 128 = .ok (.getfield 40, 3) := by decide +kernel
theorem d_Mo_goOn_131 : decode prog_10_method_12_code 131 = .ok (.iload 5, 2) := by decide +kernel
theorem d_Mo_goOn_133 : decode prog_10_method_12_code 133 = .ok (.iaload, 1) := by decide +kernel
theorem d_Mo_goOn_134 : decode prog_10_method_12_code 134 = .ok (.iastore, 1) := by decide +kernel
theorem d_Mo_goOn_135 : decode prog_10_method_12_code 135 = .ok (.aload_n 0, 1) := by decide +kernel
theorem d_Mo_goOn_136 : decode prog_10_method_12_code 136 = .ok (.iconst 5, 1) := by decide +kernel
theorem d_Mo_goOn_137 : decode prog_10_method_12_code 137 = .ok (.iload_n 1, 1) := by decide +kernel
theorem d_Mo_goOn_138 : decode prog_10_method_12_code 138 = .ok (.imul, 1) := by decide +kernel
theorem d_Mo_goOn_139 : decode prog_10_method_12_code 139 = .ok (.iload_n 2, 1) := by decide +kernel
theorem d_Mo_goOn_140 : decode prog_10_method_12_code 140 = .ok (.iadd, 1) := by decide +kernel
theorem d_Mo_goOn_141 : decode prog_10_method_12_code 141 = .ok (.iload 5, 2) := by decide +kernel
theorem d_Mo_goOn_143 : decode prog_10_method_12_code 143 = .ok (.invokevirtual 107, 3) := by decide +kernel
theorem d_Mo_goOn_146 : decode prog_10_method_12_code 146 = .ok (.iinc 2 1, 3) := by decide +kernel
theorem d_Mo_goOn_149 : decode prog_10_method_12_code 149 = .ok (.iinc 4 1, 3) := by decide +kernel
theorem d_Mo_goOn_152 : decode prog_10_method_12_code 152 = .ok (.goto (-145), 3) := by decide +kernel
theorem d_Mo_goOn_155 : decode prog_10_method_12_code 155 = .ok (.aload_n 0, 1) := by decide +kernel
theorem d_Mo_goOn_156 : decode prog_10_method_12_code 156 = .ok (.getfield 34, 3) := by decide +kernel
theorem d_Mo_goOn_159 : decode prog_10_method_12_code 159 = .ok (.iload_n 1, 1) := by decide +kernel
theorem d_Mo_goOn_160 : decode prog_10_method_12_code 160 = .ok (.iload_n 2, 1) := by decide +kernel
theorem d_Mo_goOn_161 : decode prog_10_method_12_code 161 = .ok (.iastore, 1) := by decide +kernel
theorem d_Mo_goOn_162 : decode prog_10_method_12_code 162 = .ok (.iload_n 3, 1) := by decide +kernel
theorem d_Mo_goOn_163 : decode prog_10_method_12_code 163 = .ok (.ireturn, 1) := by decide +kernel
abbrev m_Mo_share : ac_I := (⟨"PairedGatesModel", "share", "(II)V"⟩, prog_10_method_13_code, 11, none, [])
theorem d_Mo_share_0 : decode prog_10_method_13_code 0 = .ok (.iconst 0, 1) := by decide +kernel
theorem d_Mo_share_1 : decode prog_10_method_13_code 1 = .ok (.istore_n 3, 1) := by decide +kernel
theorem d_Mo_share_2 : decode prog_10_method_13_code 2 = .ok (.iconst 0, 1) := by decide +kernel
theorem d_Mo_share_3 : decode prog_10_method_13_code 3 = .ok (.istore 4, 2) := by decide +kernel
theorem d_Mo_share_5 : decode prog_10_method_13_code 5 = .ok (.iload 4, 2) := by decide +kernel
theorem d_Mo_share_7 : decode prog_10_method_13_code 7 = .ok (.aload_n 0, 1) := by decide +kernel
theorem d_Mo_share_8 : decode prog_10_method_13_code 8 = .ok (.getfield 34, 3) := by decide +kernel
theorem d_Mo_share_11 : decode prog_10_method_13_code 11 = .ok (.iload_n 1, 1) := by decide +kernel
theorem d_Mo_share_12 : decode prog_10_method_13_code 12 = .ok (.iaload, 1) := by decide +kernel
theorem d_Mo_share_13 : decode prog_10_method_13_code 13 = .ok (.if_icmp .ge 32, 3) := by decide +kernel
theorem d_Mo_share_16 : decode prog_10_method_13_code 16 = .ok (.aload_n 0, 1) := by decide +kernel
theorem d_Mo_share_17 : decode prog_10_method_13_code 17 = .ok (.getfield 52, 3) := by decide +kernel
theorem d_Mo_share_20 : decode prog_10_method_13_code 20 = .ok (.iconst 5, 1) := by decide +kernel
theorem d_Mo_share_21 : decode prog_10_method_13_code 21 = .ok (.iload_n 1, 1) := by decide +kernel
theorem d_Mo_share_22 : decode prog_10_method_13_code 22 = .ok (.imul, 1) := by decide +kernel
theorem d_Mo_share_23 : decode prog_10_method_13_code 23 = .ok (.iload 4, 2) := by decide +kernel
theorem d_Mo_share_25 : decode prog_10_method_13_code 25 = .ok (.iadd, 1) := by decide +kernel
theorem d_Mo_share_26 : decode prog_10_method_13_code 26 = .ok (.iaload, 1) := by decide +kernel
theorem d_Mo_share_27 : decode prog_10_method_13_code 27 = .ok (.iload_n 2, 1) := by decide +kernel
theorem d_Mo_share_28 : decode prog_10_method_13_code 28 = .ok (.if_icmp .ne 9, 3) := by decide +kernel
theorem d_Mo_share_31 : decode prog_10_method_13_code 31 = .ok (.iload_n 3, 1) := by decide +kernel
theorem d_Mo_share_32 : decode prog_10_method_13_code 32 = .ok (.iconst 1, 1) := by decide +kernel
theorem d_Mo_share_33 : decode prog_10_method_13_code 33 = .ok (.iadd, 1) := by decide +kernel
theorem d_Mo_share_34 : decode prog_10_method_13_code 34 = .ok (.goto 4, 3) := by decide +kernel
theorem d_Mo_share_37 : decode prog_10_method_13_code 37 = .ok (.iload_n 3, 1) := by decide +kernel
theorem d_Mo_share_38 : decode prog_10_method_13_code 38 = .ok (.istore_n 3, 1) := by decide +kernel
theorem d_Mo_share_39 : decode prog_10_method_13_code 39 = .ok (.iinc 4 1, 3) := by decide +kernel
theorem d_Mo_share_42 : decode prog_10_method_13_code 42 = .ok (.goto (-37), 3) := by decide +kernel
theorem d_Mo_share_45 : decode prog_10_method_13_code 45 = .ok (.aload_n 0, 1) := by decide +kernel
theorem d_Mo_share_46 : decode prog_10_method_13_code 46 = .ok (.getfield 61, 3) := by decide +kernel
theorem d_Mo_share_49 : decode prog_10_method_13_code 49 = .ok (.iload_n 2, 1) := by decide +kernel
theorem d_Mo_share_50 : decode prog_10_method_13_code 50 = .ok (.iaload, 1) := by decide +kernel
theorem d_Mo_share_51 : decode prog_10_method_13_code 51 = .ok (.istore 4, 2) := by decide +kernel
theorem d_Mo_share_53 : decode prog_10_method_13_code 53 = .ok (.aload_n 0, 1) := by decide +kernel
theorem d_Mo_share_54 : decode prog_10_method_13_code 54 = .ok (.getfield 64, 3) := by decide +kernel
theorem d_Mo_share_57 : decode prog_10_method_13_code 57 = .ok (.iload_n 2, 1) := by decide +kernel
theorem d_Mo_share_58 : decode prog_10_method_13_code 58 = .ok (.iaload, 1) := by decide +kernel
theorem d_Mo_share_59 : decode prog_10_method_13_code 59 = .ok (.iload 4, 2) := by decide +kernel
theorem d_Mo_share_61 : decode prog_10_method_13_code 61 = .ok (.isub, 1) := by decide +kernel
theorem d_Mo_share_62 : decode prog_10_method_13_code 62 = .ok (.iconst 1, 1) := by decide +kernel
theorem d_Mo_share_63 : decode prog_10_method_13_code 63 = .ok (.iadd, 1) := by decide +kernel
theorem d_Mo_share_64 : decode prog_10_method_13_code 64 = .ok (.istore 5, 2) := by decide +kernel
theorem d_Mo_share_66 : decode prog_10_method_13_code 66 = .ok (.iconst 0, 1) := by decide +kernel
theorem d_Mo_share_67 : decode prog_10_method_13_code 67 = .ok (.istore 6, 2) := by decide +kernel
theorem d_Mo_share_69 : decode prog_10_method_13_code 69 = .ok (.iconst 0, 1) := by decide +kernel
theorem d_Mo_share_70 : decode prog_10_method_13_code 70 = .ok (.istore 7, 2) := by decide +kernel
theorem d_Mo_share_72 : decode prog_10_method_13_code 72 = .ok (.iload 7, 2) := by decide +kernel
theorem d_Mo_share_74 : decode prog_10_method_13_code 74 = .ok (.aload_n 0, 1) := by decide +kernel
theorem d_Mo_share_75 : decode prog_10_method_13_code 75 = .ok (.getfield 34, 3) := by decide +kernel
theorem d_Mo_share_78 : decode prog_10_method_13_code 78 = .ok (.iload_n 1, 1) := by decide +kernel
theorem d_Mo_share_79 : decode prog_10_method_13_code 79 = .ok (.iaload, 1) := by decide +kernel
theorem d_Mo_share_80 : decode prog_10_method_13_code 80 = .ok (.if_icmp .ge 145, 3) := by decide +kernel
theorem d_Mo_share_83 : decode prog_10_method_13_code 83 = .ok (.iconst 5, 1) := by decide +kernel
theorem d_Mo_share_84 : decode prog_10_method_13_code 84 = .ok (.iload_n 1, 1) := by decide +kernel
theorem d_Mo_share_85 : decode prog_10_method_13_code 85 = .ok (.imul, 1) := by decide +kernel
theorem d_Mo_share_86 : decode prog_10_method_13_code 86 = .ok (.iload 7, 2) := by decide +kernel
theorem d_Mo_share_88 : decode prog_10_method_13_code 88 = .ok (.iadd, 1) := by decide +kernel
theorem d_Mo_share_89 : decode prog_10_method_13_code 89 = .ok (.istore 8, 2) := by decide +kernel
theorem d_Mo_share_91 : decode prog_10_method_13_code 91 = .ok (.aload_n 0, 1) := by decide +kernel
theorem d_Mo_share_92 : decode prog_10_method_13_code 92 = .ok (.getfield 52, 3) := by decide +kernel
theorem d_Mo_share_95 : decode prog_10_method_13_code 95 = .ok (.iload 8, 2) := by decide +kernel
theorem d_Mo_share_97 : decode prog_10_method_13_code 97 = .ok (.iaload, 1) := by decide +kernel
theorem d_Mo_share_98 : decode prog_10_method_13_code 98 = .ok (.iload_n 2, 1) := by decide +kernel
theorem d_Mo_share_99 : decode prog_10_method_13_code 99 = .ok (.if_icmp .ne 120, 3) := by decide +kernel
theorem d_Mo_share_102 : decode prog_10_method_13_code 102 = .ok (.aload_n 0, 1) := by decide +kernel
theorem d_Mo_share_103 : decode prog_10_method_13_code 103 = .ok (.getfield 37, 3) := by decide +kernel
theorem d_Mo_share_106 : decode prog_10_method_13_code 106 = .ok (.iload 8, 2) := by decide +kernel
theorem d_Mo_share_108 : decode prog_10_method_13_code 108 = .ok (.iload 4, 2) := by decide +kernel
theorem d_Mo_share_110 : decode prog_10_method_13_code 110 = .ok (.iload 6, 2) := by decide +kernel
theorem d_Mo_share_112 : decode prog_10_method_13_code 112 = .ok (.iload 5, 2) := by decide +kernel
theorem d_Mo_share_114 : decode prog_10_method_13_code 114 = .ok (.imul, 1) := by decide +kernel
theorem d_Mo_share_115 : decode prog_10_method_13_code 115 = .ok (.iload_n 3, 1) := by decide +kernel
theorem d_Mo_share_116 : decode prog_10_method_13_code 116 = .ok (.idiv, 1) := by decide +kernel
theorem d_Mo_share_117 : decode prog_10_method_13_code 117 = .ok (.iadd, 1) := by decide +kernel
theorem d_Mo_share_118 : decode prog_10_method_13_code 118 = .ok (.iastore, 1) := by decide +kernel
theorem d_Mo_share_119 : decode prog_10_method_13_code 119 = .ok (.iload 4, 2) := by decide +kernel
theorem d_Mo_share_121 : decode prog_10_method_13_code 121 = .ok (.iload 6, 2) := by decide +kernel
theorem d_Mo_share_123 : decode prog_10_method_13_code 123 = .ok (.iconst 1, 1) := by decide +kernel
theorem d_Mo_share_124 : decode prog_10_method_13_code 124 = .ok (.iadd, 1) := by decide +kernel
theorem d_Mo_share_125 : decode prog_10_method_13_code 125 = .ok (.iload 5, 2) := by decide +kernel
theorem d_Mo_share_127 : decode prog_10_method_13_code 127 = .ok (.imul, 1) := by decide +kernel
theorem d_Mo_share_128 : decode prog_10_method_13_code 128 = .ok (.iload_n 3, 1) := by decide +kernel
theorem d_Mo_share_129 : decode prog_10_method_13_code 129 = .ok (.idiv, 1) := by decide +kernel
theorem d_Mo_share_130 : decode prog_10_method_13_code 130 = .ok (.iadd, 1) := by decide +kernel
theorem d_Mo_share_131 : decode prog_10_method_13_code 131 = .ok (.iconst 1, 1) := by decide +kernel
theorem d_Mo_share_132 : decode prog_10_method_13_code 132 = .ok (.isub, 1) := by decide +kernel
theorem d_Mo_share_133 : decode prog_10_method_13_code 133 = .ok (.istore 9, 2) := by decide +kernel
theorem d_Mo_share_135 : decode prog_10_method_13_code 135 = .ok (.aload_n 0, 1) := by decide +kernel
theorem d_Mo_share_136 : decode prog_10_method_13_code 136 = .ok (.getfield 40, 3) := by decide +kernel
theorem d_Mo_share_139 : decode prog_10_method_13_code 139 = .ok (.iload 8, 2) := by decide +kernel
theorem d_Mo_share_141 : decode prog_10_method_13_code 141 = .ok (.iload 9, 2) := by decide +kernel
theorem d_Mo_share_143 : decode prog_10_method_13_code 143 = .ok (.aload_n 0, 1) := by decide +kernel
theorem d_Mo_share_144 : decode prog_10_method_13_code 144 = .ok (.getfield 37, 3) := by decide +kernel
theorem d_Mo_share_147 : decode prog_10_method_13_code 147 = .ok (.iload 8, 2) := by decide +kernel
theorem d_Mo_share_149 : decode prog_10_method_13_code 149 = .ok (.iaload, 1) := by decide +kernel
theorem d_Mo_share_150 : decode prog_10_method_13_code 150 = .ok (.if_icmp .ge 13, 3) := by decide +kernel
theorem d_Mo_share_153 : decode prog_10_method_13_code 153 = .ok (.aload_n 0, 1) := by decide +kernel
theorem d_Mo_share_154 : decode prog_10_method_13_code 154 = .ok (.getfield 37, 3) := by decide +kernel
theorem d_Mo_share_157 : decode prog_10_method_13_code 157 = .ok (.iload 8, 2) := by decide +kernel
theorem d_Mo_share_159 : decode prog_10_method_13_code 159 = .ok (.iaload, 1) := by decide +kernel
theorem d_Mo_share_160 : decode prog_10_method_13_code 160 = .ok (.goto 5, 3) := by decide +kernel
theorem d_Mo_share_163 : decode prog_10_method_13_code 163 = .ok (.iload 9, 2) := by decide +kernel
theorem d_Mo_share_165 : decode prog_10_method_13_code 165 = .ok (.iastore, 1) := by decide +kernel
theorem d_Mo_share_166 : decode prog_10_method_13_code 166 = .ok (.aload_n 0, 1) := by decide +kernel
theorem d_Mo_share_167 : decode prog_10_method_13_code 167 = .ok (.getfield 40, 3) := by decide +kernel
theorem d_Mo_share_170 : decode prog_10_method_13_code 170 = .ok (.iload 8, 2) := by decide +kernel
theorem d_Mo_share_172 : decode prog_10_method_13_code 172 = .ok (.iaload, 1) := by decide +kernel
theorem d_Mo_share_173 : decode prog_10_method_13_code 173 = .ok (.aload_n 0, 1) := by decide +kernel
theorem d_Mo_share_174 : decode prog_10_method_13_code 174 = .ok (.getfield 37, 3) := by decide +kernel
theorem d_Mo_share_177 : decode prog_10_method_13_code 177 = .ok (.iload 8, 2) := by decide +kernel
theorem d_Mo_share_179 : decode prog_10_method_13_code 179 = .ok (.iaload, 1) := by decide +kernel
theorem d_Mo_share_180 : decode prog_10_method_13_code 180 = .ok (.isub, 1) := by decide +kernel
theorem d_Mo_share_181 : decode prog_10_method_13_code 181 = .ok (.iconst 1, 1) := by decide +kernel
theorem d_Mo_share_182 : decode prog_10_method_13_code 182 = .ok (.iadd, 1) := by decide +kernel
theorem d_Mo_share_183 : decode prog_10_method_13_code 183 = .ok (.istore 10, 2) := by decide +kernel
theorem d_Mo_share_185 : decode prog_10_method_13_code 185 = .ok (.aload_n 0, 1) := by decide +kernel
theorem d_Mo_share_186 : decode prog_10_method_13_code 186 = .ok (.getfield 49, 3) := by decide +kernel
theorem d_Mo_share_189 : decode prog_10_method_13_code 189 = .ok (.iload 8, 2) := by decide +kernel
theorem d_Mo_share_191 : decode prog_10_method_13_code 191 = .ok (.iload 10, 2) := by decide +kernel
theorem d_Mo_share_193 : decode prog_10_method_13_code 193 = .ok (.aload_n 0, 1) := by decide +kernel
theorem d_Mo_share_194 : decode prog_10_method_13_code 194 = .ok (.getfield 49, 3) := by decide +kernel
theorem d_Mo_share_197 : decode prog_10_method_13_code 197 = .ok (.iload 8, 2) := by decide +kernel
theorem d_Mo_share_199 : decode prog_10_method_13_code 199 = .ok (.iaload, 1) := by decide +kernel
theorem d_Mo_share_200 : decode prog_10_method_13_code 200 = .ok (.if_icmp .le 8, 3) := by decide +kernel
theorem d_Mo_share_203 : decode prog_10_method_13_code 203 = .ok (.iload 10, 2) := by decide +kernel
theorem d_Mo_share_205 : decode prog_10_method_13_code 205 = .ok (.goto 10, 3) := by decide +kernel
theorem d_Mo_share_208 : decode prog_10_method_13_code 208 = .ok (.aload_n 0, 1) := by decide +kernel
theorem d_Mo_share_209 : decode prog_10_method_13_code 209 = .ok (.getfield 49, 3) := by decide +kernel
theorem d_Mo_share_212 : decode prog_10_method_13_code 212 = .ok (.iload 8, 2) := by decide +kernel
theorem d_Mo_share_214 : decode prog_10_method_13_code 214 = .ok (.iaload, 1) := by decide +kernel
theorem d_Mo_share_215 : decode prog_10_method_13_code 215 = .ok (.iastore, 1) := by decide +kernel
theorem d_Mo_share_216 : decode prog_10_method_13_code 216 = .ok (.iinc 6 1, 3) := by decide +kernel
theorem d_Mo_share_219 : decode prog_10_method_13_code 219 = .ok (.iinc 7 1, 3) := by decide +kernel
theorem d_Mo_share_222 : decode prog_10_method_13_code 222 = .ok (.goto (-150), 3) := by decide +kernel
theorem d_Mo_share_225 : decode prog_10_method_13_code 225 = .ok (.iload_n 3, 1) := by decide +kernel
theorem d_Mo_share_226 : decode prog_10_method_13_code 226 = .ok (.ifCond .ne 19, 3) := by decide +kernel
theorem d_Mo_share_229 : decode prog_10_method_13_code 229 = .ok (.aload_n 0, 1) := by decide +kernel
theorem d_Mo_share_230 : decode prog_10_method_13_code 230 = .ok (.getfield 34, 3) := by decide +kernel
theorem d_Mo_share_233 : decode prog_10_method_13_code 233 = .ok (.iload_n 1, 1) := by decide +kernel
theorem d_Mo_share_234 : decode prog_10_method_13_code 234 = .ok (.iaload, 1) := by decide +kernel
theorem d_Mo_share_235 : decode prog_10_method_13_code 235 = .ok (.iconst 4, 1) := by decide +kernel
theorem d_Mo_share_236 : decode prog_10_method_13_code 236 = .ok (.if_icmp .ge 9, 3) := by decide +kernel
theorem d_Mo_share_239 : decode prog_10_method_13_code 239 = .ok (.aload_n 0, 1) := by decide +kernel
theorem d_Mo_share_240 : decode prog_10_method_13_code 240 = .ok (.iload_n 1, 1) := by decide +kernel
theorem d_Mo_share_241 : decode prog_10_method_13_code 241 = .ok (.iload_n 2, 1) := by decide +kernel
theorem d_Mo_share_242 : decode prog_10_method_13_code 242 = .ok (.invokevirtual 110, 3) := by decide +kernel
theorem d_Mo_share_245 : decode prog_10_method_13_code 245 = .ok (.return_, 1) := by decide +kernel
abbrev m_Mo_begin : ac_I := (⟨"PairedGatesModel", "begin", "(II)V"⟩, prog_10_method_14_code, 7, none, [])
theorem d_Mo_begin_0 : decode prog_10_method_14_code 0 = .ok (.iconst (-1), 1) := by decide +kernel
theorem d_Mo_begin_1 : decode prog_10_method_14_code 1 = .ok (.istore_n 3, 1) := by decide +kernel
theorem d_Mo_begin_2 : decode prog_10_method_14_code 2 = .ok (.aload_n 0, 1) := by decide +kernel
theorem d_Mo_begin_3 : decode prog_10_method_14_code 3 = .ok (.getfield 34, 3) := by decide +kernel
theorem d_Mo_begin_6 : decode prog_10_method_14_code 6 = .ok (.iload_n 1, 1) := by decide +kernel
theorem d_Mo_begin_7 : decode prog_10_method_14_code 7 = .ok (.iaload, 1) := by decide +kernel
theorem d_Mo_begin_8 : decode prog_10_method_14_code 8 = .ok (.istore 4, 2) := by decide +kernel
theorem d_Mo_begin_10 : decode prog_10_method_14_code 10 = .ok (.aload_n 0, 1) := by decide +kernel
theorem d_Mo_begin_11 : decode prog_10_method_14_code 11 = .ok (.getfield 34, 3) := by decide +kernel
theorem d_Mo_begin_14 : decode prog_10_method_14_code 14 = .ok (.iload_n 1, 1) := by decide +kernel
theorem d_Mo_begin_15 : decode prog_10_method_14_code 15 = .ok (.iaload, 1) := by decide +kernel
theorem d_Mo_begin_16 : decode prog_10_method_14_code 16 = .ok (.iconst 1, 1) := by decide +kernel
theorem d_Mo_begin_17 : decode prog_10_method_14_code 17 = .ok (.isub, 1) := by decide +kernel
theorem d_Mo_begin_18 : decode prog_10_method_14_code 18 = .ok (.istore 5, 2) := by decide +kernel
theorem d_Mo_begin_20 : decode prog_10_method_14_code 20 = .ok (.iload 5, 2) := by decide +kernel
theorem d_Mo_begin_22 : decode prog_10_method_14_code 22 = .ok (.ifCond .lt 81, 3) := by decide +kernel
theorem d_Mo_begin_25 : decode prog_10_method_14_code 25 = .ok (.iconst 5, 1) := by decide +kernel
theorem d_Mo_begin_26 : decode prog_10_method_14_code 26 = .ok (.iload_n 1, 1) := by decide +kernel
theorem d_Mo_begin_27 : decode prog_10_method_14_code 27 = .ok (.imul, 1) := by decide +kernel
theorem d_Mo_begin_28 : decode prog_10_method_14_code 28 = .ok (.iload 5, 2) := by decide +kernel
theorem d_Mo_begin_30 : decode prog_10_method_14_code 30 = .ok (.iadd, 1) := by decide +kernel
theorem d_Mo_begin_31 : decode prog_10_method_14_code 31 = .ok (.istore 6, 2) := by decide +kernel
theorem d_Mo_begin_33 : decode prog_10_method_14_code 33 = .ok (.aload_n 0, 1) := by decide +kernel
theorem d_Mo_begin_34 : decode prog_10_method_14_code 34 = .ok (.getfield 55, 3) := by decide +kernel
theorem d_Mo_begin_37 : decode prog_10_method_14_code 37 = .ok (.iload 6, 2) := by decide +kernel
theorem d_Mo_begin_39 : decode prog_10_method_14_code 39 = .ok (.iaload, 1) := by decide +kernel
theorem d_Mo_begin_40 : decode prog_10_method_14_code 40 = .ok (.ifCond .lt 35, 3) := by decide +kernel
theorem d_Mo_begin_43 : decode prog_10_method_14_code 43 = .ok (.aload_n 0, 1) := by decide +kernel
theorem d_Mo_begin_44 : decode prog_10_method_14_code 44 = .ok (.aload_n 0, 1) := by decide +kernel
theorem d_Mo_begin_45 : decode prog_10_method_14_code 45 = .ok (.getfield 55, 3) := by decide +kernel
theorem d_Mo_begin_48 : decode prog_10_method_14_code 48 = .ok (.iload 6, 2) := by decide +kernel
theorem d_Mo_begin_50 : decode prog_10_method_14_code 50 = .ok (.iaload, 1) := by decide +kernel
theorem d_Mo_begin_51 : decode prog_10_method_14_code 51 = .ok (.aload_n 0, 1) := by decide +kernel
theorem d_Mo_begin_52 : decode prog_10_method_14_code 52 = .ok (.getfield 58, 3) := by decide +kernel
theorem d_Mo_begin_55 : decode prog_10_method_14_code 55 = .ok (.iload 6, 2) := by decide +kernel
theorem d_Mo_begin_57 : decode prog_10_method_14_code 57 = .ok (.iaload, 1) := by decide +kernel
theorem d_Mo_begin_58 : decode prog_10_method_14_code 58 = .ok (.iload_n 2, 1) := by decide +kernel
theorem d_Mo_begin_59 : decode prog_10_method_14_code 59 = .ok (.invokevirtual 99, 3) := by decide +kernel
theorem d_Mo_begin_62 : decode prog_10_method_14_code 62 = .ok (.ifCond .eq 13, 3) := by decide +kernel
theorem d_Mo_begin_65 : decode prog_10_method_14_code 65 = .ok (.aload_n 0, 1) := by decide +kernel
theorem d_Mo_begin_66 : decode prog_10_method_14_code 66 = .ok (.getfield 43, 3) := by decide +kernel
theorem d_Mo_begin_69 : decode prog_10_method_14_code 69 = .ok (.iload 6, 2) := by decide +kernel
theorem d_Mo_begin_71 : decode prog_10_method_14_code 71 = .ok (.iaload, 1) := by decide +kernel
theorem d_Mo_begin_72 : decode prog_10_method_14_code 72 = .ok (.goto 4, 3) := by decide +kernel
theorem d_Mo_begin_75 : decode prog_10_method_14_code 75 = .ok (.iload_n 3, 1) := by decide +kernel
theorem d_Mo_begin_76 : decode prog_10_method_14_code 76 = .ok (.istore_n 3, 1) := by decide +kernel
theorem d_Mo_begin_77 : decode prog_10_method_14_code 77 = .ok (.aload_n 0, 1) := by decide +kernel
theorem d_Mo_begin_78 : decode prog_10_method_14_code 78 = .ok (.getfield 52, 3) := by decide +kernel
theorem d_Mo_begin_81 : decode prog_10_method_14_code 81 = .ok (.iload 6, 2) := by decide +kernel
theorem d_Mo_begin_83 : decode prog_10_method_14_code 83 = .ok (.iaload, 1) := by decide +kernel
theorem d_Mo_begin_84 : decode prog_10_method_14_code 84 = .ok (.iload_n 2, 1) := by decide +kernel
theorem d_Mo_begin_85 : decode prog_10_method_14_code 85 = .ok (.if_icmp .le 8, 3) := by decide +kernel
theorem d_Mo_begin_88 : decode prog_10_method_14_code 88 = .ok (.iload 5, 2) := by decide +kernel
theorem d_Mo_begin_90 : decode prog_10_method_14_code 90 = .ok (.goto 5, 3) := by decide +kernel
theorem d_Mo_begin_93 : decode prog_10_method_14_code 93 = .ok (.iload 4, 2) := by decide +kernel
theorem d_Mo_begin_95 : decode prog_10_method_14_code 95 = .ok (.istore 4, 2) := by decide +kernel
theorem d_Mo_begin_97 : decode prog_10_method_14_code 97 = .ok (.iinc 5 (-1), 3) := by decide +kernel
theorem d_Mo_begin_100 : decode prog_10_method_14_code 100 = .ok (.goto (-80), 3) := by decide +kernel
theorem d_Mo_begin_103 : decode prog_10_method_14_code 103 = .ok (.aload_n 0, 1) := by decide +kernel
theorem d_Mo_begin_104 : decode prog_10_method_14_code 104 = .ok (.getfield 34, 3) := by decide +kernel
theorem d_Mo_begin_107 : decode prog_10_method_14_code 107 = .ok (.iload_n 1, 1) := by decide +kernel
theorem d_Mo_begin_108 : decode prog_10_method_14_code 108 = .ok (.iaload, 1) := by decide +kernel
theorem d_Mo_begin_109 : decode prog_10_method_14_code 109 = .ok (.istore 5, 2) := by decide +kernel
theorem d_Mo_begin_111 : decode prog_10_method_14_code 111 = .ok (.iload 5, 2) := by decide +kernel
theorem d_Mo_begin_113 : decode prog_10_method_14_code 113 = .ok (.iload 4, 2) := by decide +kernel
theorem d_Mo_begin_115 : decode prog_10_method_14_code 115 = .ok (.if_icmp .le 27, 3) := by decide +kernel
theorem d_Mo_begin_118 : decode prog_10_method_14_code 118 = .ok (.aload_n 0, 1) := by decide +kernel
theorem d_Mo_begin_119 : decode prog_10_method_14_code 119 = .ok (.iconst 5, 1) := by decide +kernel
theorem d_Mo_begin_120 : decode prog_10_method_14_code 120 = .ok (.iload_n 1, 1) := by decide +kernel
theorem d_Mo_begin_121 : decode prog_10_method_14_code 121 = .ok (.imul, 1) := by decide +kernel
theorem d_Mo_begin_122 : decode prog_10_method_14_code 122 = .ok (.iload 5, 2) := by decide +kernel
theorem d_Mo_begin_124 : decode prog_10_method_14_code 124 = .ok (.iadd, 1) := by decide +kernel
theorem d_Mo_begin_125 : decode prog_10_method_14_code 125 = .ok (.iconst 5, 1) := by decide +kernel
theorem d_Mo_begin_126 : decode prog_10_method_14_code 126 = .ok (.iload_n 1, 1) := by decide +kernel
theorem d_Mo_begin_127 : decode prog_10_method_14_code 127 = .ok (.imul, 1) := by decide +kernel
theorem d_Mo_begin_128 : decode prog_10_method_14_code 128 = .ok (.iload 5, 2) := by decide +kernel
theorem d_Mo_begin_130 : decode prog_10_method_14_code 130 = .ok (.iadd, 1) := by decide +kernel
theorem d_Mo_begin_131 : decode prog_10_method_14_code 131 = .ok (.iconst 1, 1) := by decide +kernel
theorem d_Mo_begin_132 : decode prog_10_method_14_code 132 = .ok (.isub, 1) := by decide +kernel
theorem d_Mo_begin_133 : decode prog_10_method_14_code 133 = .ok (.invokevirtual 107, 3) := by decide +kernel
theorem d_Mo_begin_136 : decode prog_10_method_14_code 136 = .ok (.iinc 5 (-1), 3) := by decide +kernel
theorem d_Mo_begin_139 : decode prog_10_method_14_code 139 = .ok (.goto (-28), 3) := by decide +kernel
theorem d_Mo_begin_142 : decode prog_10_method_14_code 142 = .ok (.iconst 5, 1) := by decide +kernel
theorem d_Mo_begin_143 : decode prog_10_method_14_code 143 = .ok (.iload_n 1, 1) := by decide +kernel
theorem d_Mo_begin_144 : decode prog_10_method_14_code 144 = .ok (.imul, 1) := by decide +kernel
theorem d_Mo_begin_145 : decode prog_10_method_14_code 145 = .ok (.iload 4, 2) := by decide +kernel
theorem d_Mo_begin_147 : decode prog_10_method_14_code 147 = .ok (.iadd, 1) := by decide +kernel
theorem d_Mo_begin_148 : decode prog_10_method_14_code 148 = .ok (.istore 5, 2) := by decide +kernel
theorem d_Mo_begin_150 : decode prog_10_method_14_code 150 = .ok (.aload_n 0, 1) := by decide +kernel
theorem d_Mo_begin_151 : decode prog_10_method_14_code 151 = .ok (.getfield 37, 3) := by decide +kernel
theorem d_Mo_begin_154 : decode prog_10_method_14_code 154 = .ok (.iload 5, 2) := by decide +kernel
theorem d_Mo_begin_156 : decode prog_10_method_14_code 156 = .ok (.aload_n 0, 1) := by decide +kernel
theorem d_Mo_begin_157 : decode prog_10_method_14_code 157 = .ok (.getfield 61, 3) := by decide +kernel
theorem d_Mo_begin_160 : decode prog_10_method_14_code 160 = .ok (.iload_n 2, 1) := by decide +kernel
theorem d_Mo_begin_161 : decode prog_10_method_14_code 161 = .ok (.iaload, 1) := by decide +kernel
theorem d_Mo_begin_162 : decode prog_10_method_14_code 162 = .ok (.iastore, 1) := by decide +kernel
theorem d_Mo_begin_163 : decode prog_10_method_14_code 163 = .ok (.aload_n 0, 1) := by decide +kernel
theorem d_Mo_begin_164 : decode prog_10_method_14_code 164 = .ok (.getfield 40, 3) := by decide +kernel
theorem d_Mo_begin_167 : decode prog_10_method_14_code 167 = .ok (.iload 5, 2) := by decide +kernel
theorem d_Mo_begin_169 : decode prog_10_method_14_code 169 = .ok (.aload_n 0, 1) := by decide +kernel
theorem d_Mo_begin_170 : decode prog_10_method_14_code 170 = .ok (.getfield 64, 3) := by decide +kernel
theorem d_Mo_begin_173 : decode prog_10_method_14_code 173 = .ok (.iload_n 2, 1) := by decide +kernel
theorem d_Mo_begin_174 : decode prog_10_method_14_code 174 = .ok (.iaload, 1) := by decide +kernel
theorem d_Mo_begin_175 : decode prog_10_method_14_code 175 = .ok (.iastore, 1) := by decide +kernel
theorem d_Mo_begin_176 : decode prog_10_method_14_code 176 = .ok (.aload_n 0, 1) := by decide +kernel
theorem d_Mo_begin_177 : decode prog_10_method_14_code 177 = .ok (.getfield 43, 3) := by decide +kernel
theorem d_Mo_begin_180 : decode prog_10_method_14_code 180 = .ok (.iload 5, 2) := by decide +kernel
theorem d_Mo_begin_182 : decode prog_10_method_14_code 182 = .ok (.iload_n 3, 1) := by decide +kernel
theorem d_Mo_begin_183 : decode prog_10_method_14_code 183 = .ok (.ifCond .lt 7, 3) := by decide +kernel
theorem d_Mo_begin_186 : decode prog_10_method_14_code 186 = .ok (.iload_n 3, 1) := by decide +kernel
theorem d_Mo_begin_187 : decode prog_10_method_14_code 187 = .ok (.goto 26, 3) := by decide +kernel
theorem d_Mo_begin_190 : decode prog_10_method_14_code 190 = .ok (.aload_n 0, 1) := by decide +kernel
theorem d_Mo_begin_191 : decode prog_10_method_14_code 191 = .ok (.getfield 61, 3) := by decide +kernel
theorem d_Mo_begin_194 : decode prog_10_method_14_code 194 = .ok (.iload_n 2, 1) := by decide +kernel
theorem d_Mo_begin_195 : decode prog_10_method_14_code 195 = .ok (.iaload, 1) := by decide +kernel
theorem d_Mo_begin_196 : decode prog_10_method_14_code 196 = .ok (.aload_n 0, 1) := by decide +kernel
theorem d_Mo_begin_197 : decode prog_10_method_14_code 197 = .ok (.getfield 64, 3) := by decide +kernel
theorem d_Mo_begin_200 : decode prog_10_method_14_code 200 = .ok (.iload_n 2, 1) := by decide +kernel
theorem d_Mo_begin_201 : decode prog_10_method_14_code 201 = .ok (.iaload, 1) := by decide +kernel
theorem d_Mo_begin_202 : decode prog_10_method_14_code 202 = .ok (.iadd, 1) := by decide +kernel
theorem d_Mo_begin_203 : decode prog_10_method_14_code 203 = .ok (.bipush 9, 2) := by decide +kernel
theorem d_Mo_begin_205 : decode prog_10_method_14_code 205 = .ok (.if_icmp .ge 7, 3) := by decide +kernel
theorem d_Mo_begin_208 : decode prog_10_method_14_code 208 = .ok (.iconst 0, 1) := by decide +kernel
theorem d_Mo_begin_209 : decode prog_10_method_14_code 209 = .ok (.goto 4, 3) := by decide +kernel
theorem d_Mo_begin_212 : decode prog_10_method_14_code 212 = .ok (.iconst 1, 1) := by decide +kernel
theorem d_Mo_begin_213 : decode prog_10_method_14_code 213 = .ok (.iastore, 1) := by decide +kernel
theorem d_Mo_begin_214 : decode prog_10_method_14_code 214 = .ok (.aload_n 0, 1) := by decide +kernel
theorem d_Mo_begin_215 : decode prog_10_method_14_code 215 = .ok (.getfield 46, 3) := by decide +kernel
theorem d_Mo_begin_218 : decode prog_10_method_14_code 218 = .ok (.iload 5, 2) := by decide +kernel
theorem d_Mo_begin_220 : decode prog_10_method_14_code 220 = .ok (.iconst (-1), 1) := by decide +kernel
theorem d_Mo_begin_221 : decode prog_10_method_14_code 221 = .ok (.iastore, 1) := by decide +kernel
theorem d_Mo_begin_222 : decode prog_10_method_14_code 222 = .ok (.aload_n 0, 1) := by decide +kernel
theorem d_Mo_begin_223 : decode prog_10_method_14_code 223 = .ok (.getfield 49, 3) := by decide +kernel
theorem d_Mo_begin_226 : decode prog_10_method_14_code 226 = .ok (.iload 5, 2) := by decide +kernel
theorem d_Mo_begin_228 : decode prog_10_method_14_code 228 = .ok (.aload_n 0, 1) := by decide +kernel
theorem d_Mo_begin_229 : decode prog_10_method_14_code 229 = .ok (.getfield 40, 3) := by decide +kernel
theorem d_Mo_begin_232 : decode prog_10_method_14_code 232 = .ok (.iload 5, 2) := by decide +kernel
theorem d_Mo_begin_234 : decode prog_10_method_14_code 234 = .ok (.iaload, 1) := by decide +kernel
theorem d_Mo_begin_235 : decode prog_10_method_14_code 235 = .ok (.aload_n 0, 1) := by decide +kernel
theorem d_Mo_begin_236 : decode prog_10_method_14_code 236 = .ok (.getfield 37, 3) := by decide +kernel
theorem d_Mo_begin_239 : decode prog_10_method_14_code 239 = .ok (.iload 5, 2) := by decide +kernel
theorem d_Mo_begin_241 : decode prog_10_method_14_code 241 = .ok (.iaload, 1) := by decide +kernel
theorem d_Mo_begin_242 : decode prog_10_method_14_code 242 = .ok (.isub, 1) := by decide +kernel
theorem d_Mo_begin_243 : decode prog_10_method_14_code 243 = .ok (.iconst 1, 1) := by decide +kernel
theorem d_Mo_begin_244 : decode prog_10_method_14_code 244 = .ok (.iadd, 1) := by decide +kernel
theorem d_Mo_begin_245 : decode prog_10_method_14_code 245 = .ok (.iastore, 1) := by decide +kernel
theorem d_Mo_begin_246 : decode prog_10_method_14_code 246 = .ok (.aload_n 0, 1) := by decide +kernel
theorem d_Mo_begin_247 : decode prog_10_method_14_code 247 = .ok (.getfield 52, 3) := by decide +kernel
theorem d_Mo_begin_250 : decode prog_10_method_14_code 250 = .ok (.iload 5, 2) := by decide +kernel
theorem d_Mo_begin_252 : decode prog_10_method_14_code 252 = .ok (.iload_n 2, 1) := by decide +kernel
theorem d_Mo_begin_253 : decode prog_10_method_14_code 253 = .ok (.iastore, 1) := by decide +kernel
theorem d_Mo_begin_254 : decode prog_10_method_14_code 254 = .ok (.aload_n 0, 1) := by decide +kernel
theorem d_Mo_begin_255 : decode prog_10_method_14_code 255 = .ok (.getfield 55, 3) := by decide +kernel
theorem d_Mo_begin_258 : decode prog_10_method_14_code 258 = .ok (.iload 5, 2) := by decide +kernel
theorem d_Mo_begin_260 : decode prog_10_method_14_code 260 = .ok (.bipush (-5), 2) := by decide +kernel
theorem d_Mo_begin_262 : decode prog_10_method_14_code 262 = .ok (.iastore, 1) := by decide +kernel
theorem d_Mo_begin_263 : decode prog_10_method_14_code 263 = .ok (.aload_n 0, 1) := by decide +kernel
theorem d_Mo_begin_264 : decode prog_10_method_14_code 264 = .ok (.getfield 58, 3) := by decide +kernel
theorem d_Mo_begin_267 : decode prog_10_method_14_code 267 = .ok (.iload 5, 2) := by decide +kernel
theorem d_Mo_begin_269 : decode prog_10_method_14_code 269 = .ok (.bipush (-5), 2) := by decide +kernel
theorem d_Mo_begin_271 : decode prog_10_method_14_code 271 = .ok (.iastore, 1) := by decide +kernel
theorem d_Mo_begin_272 : decode prog_10_method_14_code 272 = .ok (.aload_n 0, 1) := by decide +kernel
theorem d_Mo_begin_273 : decode prog_10_method_14_code 273 = .ok (.getfield 34, 3) := by decide +kernel
theorem d_Mo_begin_276 : decode prog_10_method_14_code 276 = .ok (.iload_n 1, 1) := by decide +kernel
theorem d_Mo_begin_277 : decode prog_10_method_14_code 277 = .ok (.dup2, 1) := by decide +kernel
theorem d_Mo_begin_278 : decode prog_10_method_14_code 278 = .ok (.iaload, 1) := by decide +kernel
theorem d_Mo_begin_279 : decode prog_10_method_14_code 279 = .ok (.iconst 1, 1) := by decide +kernel
theorem d_Mo_begin_280 : decode prog_10_method_14_code 280 = .ok (.iadd, 1) := by decide +kernel
theorem d_Mo_begin_281 : decode prog_10_method_14_code 281 = .ok (.iastore, 1) := by decide +kernel
theorem d_Mo_begin_282 : decode prog_10_method_14_code 282 = .ok (.return_, 1) := by decide +kernel
abbrev m_Mo_pay : ac_I := (⟨"PairedGatesModel", "pay", "(I)V"⟩, prog_10_method_15_code, 6, none, [])
theorem d_Mo_pay_0 : decode prog_10_method_15_code 0 = .ok (.iconst 0, 1) := by decide +kernel
theorem d_Mo_pay_1 : decode prog_10_method_15_code 1 = .ok (.istore_n 2, 1) := by decide +kernel
theorem d_Mo_pay_2 : decode prog_10_method_15_code 2 = .ok (.iload_n 2, 1) := by decide +kernel
theorem d_Mo_pay_3 : decode prog_10_method_15_code 3 = .ok (.aload_n 0, 1) := by decide +kernel
theorem d_Mo_pay_4 : decode prog_10_method_15_code 4 = .ok (.getfield 34, 3) := by decide +kernel
theorem d_Mo_pay_7 : decode prog_10_method_15_code 7 = .ok (.iload_n 1, 1) := by decide +kernel
theorem d_Mo_pay_8 : decode prog_10_method_15_code 8 = .ok (.iaload, 1) := by decide +kernel
theorem d_Mo_pay_9 : decode prog_10_method_15_code 9 = .ok (.if_icmp .ge 107, 3) := by decide +kernel
theorem d_Mo_pay_12 : decode prog_10_method_15_code 12 = .ok (.iconst 5, 1) := by decide +kernel
theorem d_Mo_pay_13 : decode prog_10_method_15_code 13 = .ok (.iload_n 1, 1) := by decide +kernel
theorem d_Mo_pay_14 : decode prog_10_method_15_code 14 = .ok (.imul, 1) := by decide +kernel
theorem d_Mo_pay_15 : decode prog_10_method_15_code 15 = .ok (.iload_n 2, 1) := by decide +kernel
theorem d_Mo_pay_16 : decode prog_10_method_15_code 16 = .ok (.iadd, 1) := by decide +kernel
theorem d_Mo_pay_17 : decode prog_10_method_15_code 17 = .ok (.istore_n 3, 1) := by decide +kernel
theorem d_Mo_pay_18 : decode prog_10_method_15_code 18 = .ok (.aload_n 0, 1) := by decide +kernel
theorem d_Mo_pay_19 : decode prog_10_method_15_code 19 = .ok (.getfield 43, 3) := by decide +kernel
theorem d_Mo_pay_22 : decode prog_10_method_15_code 22 = .ok (.iload_n 3, 1) := by decide +kernel
theorem d_Mo_pay_23 : decode prog_10_method_15_code 23 = .ok (.iaload, 1) := by decide +kernel
theorem d_Mo_pay_24 : decode prog_10_method_15_code 24 = .ok (.ifCond .ne 21, 3) := by decide +kernel
theorem d_Mo_pay_27 : decode prog_10_method_15_code 27 = .ok (.aload_n 0, 1) := by decide +kernel
theorem d_Mo_pay_28 : decode prog_10_method_15_code 28 = .ok (.getfield 40, 3) := by decide +kernel
theorem d_Mo_pay_31 : decode prog_10_method_15_code 31 = .ok (.iload_n 3, 1) := by decide +kernel
theorem d_Mo_pay_32 : decode prog_10_method_15_code 32 = .ok (.iaload, 1) := by decide +kernel
theorem d_Mo_pay_33 : decode prog_10_method_15_code 33 = .ok (.iconst 4, 1) := by decide +kernel
theorem d_Mo_pay_34 : decode prog_10_method_15_code 34 = .ok (.if_icmp .lt 7, 3) := by decide +kernel
theorem d_Mo_pay_37 : decode prog_10_method_15_code 37 = .ok (.iconst 1, 1) := by decide +kernel
theorem d_Mo_pay_38 : decode prog_10_method_15_code 38 = .ok (.goto 22, 3) := by decide +kernel
theorem d_Mo_pay_41 : decode prog_10_method_15_code 41 = .ok (.iconst 0, 1) := by decide +kernel
theorem d_Mo_pay_42 : decode prog_10_method_15_code 42 = .ok (.goto 18, 3) := by decide +kernel
theorem d_Mo_pay_45 : decode prog_10_method_15_code 45 = .ok (.aload_n 0, 1) := by decide +kernel
theorem d_Mo_pay_46 : decode prog_10_method_15_code 46 = .ok (.getfield 37, 3) := by decide +kernel
theorem d_Mo_pay_49 : decode prog_10_method_15_code 49 = .ok (.iload_n 3, 1) := by decide +kernel
theorem d_Mo_pay_50 : decode prog_10_method_15_code 50 = .ok (.iaload, 1) := by decide +kernel
theorem d_Mo_pay_51 : decode prog_10_method_15_code 51 = .ok (.iconst 5, 1) := by decide +kernel
theorem d_Mo_pay_52 : decode prog_10_method_15_code 52 = .ok (.if_icmp .gt 7, 3) := by decide +kernel
theorem d_Mo_pay_55 : decode prog_10_method_15_code 55 = .ok (.iconst 1, 1) := by decide +kernel
theorem d_Mo_pay_56 : decode prog_10_method_15_code 56 = .ok (.goto 4, 3) := by decide +kernel
theorem d_Mo_pay_59 : decode prog_10_method_15_code 59 = .ok (.iconst 0, 1) := by decide +kernel
theorem d_Mo_pay_60 : decode prog_10_method_15_code 60 = .ok (.istore 4, 2) := by decide +kernel
theorem d_Mo_pay_62 : decode prog_10_method_15_code 62 = .ok (.iconst 2, 1) := by decide +kernel
theorem d_Mo_pay_63 : decode prog_10_method_15_code 63 = .ok (.iload_n 1, 1) := by decide +kernel
theorem d_Mo_pay_64 : decode prog_10_method_15_code 64 = .ok (.imul, 1) := by decide +kernel
theorem d_Mo_pay_65 : decode prog_10_method_15_code 65 = .ok (.aload_n 0, 1) := by decide +kernel
theorem d_Mo_pay_66 : decode prog_10_method_15_code 66 = .ok (.getfield 43, 3) := by decide +kernel
theorem d_Mo_pay_69 : decode prog_10_method_15_code 69 = .ok (.iload_n 3, 1) := by decide +kernel
theorem d_Mo_pay_70 : decode prog_10_method_15_code 70 = .ok (.iaload, 1) := by decide +kernel
theorem d_Mo_pay_71 : decode prog_10_method_15_code 71 = .ok (.iadd, 1) := by decide +kernel
theorem d_Mo_pay_72 : decode prog_10_method_15_code 72 = .ok (.istore 5, 2) := by decide +kernel
theorem d_Mo_pay_74 : decode prog_10_method_15_code 74 = .ok (.aload_n 0, 1) := by decide +kernel
theorem d_Mo_pay_75 : decode prog_10_method_15_code 75 = .ok (.getfield 46, 3) := by decide +kernel
theorem d_Mo_pay_78 : decode prog_10_method_15_code 78 = .ok (.iload_n 3, 1) := by decide +kernel
theorem d_Mo_pay_79 : decode prog_10_method_15_code 79 = .ok (.iaload, 1) := by decide +kernel
theorem d_Mo_pay_80 : decode prog_10_method_15_code 80 = .ok (.ifCond .ge 30, 3) := by decide +kernel
theorem d_Mo_pay_83 : decode prog_10_method_15_code 83 = .ok (.iload 4, 2) := by decide +kernel
theorem d_Mo_pay_85 : decode prog_10_method_15_code 85 = .ok (.ifCond .eq 25, 3) := by decide +kernel
theorem d_Mo_pay_88 : decode prog_10_method_15_code 88 = .ok (.aload_n 0, 1) := by decide +kernel
theorem d_Mo_pay_89 : decode prog_10_method_15_code 89 = .ok (.getfield 67, 3) := by decide +kernel
theorem d_Mo_pay_92 : decode prog_10_method_15_code 92 = .ok (.iload 5, 2) := by decide +kernel
theorem d_Mo_pay_94 : decode prog_10_method_15_code 94 = .ok (.iaload, 1) := by decide +kernel
theorem d_Mo_pay_95 : decode prog_10_method_15_code 95 = .ok (.ifCond .le 15, 3) := by decide +kernel
theorem d_Mo_pay_98 : decode prog_10_method_15_code 98 = .ok (.aload_n 0, 1) := by decide +kernel
theorem d_Mo_pay_99 : decode prog_10_method_15_code 99 = .ok (.getfield 46, 3) := by decide +kernel
theorem d_Mo_pay_102 : decode prog_10_method_15_code 102 = .ok (.iload_n 3, 1) := by decide +kernel
theorem d_Mo_pay_103 : decode prog_10_method_15_code 103 = .ok (.aload_n 0, 1) := by decide +kernel
theorem d_Mo_pay_104 : decode prog_10_method_15_code 104 = .ok (.iload 5, 2) := by decide +kernel
theorem d_Mo_pay_106 : decode prog_10_method_15_code 106 = .ok (.invokevirtual 113, 3) := by decide +kernel
theorem d_Mo_pay_109 : decode prog_10_method_15_code 109 = .ok (.iastore, 1) := by decide +kernel
theorem d_Mo_pay_110 : decode prog_10_method_15_code 110 = .ok (.iinc 2 1, 3) := by decide +kernel
theorem d_Mo_pay_113 : decode prog_10_method_15_code 113 = .ok (.goto (-111), 3) := by decide +kernel
theorem d_Mo_pay_116 : decode prog_10_method_15_code 116 = .ok (.return_, 1) := by decide +kernel
