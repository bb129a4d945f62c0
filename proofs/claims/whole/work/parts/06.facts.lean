theorem i_Blobs : ∀ w ∈ u_ws R_Blobs T_Blobs 3, w ∈ ac_U := by
  intro w hw
  have e : u_ws R_Blobs T_Blobs 3 = [.laysFinal "PairedGates$Blobs" "PairedGates$Blobs" "first" "[I", .laysFinal "PairedGates$Blobs" "PairedGates$Blobs" "last" "[I", .lays "PairedGates$Blobs" "PairedGates$Blobs" "size" "I"] := by decide +kernel
  rw [e] at hw
  simp only [List.mem_cons, List.not_mem_nil, or_false] at hw
  rcases hw with rfl | rfl | rfl
  · exact wu_93
  · exact wu_95
  · exact wu_97
theorem i_Body : ∀ w ∈ u_ws R_Body T_Body 5, w ∈ ac_U := by
  intro w hw
  have e : u_ws R_Body T_Body 5 = [.lays "PairedGates$Body" "PairedGates$Body" "first" "I", .lays "PairedGates$Body" "PairedGates$Body" "last" "I", .lays "PairedGates$Body" "PairedGates$Body" "side" "I", .lays "PairedGates$Body" "PairedGates$Body" "account" "I", .lays "PairedGates$Body" "PairedGates$Body" "length" "I"] := by decide +kernel
  rw [e] at hw
  simp only [List.mem_cons, List.not_mem_nil, or_false] at hw
  rcases hw with rfl | rfl | rfl | rfl | rfl
  · exact wu_162
  · exact wu_164
  · exact wu_166
  · exact wu_168
  · exact wu_170
theorem i_Eye : ∀ w ∈ u_ws R_Eye T_Eye 4, w ∈ ac_U := by
  intro w hw
  have e : u_ws R_Eye T_Eye 4 = [.lays "PairedGates$Eye" "PairedGates$Eye" "told" "I", .lays "PairedGates$Eye" "PairedGates$Eye" "latest" "I", .lays "PairedGates$Eye" "PairedGates$Eye" "earlier" "I", .lays "PairedGates$Eye" "PairedGates$Eye" "seen" "I"] := by decide +kernel
  rw [e] at hw
  simp only [List.mem_cons, List.not_mem_nil, or_false] at hw
  rcases hw with rfl | rfl | rfl | rfl
  · exact wu_72
  · exact wu_74
  · exact wu_76
  · exact wu_78
theorem i_Lane : ∀ w ∈ u_ws R_Lane T_Lane 10, w ∈ ac_U := by
  intro w hw
  have e : u_ws R_Lane T_Lane 10 = [.laysFinal "PairedGates$Lane" "PairedGates$Lane" "eye" "LPairedGates$Eye;", .laysFinal "PairedGates$Lane" "PairedGates$Lane" "blobs" "LPairedGates$Blobs;", .laysFinal "PairedGates$Lane" "PairedGates$Lane" "paddles" "LPairedGates$Paddles;", .laysFinal "PairedGates$Lane" "PairedGates$Lane" "queues" "[LPairedGates$TokenList;", .laysFinal "PairedGates$Lane" "PairedGates$Lane" "counts" "[I", .laysFinal "PairedGates$Lane" "PairedGates$Lane" "goals" "[I", .lays "PairedGates$Lane" "PairedGates$Lane" "openMode" "I", .lays "PairedGates$Lane" "PairedGates$Lane" "size" "I", .lays "PairedGates$Lane" "PairedGates$Lane" "row" "[LPairedGates$Body;", .lays "PairedGates$Lane" "PairedGates$Lane" "nextRow" "[LPairedGates$Body;"] := by decide +kernel
  rw [e] at hw
  simp only [List.mem_cons, List.not_mem_nil, or_false] at hw
  rcases hw with rfl | rfl | rfl | rfl | rfl | rfl | rfl | rfl | rfl | rfl
  · exact wu_189
  · exact wu_191
  · exact wu_193
  · exact wu_195
  · exact wu_197
  · exact wu_199
  · exact wu_201
  · exact wu_203
  · exact wu_205
  · exact wu_207
theorem i_Pad : ∀ w ∈ u_ws R_Pad T_Pad 2, w ∈ ac_U := by
  intro w hw
  have e : u_ws R_Pad T_Pad 2 = [.lays "PairedGates$Paddles" "PairedGates$Paddles" "angle" "I", .lays "PairedGates$Paddles" "PairedGates$Paddles" "order" "I"] := by decide +kernel
  rw [e] at hw
  simp only [List.mem_cons, List.not_mem_nil, or_false] at hw
  rcases hw with rfl | rfl
  · exact wu_111
  · exact wu_113
theorem i_Rf : ∀ w ∈ u_ws R_Rf T_Rf 2, w ∈ ac_U := by
  intro w hw
  have e : u_ws R_Rf T_Rf 2 = [.laysFinal "PairedGates$Refunds" "PairedGates$Refunds" "accounts" "[I", .lays "PairedGates$Refunds" "PairedGates$Refunds" "size" "I"] := by decide +kernel
  rw [e] at hw
  simp only [List.mem_cons, List.not_mem_nil, or_false] at hw
  rcases hw with rfl | rfl
  · exact wu_221
  · exact wu_223
theorem i_TL : ∀ w ∈ u_ws R_TL T_TL 3, w ∈ ac_U := by
  intro w hw
  have e : u_ws R_TL T_TL 3 = [.laysFinal "PairedGates$TokenList" "PairedGates$TokenList" "accounts" "[I", .laysFinal "PairedGates$TokenList" "PairedGates$TokenList" "times" "[I", .lays "PairedGates$TokenList" "PairedGates$TokenList" "size" "I"] := by decide +kernel
  rw [e] at hw
  simp only [List.mem_cons, List.not_mem_nil, or_false] at hw
  rcases hw with rfl | rfl | rfl
  · exact wu_130
  · exact wu_132
  · exact wu_134
theorem i_PG : ∀ w ∈ u_ws R_PG T_PG 5, w ∈ ac_U := by
  intro w hw
  have e : u_ws R_PG T_PG 5 = [.laysFinal "PairedGates" "PairedGates" "lanes" "[LPairedGates$Lane;", .laysFinal "PairedGates" "PairedGates" "acceptances" "LPairedGates$TokenList;", .laysFinal "PairedGates" "PairedGates" "refundList" "LPairedGates$Refunds;", .lays "PairedGates" "PairedGates" "alarmOn" "Z", .lays "PairedGates" "PairedGates" "now" "I"] := by decide +kernel
  rw [e] at hw
  simp only [List.mem_cons, List.not_mem_nil, or_false] at hw
  rcases hw with rfl | rfl | rfl | rfl | rfl
  · exact wu_231
  · exact wu_233
  · exact wu_235
  · exact wu_237
  · exact wu_239
theorem i_Mo : ∀ w ∈ u_ws R_Mo T_Mo 31, w ∈ ac_U := by
  intro w hw
  have e : u_ws R_Mo T_Mo 31 = [.lays "PairedGatesModel" "PairedGatesModel" "fault" "I", .lays "PairedGatesModel" "PairedGatesModel" "time" "I", .lays "PairedGatesModel" "PairedGatesModel" "alarm" "Z", .laysFinal "PairedGatesModel" "PairedGatesModel" "told" "[I", .laysFinal "PairedGatesModel" "PairedGatesModel" "before" "[I", .laysFinal "PairedGatesModel" "PairedGatesModel" "earlier" "[I", .laysFinal "PairedGatesModel" "PairedGatesModel" "seen" "[I", .laysFinal "PairedGatesModel" "PairedGatesModel" "modes" "[I", .laysFinal "PairedGatesModel" "PairedGatesModel" "angle" "[I", .laysFinal "PairedGatesModel" "PairedGatesModel" "order" "[I", .laysFinal "PairedGatesModel" "PairedGatesModel" "counts" "[I", .laysFinal "PairedGatesModel" "PairedGatesModel" "bodies" "[I", .laysFinal "PairedGatesModel" "PairedGatesModel" "first" "[I", .laysFinal "PairedGatesModel" "PairedGatesModel" "last" "[I", .laysFinal "PairedGatesModel" "PairedGatesModel" "side" "[I", .laysFinal "PairedGatesModel" "PairedGatesModel" "owns" "[I", .laysFinal "PairedGatesModel" "PairedGatesModel" "length" "[I", .laysFinal "PairedGatesModel" "PairedGatesModel" "blobOf" "[I", .laysFinal "PairedGatesModel" "PairedGatesModel" "oldFirst" "[I", .laysFinal "PairedGatesModel" "PairedGatesModel" "oldLast" "[I", .lays "PairedGatesModel" "PairedGatesModel" "blobs" "I", .laysFinal "PairedGatesModel" "PairedGatesModel" "blobFirst" "[I", .laysFinal "PairedGatesModel" "PairedGatesModel" "blobLast" "[I", .laysFinal "PairedGatesModel" "PairedGatesModel" "waiting" "[I", .laysFinal "PairedGatesModel" "PairedGatesModel" "account" "[I", .laysFinal "PairedGatesModel" "PairedGatesModel" "since" "[I", .lays "PairedGatesModel" "PairedGatesModel" "accepted" "I", .laysFinal "PairedGatesModel" "PairedGatesModel" "takenOf" "[I", .laysFinal "PairedGatesModel" "PairedGatesModel" "takenAt" "[I", .lays "PairedGatesModel" "PairedGatesModel" "refunds" "I", .laysFinal "PairedGatesModel" "PairedGatesModel" "refund" "[I"] := by decide +kernel
  rw [e] at hw
  simp only [List.mem_cons, List.not_mem_nil, or_false] at hw
  rcases hw with rfl | rfl | rfl | rfl | rfl | rfl | rfl | rfl | rfl | rfl | rfl | rfl | rfl | rfl | rfl | rfl | rfl | rfl | rfl | rfl | rfl | rfl | rfl | rfl | rfl | rfl | rfl | rfl | rfl | rfl | rfl
  · exact wu_652
  · exact wu_654
  · exact wu_656
  · exact wu_658
  · exact wu_660
  · exact wu_662
  · exact wu_664
  · exact wu_666
  · exact wu_668
  · exact wu_670
  · exact wu_672
  · exact wu_674
  · exact wu_676
  · exact wu_678
  · exact wu_680
  · exact wu_682
  · exact wu_684
  · exact wu_686
  · exact wu_688
  · exact wu_690
  · exact wu_692
  · exact wu_694
  · exact wu_696
  · exact wu_698
  · exact wu_700
  · exact wu_702
  · exact wu_704
  · exact wu_706
  · exact wu_708
  · exact wu_710
  · exact wu_712
theorem oi_PG_1 : Cond.methodLink "PairedGates" 1 Lib.objectInit ∈ ac_U := wu_50
theorem an_PG_7 : Cond.classLink "PairedGates" 7 "PairedGates$Lane" ∈ ac_U := wu_53
theorem nw_PG_7 : ac_N "PairedGates" 7 3 10 [.null, .null, .null, .null, .null, .null, .int 0, .int 0, .null, .null] := ⟨R_Lane, T_Lane, t_Lane, rfl, i_Lane, t_Lane_ok, wu_53, wu_55, wu_30, by decide +kernel, fun _ => rfl, by simp⟩
theorem q_PG_9 : ac_KIN "PairedGates" 9 m_Lane_init 0 "PairedGates" := ⟨⟨wu_30, by decide, by decide, by decide, by decide +kernel⟩, by decide +kernel, wu_57, wu_58, rfl, rfl⟩
theorem f_PG_10 : ac_F "PairedGates" 10 7 0 (.array (.object "PairedGates$Lane")) true := ⟨R_PG, T_PG, 5, t_PG, rfl, i_PG, by decide, wu_226, rfl, by decide +kernel, t_PG_ok, n_PG⟩
theorem nw_PG_16 : ac_N "PairedGates" 16 6 3 [.null, .null, .int 0] := ⟨R_TL, T_TL, t_TL, rfl, i_TL, t_TL_ok, wu_210, wu_118, wu_34, by decide +kernel, fun _ => rfl, by simp⟩
theorem q_PG_18 : ac_KI "PairedGates" 18 m_TL_init 1 := ⟨⟨wu_34, by decide, by decide, by decide, by decide +kernel⟩, wu_211, wu_120, wu_121, rfl, rfl⟩
theorem f_PG_21 : ac_F "PairedGates" 21 7 1 (.object "PairedGates$TokenList") true := ⟨R_PG, T_PG, 5, t_PG, rfl, i_PG, by decide, wu_227, rfl, by decide +kernel, t_PG_ok, n_PG⟩
theorem nw_PG_25 : ac_N "PairedGates" 25 5 2 [.null, .int 0] := ⟨R_Rf, T_Rf, t_Rf, rfl, i_Rf, t_Rf_ok, wu_212, wu_213, wu_37, by decide +kernel, fun _ => rfl, by simp⟩
theorem q_PG_27 : ac_KIN "PairedGates" 27 m_Rf_init 0 "PairedGates" := ⟨⟨wu_37, by decide, by decide, by decide, by decide +kernel⟩, by decide +kernel, wu_215, wu_216, rfl, rfl⟩
theorem f_PG_28 : ac_F "PairedGates" 28 7 2 (.object "PairedGates$Refunds") true := ⟨R_PG, T_PG, 5, t_PG, rfl, i_PG, by decide, wu_228, rfl, by decide +kernel, t_PG_ok, n_PG⟩
theorem f_PG_32 : ac_F "PairedGates" 32 7 3 (.boolean) false := ⟨R_PG, T_PG, 5, t_PG, rfl, i_PG, by decide, wu_229, rfl, by decide +kernel, t_PG_ok, n_PG⟩
theorem f_PG_36 : ac_F "PairedGates" 36 7 4 (.int) false := ⟨R_PG, T_PG, 5, t_PG, rfl, i_PG, by decide, wu_230, rfl, by decide +kernel, t_PG_ok, n_PG⟩
theorem q_PG_40 : ac_KV "PairedGates" 40 m_PG_laneAt 1 := ⟨⟨wu_29, by decide, by decide, by decide, by decide +kernel⟩, wu_274, wu_276, wu_0, wu_277⟩
theorem f_PG_44 : ac_F "PairedGates" 44 3 0 (.object "PairedGates$Eye") true := ⟨R_Lane, T_Lane, 10, t_Lane, rfl, i_Lane, by decide, wu_174, rfl, by decide +kernel, t_Lane_ok, n_Lane⟩
theorem q_PG_48 : ac_KV "PairedGates" 48 m_Eye_tell 1 := ⟨⟨wu_31, by decide, by decide, by decide, by decide +kernel⟩, wu_346, wu_347, wu_348, wu_349⟩
theorem q_PG_60 : ac_KV "PairedGates" 60 m_Lane_tick 3 := ⟨⟨wu_30, by decide, by decide, by decide, by decide +kernel⟩, wu_374, wu_375, wu_376, wu_377⟩
theorem q_PG_64 : ac_KS "PairedGates" 64 m_PG_queueAt 2 := ⟨⟨wu_29, by decide, by decide, by decide, by decide +kernel⟩, wu_486, wu_487, wu_488⟩
theorem q_PG_70 : ac_KV "PairedGates" 70 m_Lane_takesSide 1 := ⟨⟨wu_30, by decide, by decide, by decide, by decide +kernel⟩, wu_491, wu_492, wu_493, wu_494⟩
theorem q_PG_74 : ac_KV "PairedGates" 74 m_TL_hasRecent 2 := ⟨⟨wu_34, by decide, by decide, by decide, by decide +kernel⟩, wu_495, wu_496, wu_497, wu_498⟩
theorem q_PG_78 : ac_KV "PairedGates" 78 m_TL_isFull 0 := ⟨⟨wu_34, by decide, by decide, by decide, by decide +kernel⟩, wu_499, wu_500, wu_501, wu_502⟩
theorem q_PG_82 : ac_KV "PairedGates" 82 m_TL_add 2 := ⟨⟨wu_34, by decide, by decide, by decide, by decide +kernel⟩, wu_503, wu_504, wu_505, wu_506⟩
theorem f_PG_86 : ac_F "PairedGates" 86 6 2 (.int) false := ⟨R_TL, T_TL, 3, t_TL, rfl, i_TL, by decide, wu_129, rfl, by decide +kernel, t_TL_ok, n_TL⟩
theorem q_PG_89 : ac_KV "PairedGates" 89 m_TL_removeOldest 0 := ⟨⟨wu_34, by decide, by decide, by decide, by decide +kernel⟩, wu_514, wu_383, wu_384, wu_385⟩
theorem q_PG_93 : ac_KV "PairedGates" 93 m_Rf_add 1 := ⟨⟨wu_37, by decide, by decide, by decide, by decide +kernel⟩, wu_515, wu_387, wu_388, wu_389⟩
theorem f_PG_97 : ac_F "PairedGates" 97 3 7 (.int) false := ⟨R_Lane, T_Lane, 10, t_Lane, rfl, i_Lane, by decide, wu_185, rfl, by decide +kernel, t_Lane_ok, n_Lane⟩
theorem q_PG_103 : ac_KV "PairedGates" 103 m_Lane_changeMode 2 := ⟨⟨wu_30, by decide, by decide, by decide, by decide +kernel⟩, wu_541, wu_542, wu_543, wu_544⟩
theorem q_PG_107 : ac_KS "PairedGates" 107 m_PG_bodyAt 2 := ⟨⟨wu_29, by decide, by decide, by decide, by decide +kernel⟩, wu_564, wu_565, wu_566⟩
theorem f_PG_111 : ac_F "PairedGates" 111 1 0 (.int) false := ⟨R_Body, T_Body, 5, t_Body, rfl, i_Body, by decide, wu_149, rfl, by decide +kernel, t_Body_ok, n_Body⟩
theorem f_PG_116 : ac_F "PairedGates" 116 1 1 (.int) false := ⟨R_Body, T_Body, 5, t_Body, rfl, i_Body, by decide, wu_152, rfl, by decide +kernel, t_Body_ok, n_Body⟩
theorem f_PG_119 : ac_F "PairedGates" 119 1 2 (.int) false := ⟨R_Body, T_Body, 5, t_Body, rfl, i_Body, by decide, wu_154, rfl, by decide +kernel, t_Body_ok, n_Body⟩
theorem f_PG_122 : ac_F "PairedGates" 122 1 3 (.int) false := ⟨R_Body, T_Body, 5, t_Body, rfl, i_Body, by decide, wu_158, rfl, by decide +kernel, t_Body_ok, n_Body⟩
theorem f_PG_125 : ac_F "PairedGates" 125 1 4 (.int) false := ⟨R_Body, T_Body, 5, t_Body, rfl, i_Body, by decide, wu_161, rfl, by decide +kernel, t_Body_ok, n_Body⟩
theorem q_PG_130 : ac_KV "PairedGates" 130 m_TL_accountAt 1 := ⟨⟨wu_34, by decide, by decide, by decide, by decide +kernel⟩, wu_583, wu_584, wu_585, wu_586⟩
theorem f_PG_134 : ac_F "PairedGates" 134 3 4 (.array .int) true := ⟨R_Lane, T_Lane, 10, t_Lane, rfl, i_Lane, by decide, wu_181, rfl, by decide +kernel, t_Lane_ok, n_Lane⟩
theorem f_PG_138 : ac_F "PairedGates" 138 3 2 (.object "PairedGates$Paddles") true := ⟨R_Lane, T_Lane, 10, t_Lane, rfl, i_Lane, by decide, wu_177, rfl, by decide +kernel, t_Lane_ok, n_Lane⟩
theorem f_PG_142 : ac_F "PairedGates" 142 4 0 (.int) false := ⟨R_Pad, T_Pad, 2, t_Pad, rfl, i_Pad, by decide, wu_108, rfl, by decide +kernel, t_Pad_ok, n_Pad⟩
theorem f_PG_147 : ac_F "PairedGates" 147 4 1 (.int) false := ⟨R_Pad, T_Pad, 2, t_Pad, rfl, i_Pad, by decide, wu_110, rfl, by decide +kernel, t_Pad_ok, n_Pad⟩
theorem f_PG_150 : ac_F "PairedGates" 150 2 3 (.int) false := ⟨R_Eye, T_Eye, 4, t_Eye, rfl, i_Eye, by decide, wu_71, rfl, by decide +kernel, t_Eye_ok, n_Eye⟩
theorem f_PG_153 : ac_F "PairedGates" 153 5 1 (.int) false := ⟨R_Rf, T_Rf, 2, t_Rf, rfl, i_Rf, by decide, wu_220, rfl, by decide +kernel, t_Rf_ok, n_Rf⟩
theorem q_PG_154 : ac_KV "PairedGates" 154 m_Rf_accountAt 1 := ⟨⟨wu_37, by decide, by decide, by decide, by decide +kernel⟩, wu_262, wu_263, wu_264, wu_265⟩
theorem f_PG_160 : ac_F "PairedGates" 160 3 3 (.array (.object "PairedGates$TokenList")) true := ⟨R_Lane, T_Lane, 10, t_Lane, rfl, i_Lane, by decide, wu_179, rfl, by decide +kernel, t_Lane_ok, n_Lane⟩
theorem f_PG_168 : ac_F "PairedGates" 168 3 8 (.array (.object "PairedGates$Body")) false := ⟨R_Lane, T_Lane, 10, t_Lane, rfl, i_Lane, by decide, wu_187, rfl, by decide +kernel, t_Lane_ok, n_Lane⟩
theorem oi_Mo_1 : Cond.methodLink "PairedGatesModel" 1 Lib.objectInit ∈ ac_U := wu_620
theorem f_Mo_7 : ac_F "PairedGatesModel" 7 8 3 (.array .int) true := ⟨R_Mo, T_Mo, 31, t_Mo, rfl, i_Mo, by decide, wu_624, rfl, by decide +kernel, t_Mo_ok, n_Mo⟩
theorem f_Mo_13 : ac_F "PairedGatesModel" 13 8 4 (.array .int) true := ⟨R_Mo, T_Mo, 31, t_Mo, rfl, i_Mo, by decide, wu_625, rfl, by decide +kernel, t_Mo_ok, n_Mo⟩
theorem f_Mo_16 : ac_F "PairedGatesModel" 16 8 5 (.array .int) true := ⟨R_Mo, T_Mo, 31, t_Mo, rfl, i_Mo, by decide, wu_626, rfl, by decide +kernel, t_Mo_ok, n_Mo⟩
theorem f_Mo_19 : ac_F "PairedGatesModel" 19 8 6 (.array .int) true := ⟨R_Mo, T_Mo, 31, t_Mo, rfl, i_Mo, by decide, wu_627, rfl, by decide +kernel, t_Mo_ok, n_Mo⟩
theorem f_Mo_22 : ac_F "PairedGatesModel" 22 8 7 (.array .int) true := ⟨R_Mo, T_Mo, 31, t_Mo, rfl, i_Mo, by decide, wu_628, rfl, by decide +kernel, t_Mo_ok, n_Mo⟩
theorem f_Mo_25 : ac_F "PairedGatesModel" 25 8 8 (.array .int) true := ⟨R_Mo, T_Mo, 31, t_Mo, rfl, i_Mo, by decide, wu_629, rfl, by decide +kernel, t_Mo_ok, n_Mo⟩
theorem f_Mo_28 : ac_F "PairedGatesModel" 28 8 9 (.array .int) true := ⟨R_Mo, T_Mo, 31, t_Mo, rfl, i_Mo, by decide, wu_630, rfl, by decide +kernel, t_Mo_ok, n_Mo⟩
theorem f_Mo_31 : ac_F "PairedGatesModel" 31 8 10 (.array .int) true := ⟨R_Mo, T_Mo, 31, t_Mo, rfl, i_Mo, by decide, wu_631, rfl, by decide +kernel, t_Mo_ok, n_Mo⟩
theorem f_Mo_34 : ac_F "PairedGatesModel" 34 8 11 (.array .int) true := ⟨R_Mo, T_Mo, 31, t_Mo, rfl, i_Mo, by decide, wu_632, rfl, by decide +kernel, t_Mo_ok, n_Mo⟩
theorem f_Mo_37 : ac_F "PairedGatesModel" 37 8 12 (.array .int) true := ⟨R_Mo, T_Mo, 31, t_Mo, rfl, i_Mo, by decide, wu_633, rfl, by decide +kernel, t_Mo_ok, n_Mo⟩
theorem f_Mo_40 : ac_F "PairedGatesModel" 40 8 13 (.array .int) true := ⟨R_Mo, T_Mo, 31, t_Mo, rfl, i_Mo, by decide, wu_634, rfl, by decide +kernel, t_Mo_ok, n_Mo⟩
theorem f_Mo_43 : ac_F "PairedGatesModel" 43 8 14 (.array .int) true := ⟨R_Mo, T_Mo, 31, t_Mo, rfl, i_Mo, by decide, wu_635, rfl, by decide +kernel, t_Mo_ok, n_Mo⟩
theorem f_Mo_46 : ac_F "PairedGatesModel" 46 8 15 (.array .int) true := ⟨R_Mo, T_Mo, 31, t_Mo, rfl, i_Mo, by decide, wu_636, rfl, by decide +kernel, t_Mo_ok, n_Mo⟩
theorem f_Mo_49 : ac_F "PairedGatesModel" 49 8 16 (.array .int) true := ⟨R_Mo, T_Mo, 31, t_Mo, rfl, i_Mo, by decide, wu_637, rfl, by decide +kernel, t_Mo_ok, n_Mo⟩
theorem f_Mo_52 : ac_F "PairedGatesModel" 52 8 17 (.array .int) true := ⟨R_Mo, T_Mo, 31, t_Mo, rfl, i_Mo, by decide, wu_638, rfl, by decide +kernel, t_Mo_ok, n_Mo⟩
theorem f_Mo_55 : ac_F "PairedGatesModel" 55 8 18 (.array .int) true := ⟨R_Mo, T_Mo, 31, t_Mo, rfl, i_Mo, by decide, wu_639, rfl, by decide +kernel, t_Mo_ok, n_Mo⟩
theorem f_Mo_58 : ac_F "PairedGatesModel" 58 8 19 (.array .int) true := ⟨R_Mo, T_Mo, 31, t_Mo, rfl, i_Mo, by decide, wu_640, rfl, by decide +kernel, t_Mo_ok, n_Mo⟩
theorem f_Mo_61 : ac_F "PairedGatesModel" 61 8 21 (.array .int) true := ⟨R_Mo, T_Mo, 31, t_Mo, rfl, i_Mo, by decide, wu_642, rfl, by decide +kernel, t_Mo_ok, n_Mo⟩
theorem f_Mo_64 : ac_F "PairedGatesModel" 64 8 22 (.array .int) true := ⟨R_Mo, T_Mo, 31, t_Mo, rfl, i_Mo, by decide, wu_643, rfl, by decide +kernel, t_Mo_ok, n_Mo⟩
theorem f_Mo_67 : ac_F "PairedGatesModel" 67 8 23 (.array .int) true := ⟨R_Mo, T_Mo, 31, t_Mo, rfl, i_Mo, by decide, wu_644, rfl, by decide +kernel, t_Mo_ok, n_Mo⟩
theorem f_Mo_70 : ac_F "PairedGatesModel" 70 8 24 (.array .int) true := ⟨R_Mo, T_Mo, 31, t_Mo, rfl, i_Mo, by decide, wu_645, rfl, by decide +kernel, t_Mo_ok, n_Mo⟩
theorem f_Mo_73 : ac_F "PairedGatesModel" 73 8 25 (.array .int) true := ⟨R_Mo, T_Mo, 31, t_Mo, rfl, i_Mo, by decide, wu_646, rfl, by decide +kernel, t_Mo_ok, n_Mo⟩
theorem f_Mo_76 : ac_F "PairedGatesModel" 76 8 27 (.array .int) true := ⟨R_Mo, T_Mo, 31, t_Mo, rfl, i_Mo, by decide, wu_648, rfl, by decide +kernel, t_Mo_ok, n_Mo⟩
theorem f_Mo_79 : ac_F "PairedGatesModel" 79 8 28 (.array .int) true := ⟨R_Mo, T_Mo, 31, t_Mo, rfl, i_Mo, by decide, wu_649, rfl, by decide +kernel, t_Mo_ok, n_Mo⟩
theorem f_Mo_82 : ac_F "PairedGatesModel" 82 8 30 (.array .int) true := ⟨R_Mo, T_Mo, 31, t_Mo, rfl, i_Mo, by decide, wu_651, rfl, by decide +kernel, t_Mo_ok, n_Mo⟩
theorem f_Mo_85 : ac_F "PairedGatesModel" 85 8 0 (.int) false := ⟨R_Mo, T_Mo, 31, t_Mo, rfl, i_Mo, by decide, wu_621, rfl, by decide +kernel, t_Mo_ok, n_Mo⟩
theorem f_Mo_89 : ac_F "PairedGatesModel" 89 8 29 (.int) false := ⟨R_Mo, T_Mo, 31, t_Mo, rfl, i_Mo, by decide, wu_650, rfl, by decide +kernel, t_Mo_ok, n_Mo⟩
theorem f_Mo_92 : ac_F "PairedGatesModel" 92 8 20 (.int) false := ⟨R_Mo, T_Mo, 31, t_Mo, rfl, i_Mo, by decide, wu_641, rfl, by decide +kernel, t_Mo_ok, n_Mo⟩
theorem q_Mo_95 : ac_KV "PairedGatesModel" 95 m_Mo_giveBack 1 := ⟨⟨wu_38, by decide, by decide, by decide, by decide +kernel⟩, wu_742, wu_744, wu_16, wu_745⟩
theorem q_Mo_99 : ac_KV "PairedGatesModel" 99 m_Mo_meets 3 := ⟨⟨wu_38, by decide, by decide, by decide, by decide +kernel⟩, wu_754, wu_756, wu_19, wu_757⟩
theorem q_Mo_103 : ac_KV "PairedGatesModel" 103 m_Mo_leave 2 := ⟨⟨wu_38, by decide, by decide, by decide, by decide +kernel⟩, wu_758, wu_760, wu_20, wu_761⟩
theorem q_Mo_107 : ac_KV "PairedGatesModel" 107 m_Mo_copy 2 := ⟨⟨wu_38, by decide, by decide, by decide, by decide +kernel⟩, wu_762, wu_764, wu_21, wu_765⟩
theorem q_Mo_110 : ac_KV "PairedGatesModel" 110 m_Mo_begin 2 := ⟨⟨wu_38, by decide, by decide, by decide, by decide +kernel⟩, wu_770, wu_772, wu_23, wu_773⟩
theorem q_Mo_113 : ac_KV "PairedGatesModel" 113 m_Mo_takeOldest 1 := ⟨⟨wu_38, by decide, by decide, by decide, by decide +kernel⟩, wu_738, wu_740, wu_15, wu_741⟩
theorem f_Mo_117 : ac_F "PairedGatesModel" 117 8 2 (.boolean) false := ⟨R_Mo, T_Mo, 31, t_Mo, rfl, i_Mo, by decide, wu_623, rfl, by decide +kernel, t_Mo_ok, n_Mo⟩
theorem f_Mo_121 : ac_F "PairedGatesModel" 121 8 1 (.int) false := ⟨R_Mo, T_Mo, 31, t_Mo, rfl, i_Mo, by decide, wu_622, rfl, by decide +kernel, t_Mo_ok, n_Mo⟩
theorem q_Mo_124 : ac_KV "PairedGatesModel" 124 m_Mo_look 1 := ⟨⟨wu_38, by decide, by decide, by decide, by decide +kernel⟩, wu_746, wu_748, wu_17, wu_749⟩
theorem q_Mo_127 : ac_KV "PairedGatesModel" 127 m_Mo_goOn 1 := ⟨⟨wu_38, by decide, by decide, by decide, by decide +kernel⟩, wu_750, wu_752, wu_18, wu_753⟩
theorem q_Mo_130 : ac_KV "PairedGatesModel" 130 m_Mo_share 2 := ⟨⟨wu_38, by decide, by decide, by decide, by decide +kernel⟩, wu_766, wu_768, wu_22, wu_769⟩
theorem q_Mo_133 : ac_KV "PairedGatesModel" 133 m_Mo_pay 1 := ⟨⟨wu_38, by decide, by decide, by decide, by decide +kernel⟩, wu_774, wu_776, wu_24, wu_777⟩
theorem q_Mo_136 : ac_KV "PairedGatesModel" 136 m_Mo_turn 1 := ⟨⟨wu_38, by decide, by decide, by decide, by decide +kernel⟩, wu_778, wu_780, wu_25, wu_781⟩
theorem q_Mo_139 : ac_KS "PairedGatesModel" 139 m_Mo_isTwo 1 := ⟨⟨wu_38, by decide, by decide, by decide, by decide +kernel⟩, wu_723, wu_724, wu_725⟩
theorem q_Mo_143 : ac_KV "PairedGatesModel" 143 m_Mo_refused 1 := ⟨⟨wu_38, by decide, by decide, by decide, by decide +kernel⟩, wu_726, wu_728, wu_13, wu_729⟩
theorem q_Mo_146 : ac_KV "PairedGatesModel" 146 m_Mo_tick 1 := ⟨⟨wu_38, by decide, by decide, by decide, by decide +kernel⟩, wu_734, wu_736, wu_14, wu_737⟩
theorem f_Mo_149 : ac_F "PairedGatesModel" 149 8 26 (.int) false := ⟨R_Mo, T_Mo, 31, t_Mo, rfl, i_Mo, by decide, wu_647, rfl, by decide +kernel, t_Mo_ok, n_Mo⟩
theorem q_Mo_152 : ac_KV "PairedGatesModel" 152 m_Mo_hasSide 2 := ⟨⟨wu_38, by decide, by decide, by decide, by decide +kernel⟩, wu_786, wu_788, wu_26, wu_789⟩
theorem q_Mo_156 : ac_KV "PairedGatesModel" 156 m_Mo_isRepeated 1 := ⟨⟨wu_38, by decide, by decide, by decide, by decide +kernel⟩, wu_790, wu_792, wu_27, wu_793⟩
theorem oi_Blobs_3 : Cond.methodLink "PairedGates$Blobs" 3 Lib.objectInit ∈ ac_U := wu_86
theorem f_Blobs_9 : ac_F "PairedGates$Blobs" 9 0 0 (.array .int) true := ⟨R_Blobs, T_Blobs, 3, t_Blobs, rfl, i_Blobs, by decide, wu_87, rfl, by decide +kernel, t_Blobs_ok, n_Blobs⟩
theorem f_Blobs_15 : ac_F "PairedGates$Blobs" 15 0 1 (.array .int) true := ⟨R_Blobs, T_Blobs, 3, t_Blobs, rfl, i_Blobs, by decide, wu_89, rfl, by decide +kernel, t_Blobs_ok, n_Blobs⟩
theorem f_Blobs_18 : ac_F "PairedGates$Blobs" 18 0 2 (.int) false := ⟨R_Blobs, T_Blobs, 3, t_Blobs, rfl, i_Blobs, by decide, wu_91, rfl, by decide +kernel, t_Blobs_ok, n_Blobs⟩
theorem q_Blobs_22 : ac_KV "PairedGates$Blobs" 22 m_Blobs_addBeam 1 := ⟨⟨wu_32, by decide, by decide, by decide, by decide +kernel⟩, wu_398, wu_400, wu_2, wu_401⟩
theorem q_Blobs_26 : ac_KV "PairedGates$Blobs" 26 m_Blobs_isMetBy 2 := ⟨⟨wu_32, by decide, by decide, by decide, by decide +kernel⟩, wu_410, wu_411, wu_412, wu_413⟩
theorem f_Blobs_30 : ac_F "PairedGates$Blobs" 30 1 0 (.int) false := ⟨R_Body, T_Body, 5, t_Body, rfl, i_Body, by decide, wu_148, rfl, by decide +kernel, t_Body_ok, n_Body⟩
theorem f_Blobs_34 : ac_F "PairedGates$Blobs" 34 1 1 (.int) false := ⟨R_Body, T_Body, 5, t_Body, rfl, i_Body, by decide, wu_151, rfl, by decide +kernel, t_Body_ok, n_Body⟩
theorem oi_Body_3 : Cond.methodLink "PairedGates$Body" 3 Lib.objectInit ∈ ac_U := wu_146
theorem f_Body_9 : ac_F "PairedGates$Body" 9 1 0 (.int) false := ⟨R_Body, T_Body, 5, t_Body, rfl, i_Body, by decide, wu_147, rfl, by decide +kernel, t_Body_ok, n_Body⟩
theorem f_Body_15 : ac_F "PairedGates$Body" 15 1 1 (.int) false := ⟨R_Body, T_Body, 5, t_Body, rfl, i_Body, by decide, wu_150, rfl, by decide +kernel, t_Body_ok, n_Body⟩
theorem f_Body_18 : ac_F "PairedGates$Body" 18 1 2 (.int) false := ⟨R_Body, T_Body, 5, t_Body, rfl, i_Body, by decide, wu_153, rfl, by decide +kernel, t_Body_ok, n_Body⟩
theorem f_Body_21 : ac_F "PairedGates$Body" 21 1 3 (.int) false := ⟨R_Body, T_Body, 5, t_Body, rfl, i_Body, by decide, wu_156, rfl, by decide +kernel, t_Body_ok, n_Body⟩
theorem f_Body_24 : ac_F "PairedGates$Body" 24 1 4 (.int) false := ⟨R_Body, T_Body, 5, t_Body, rfl, i_Body, by decide, wu_159, rfl, by decide +kernel, t_Body_ok, n_Body⟩
theorem mx_Body_27 : Cond.methodLink "PairedGates$Body" 27 Lib.Math.max.name ∈ ac_U := wu_452
theorem q_Body_33 : ac_KV "PairedGates$Body" 33 m_Body_endsHigh 0 := ⟨⟨wu_36, by decide, by decide, by decide, by decide +kernel⟩, wu_422, wu_424, wu_5, wu_425⟩
theorem q_Body_37 : ac_KV "PairedGates$Body" 37 m_Body_startsLow 0 := ⟨⟨wu_36, by decide, by decide, by decide, by decide +kernel⟩, wu_426, wu_428, wu_6, wu_429⟩
theorem oi_Eye_3 : Cond.methodLink "PairedGates$Eye" 3 Lib.objectInit ∈ ac_U := wu_65
theorem f_Eye_9 : ac_F "PairedGates$Eye" 9 2 0 (.int) false := ⟨R_Eye, T_Eye, 4, t_Eye, rfl, i_Eye, by decide, wu_66, rfl, by decide +kernel, t_Eye_ok, n_Eye⟩
theorem f_Eye_15 : ac_F "PairedGates$Eye" 15 2 1 (.int) false := ⟨R_Eye, T_Eye, 4, t_Eye, rfl, i_Eye, by decide, wu_67, rfl, by decide +kernel, t_Eye_ok, n_Eye⟩
theorem f_Eye_18 : ac_F "PairedGates$Eye" 18 2 2 (.int) false := ⟨R_Eye, T_Eye, 4, t_Eye, rfl, i_Eye, by decide, wu_68, rfl, by decide +kernel, t_Eye_ok, n_Eye⟩
theorem f_Eye_21 : ac_F "PairedGates$Eye" 21 2 3 (.int) false := ⟨R_Eye, T_Eye, 4, t_Eye, rfl, i_Eye, by decide, wu_69, rfl, by decide +kernel, t_Eye_ok, n_Eye⟩
theorem oi_Lane_3 : Cond.methodLink "PairedGates$Lane" 3 Lib.objectInit ∈ ac_U := wu_59
theorem nw_Lane_9 : ac_N "PairedGates$Lane" 9 2 4 [.int 0, .int 0, .int 0, .int 0] := ⟨R_Eye, T_Eye, t_Eye, rfl, i_Eye, t_Eye_ok, wu_60, wu_61, wu_31, by decide +kernel, fun _ => rfl, by simp⟩
theorem q_Lane_11 : ac_KIN "PairedGates$Lane" 11 m_Eye_init 0 "PairedGates" := ⟨⟨wu_31, by decide, by decide, by decide, by decide +kernel⟩, by decide +kernel, wu_63, wu_64, rfl, rfl⟩
theorem f_Lane_12 : ac_F "PairedGates$Lane" 12 3 0 (.object "PairedGates$Eye") true := ⟨R_Lane, T_Lane, 10, t_Lane, rfl, i_Lane, by decide, wu_173, rfl, by decide +kernel, t_Lane_ok, n_Lane⟩
theorem nw_Lane_18 : ac_N "PairedGates$Lane" 18 0 3 [.null, .null, .int 0] := ⟨R_Blobs, T_Blobs, t_Blobs, rfl, i_Blobs, t_Blobs_ok, wu_81, wu_82, wu_32, by decide +kernel, fun _ => rfl, by simp⟩
theorem q_Lane_20 : ac_KIN "PairedGates$Lane" 20 m_Blobs_init 0 "PairedGates" := ⟨⟨wu_32, by decide, by decide, by decide, by decide +kernel⟩, by decide +kernel, wu_84, wu_85, rfl, rfl⟩
theorem f_Lane_21 : ac_F "PairedGates$Lane" 21 3 1 (.object "PairedGates$Blobs") true := ⟨R_Lane, T_Lane, 10, t_Lane, rfl, i_Lane, by decide, wu_175, rfl, by decide +kernel, t_Lane_ok, n_Lane⟩
theorem nw_Lane_25 : ac_N "PairedGates$Lane" 25 4 2 [.int 0, .int 0] := ⟨R_Pad, T_Pad, t_Pad, rfl, i_Pad, t_Pad_ok, wu_101, wu_102, wu_33, by decide +kernel, fun _ => rfl, by simp⟩
theorem q_Lane_27 : ac_KIN "PairedGates$Lane" 27 m_Pad_init 0 "PairedGates" := ⟨⟨wu_33, by decide, by decide, by decide, by decide +kernel⟩, by decide +kernel, wu_104, wu_105, rfl, rfl⟩
theorem f_Lane_28 : ac_F "PairedGates$Lane" 28 3 2 (.object "PairedGates$Paddles") true := ⟨R_Lane, T_Lane, 10, t_Lane, rfl, i_Lane, by decide, wu_176, rfl, by decide +kernel, t_Lane_ok, n_Lane⟩
theorem an_Lane_32 : Cond.classLink "PairedGates$Lane" 32 "PairedGates$TokenList" ∈ ac_U := wu_116
theorem nw_Lane_32 : ac_N "PairedGates$Lane" 32 6 3 [.null, .null, .int 0] := ⟨R_TL, T_TL, t_TL, rfl, i_TL, t_TL_ok, wu_116, wu_118, wu_34, by decide +kernel, fun _ => rfl, by simp⟩
theorem q_Lane_34 : ac_KI "PairedGates$Lane" 34 m_TL_init 1 := ⟨⟨wu_34, by decide, by decide, by decide, by decide +kernel⟩, wu_119, wu_120, wu_121, rfl, rfl⟩
theorem f_Lane_37 : ac_F "PairedGates$Lane" 37 3 3 (.array (.object "PairedGates$TokenList")) true := ⟨R_Lane, T_Lane, 10, t_Lane, rfl, i_Lane, by decide, wu_178, rfl, by decide +kernel, t_Lane_ok, n_Lane⟩
theorem f_Lane_41 : ac_F "PairedGates$Lane" 41 3 4 (.array .int) true := ⟨R_Lane, T_Lane, 10, t_Lane, rfl, i_Lane, by decide, wu_180, rfl, by decide +kernel, t_Lane_ok, n_Lane⟩
theorem f_Lane_45 : ac_F "PairedGates$Lane" 45 3 5 (.array .int) true := ⟨R_Lane, T_Lane, 10, t_Lane, rfl, i_Lane, by decide, wu_182, rfl, by decide +kernel, t_Lane_ok, n_Lane⟩
theorem f_Lane_48 : ac_F "PairedGates$Lane" 48 3 6 (.int) false := ⟨R_Lane, T_Lane, 10, t_Lane, rfl, i_Lane, by decide, wu_183, rfl, by decide +kernel, t_Lane_ok, n_Lane⟩
theorem f_Lane_52 : ac_F "PairedGates$Lane" 52 3 7 (.int) false := ⟨R_Lane, T_Lane, 10, t_Lane, rfl, i_Lane, by decide, wu_184, rfl, by decide +kernel, t_Lane_ok, n_Lane⟩
theorem q_Lane_55 : ac_KS "PairedGates$Lane" 55 m_Lane_newRow 0 := ⟨⟨wu_30, by decide, by decide, by decide, by decide +kernel⟩, wu_137, wu_138, wu_139⟩
theorem f_Lane_59 : ac_F "PairedGates$Lane" 59 3 8 (.array (.object "PairedGates$Body")) false := ⟨R_Lane, T_Lane, 10, t_Lane, rfl, i_Lane, by decide, wu_186, rfl, by decide +kernel, t_Lane_ok, n_Lane⟩
theorem f_Lane_63 : ac_F "PairedGates$Lane" 63 3 9 (.array (.object "PairedGates$Body")) false := ⟨R_Lane, T_Lane, 10, t_Lane, rfl, i_Lane, by decide, wu_188, rfl, by decide +kernel, t_Lane_ok, n_Lane⟩
theorem an_Lane_66 : Cond.classLink "PairedGates$Lane" 66 "PairedGates$Body" ∈ ac_U := wu_140
theorem nw_Lane_66 : ac_N "PairedGates$Lane" 66 1 5 [.int 0, .int 0, .int 0, .int 0, .int 0] := ⟨R_Body, T_Body, t_Body, rfl, i_Body, t_Body_ok, wu_140, wu_142, wu_36, by decide +kernel, fun _ => rfl, by simp⟩
theorem q_Lane_68 : ac_KIN "PairedGates$Lane" 68 m_Body_init 0 "PairedGates" := ⟨⟨wu_36, by decide, by decide, by decide, by decide +kernel⟩, by decide +kernel, wu_144, wu_145, rfl, rfl⟩
theorem q_Lane_69 : ac_KV "PairedGates$Lane" 69 m_Lane_takesSide 1 := ⟨⟨wu_30, by decide, by decide, by decide, by decide +kernel⟩, wu_545, wu_492, wu_493, wu_494⟩
theorem q_Lane_73 : ac_KV "PairedGates$Lane" 73 m_TL_refundAll 1 := ⟨⟨wu_34, by decide, by decide, by decide, by decide +kernel⟩, wu_546, wu_547, wu_548, wu_549⟩
theorem q_Lane_77 : ac_KV "PairedGates$Lane" 77 m_TL_refundExpired 2 := ⟨⟨wu_34, by decide, by decide, by decide, by decide +kernel⟩, wu_378, wu_379, wu_380, wu_381⟩
theorem q_Lane_81 : ac_KV "PairedGates$Lane" 81 m_Eye_take 0 := ⟨⟨wu_31, by decide, by decide, by decide, by decide +kernel⟩, wu_390, wu_391, wu_392, wu_393⟩
theorem f_Lane_84 : ac_F "PairedGates$Lane" 84 2 3 (.int) false := ⟨R_Eye, T_Eye, 4, t_Eye, rfl, i_Eye, by decide, wu_70, rfl, by decide +kernel, t_Eye_ok, n_Eye⟩
theorem q_Lane_87 : ac_KV "PairedGates$Lane" 87 m_Blobs_find 1 := ⟨⟨wu_32, by decide, by decide, by decide, by decide +kernel⟩, wu_394, wu_395, wu_396, wu_397⟩
theorem q_Lane_90 : ac_KV "PairedGates$Lane" 90 m_Lane_sendBodies 1 := ⟨⟨wu_30, by decide, by decide, by decide, by decide +kernel⟩, wu_402, wu_404, wu_3, wu_405⟩
theorem q_Lane_93 : ac_KV "PairedGates$Lane" 93 m_Lane_renewRow 1 := ⟨⟨wu_30, by decide, by decide, by decide, by decide +kernel⟩, wu_435, wu_437, wu_7, wu_438⟩
theorem q_Lane_96 : ac_KV "PairedGates$Lane" 96 m_Lane_handOutTokens 0 := ⟨⟨wu_30, by decide, by decide, by decide, by decide +kernel⟩, wu_462, wu_464, wu_11, wu_465⟩
theorem q_Lane_99 : ac_KV "PairedGates$Lane" 99 m_Lane_someBodyHasToken 0 := ⟨⟨wu_30, by decide, by decide, by decide, by decide +kernel⟩, wu_471, wu_473, wu_12, wu_474⟩
theorem q_Lane_103 : ac_KV "PairedGates$Lane" 103 m_Pad_move 2 := ⟨⟨wu_33, by decide, by decide, by decide, by decide +kernel⟩, wu_475, wu_476, wu_477, wu_478⟩
theorem q_Lane_107 : ac_KV "PairedGates$Lane" 107 m_Blobs_firstMetBy 1 := ⟨⟨wu_32, by decide, by decide, by decide, by decide +kernel⟩, wu_406, wu_407, wu_408, wu_409⟩
theorem q_Lane_111 : ac_KV "PairedGates$Lane" 111 m_Lane_countLeaver 2 := ⟨⟨wu_30, by decide, by decide, by decide, by decide +kernel⟩, wu_414, wu_416, wu_4, wu_417⟩
theorem f_Lane_115 : ac_F "PairedGates$Lane" 115 1 3 (.int) false := ⟨R_Body, T_Body, 5, t_Body, rfl, i_Body, by decide, wu_157, rfl, by decide +kernel, t_Body_ok, n_Body⟩
theorem q_Lane_118 : ac_KV "PairedGates$Lane" 118 m_Body_isThrough 0 := ⟨⟨wu_36, by decide, by decide, by decide, by decide +kernel⟩, wu_418, wu_419, wu_420, wu_421⟩
theorem f_Lane_121 : ac_F "PairedGates$Lane" 121 1 4 (.int) false := ⟨R_Body, T_Body, 5, t_Body, rfl, i_Body, by decide, wu_160, rfl, by decide +kernel, t_Body_ok, n_Body⟩
theorem q_Lane_124 : ac_KV "PairedGates$Lane" 124 m_Body_isTurned 0 := ⟨⟨wu_36, by decide, by decide, by decide, by decide +kernel⟩, wu_430, wu_431, wu_432, wu_433⟩
theorem q_Lane_127 : ac_KV "PairedGates$Lane" 127 m_Rf_add 1 := ⟨⟨wu_37, by decide, by decide, by decide, by decide +kernel⟩, wu_434, wu_387, wu_388, wu_389⟩
theorem f_Lane_132 : ac_F "PairedGates$Lane" 132 0 2 (.int) false := ⟨R_Blobs, T_Blobs, 3, t_Blobs, rfl, i_Blobs, by decide, wu_92, rfl, by decide +kernel, t_Blobs_ok, n_Blobs⟩
theorem q_Lane_133 : ac_KV "PairedGates$Lane" 133 m_Lane_sharersOf 1 := ⟨⟨wu_30, by decide, by decide, by decide, by decide +kernel⟩, wu_439, wu_441, wu_8, wu_442⟩
theorem q_Lane_137 : ac_KV "PairedGates$Lane" 137 m_Lane_shareBlob 3 := ⟨⟨wu_30, by decide, by decide, by decide, by decide +kernel⟩, wu_443, wu_445, wu_9, wu_446⟩
theorem f_Lane_141 : ac_F "PairedGates$Lane" 141 0 0 (.array .int) true := ⟨R_Blobs, T_Blobs, 3, t_Blobs, rfl, i_Blobs, by decide, wu_88, rfl, by decide +kernel, t_Blobs_ok, n_Blobs⟩
theorem f_Lane_144 : ac_F "PairedGates$Lane" 144 0 1 (.array .int) true := ⟨R_Blobs, T_Blobs, 3, t_Blobs, rfl, i_Blobs, by decide, wu_90, rfl, by decide +kernel, t_Blobs_ok, n_Blobs⟩
theorem q_Lane_147 : ac_KV "PairedGates$Lane" 147 m_Lane_sideFor 1 := ⟨⟨wu_30, by decide, by decide, by decide, by decide +kernel⟩, wu_453, wu_455, wu_10, wu_456⟩
theorem q_Lane_150 : ac_KV "PairedGates$Lane" 150 m_Body_enter 3 := ⟨⟨wu_36, by decide, by decide, by decide, by decide +kernel⟩, wu_458, wu_459, wu_460, wu_461⟩
theorem mx_Lane_154 : Cond.methodLink "PairedGates$Lane" 154 Lib.Math.max.name ∈ ac_U := wu_447
theorem q_Lane_160 : ac_KV "PairedGates$Lane" 160 m_Body_follow 3 := ⟨⟨wu_36, by decide, by decide, by decide, by decide +kernel⟩, wu_448, wu_449, wu_450, wu_451⟩
theorem q_Lane_164 : ac_KV "PairedGates$Lane" 164 m_Blobs_isMetBy 2 := ⟨⟨wu_32, by decide, by decide, by decide, by decide +kernel⟩, wu_457, wu_411, wu_412, wu_413⟩
theorem f_Lane_168 : ac_F "PairedGates$Lane" 168 1 2 (.int) false := ⟨R_Body, T_Body, 5, t_Body, rfl, i_Body, by decide, wu_155, rfl, by decide +kernel, t_Body_ok, n_Body⟩
theorem q_Lane_171 : ac_KV "PairedGates$Lane" 171 m_Body_hasReachedPaddles 0 := ⟨⟨wu_36, by decide, by decide, by decide, by decide +kernel⟩, wu_466, wu_467, wu_468, wu_469⟩
theorem q_Lane_174 : ac_KV "PairedGates$Lane" 174 m_TL_removeOldest 0 := ⟨⟨wu_34, by decide, by decide, by decide, by decide +kernel⟩, wu_470, wu_383, wu_384, wu_385⟩
theorem oi_Pad_3 : Cond.methodLink "PairedGates$Paddles" 3 Lib.objectInit ∈ ac_U := wu_106
theorem f_Pad_9 : ac_F "PairedGates$Paddles" 9 4 0 (.int) false := ⟨R_Pad, T_Pad, 2, t_Pad, rfl, i_Pad, by decide, wu_107, rfl, by decide +kernel, t_Pad_ok, n_Pad⟩
theorem f_Pad_15 : ac_F "PairedGates$Paddles" 15 4 1 (.int) false := ⟨R_Pad, T_Pad, 2, t_Pad, rfl, i_Pad, by decide, wu_109, rfl, by decide +kernel, t_Pad_ok, n_Pad⟩
theorem oi_Rf_3 : Cond.methodLink "PairedGates$Refunds" 3 Lib.objectInit ∈ ac_U := wu_217
theorem f_Rf_9 : ac_F "PairedGates$Refunds" 9 5 0 (.array .int) true := ⟨R_Rf, T_Rf, 2, t_Rf, rfl, i_Rf, by decide, wu_218, rfl, by decide +kernel, t_Rf_ok, n_Rf⟩
theorem f_Rf_15 : ac_F "PairedGates$Refunds" 15 5 1 (.int) false := ⟨R_Rf, T_Rf, 2, t_Rf, rfl, i_Rf, by decide, wu_219, rfl, by decide +kernel, t_Rf_ok, n_Rf⟩
theorem oi_TL_3 : Cond.methodLink "PairedGates$TokenList" 3 Lib.objectInit ∈ ac_U := wu_122
theorem f_TL_9 : ac_F "PairedGates$TokenList" 9 6 2 (.int) false := ⟨R_TL, T_TL, 3, t_TL, rfl, i_TL, by decide, wu_128, rfl, by decide +kernel, t_TL_ok, n_TL⟩
theorem mx_TL_15 : Cond.methodLink "PairedGates$TokenList" 15 Lib.Math.max.name ∈ ac_U := wu_123
theorem f_TL_21 : ac_F "PairedGates$TokenList" 21 6 0 (.array .int) true := ⟨R_TL, T_TL, 3, t_TL, rfl, i_TL, by decide, wu_126, rfl, by decide +kernel, t_TL_ok, n_TL⟩
theorem f_TL_25 : ac_F "PairedGates$TokenList" 25 6 1 (.array .int) true := ⟨R_TL, T_TL, 3, t_TL, rfl, i_TL, by decide, wu_127, rfl, by decide +kernel, t_TL_ok, n_TL⟩
theorem q_TL_28 : ac_KV "PairedGates$TokenList" 28 m_TL_removeOldest 0 := ⟨⟨wu_34, by decide, by decide, by decide, by decide +kernel⟩, wu_382, wu_383, wu_384, wu_385⟩
theorem q_TL_32 : ac_KV "PairedGates$TokenList" 32 m_Rf_add 1 := ⟨⟨wu_37, by decide, by decide, by decide, by decide +kernel⟩, wu_386, wu_387, wu_388, wu_389⟩
theorem q_La_7 : ac_KV "PairedGatesLaw" 7 m_PG_beams 2 := ⟨⟨wu_29, by decide, by decide, by decide, by decide +kernel⟩, wu_270, wu_271, wu_272, wu_273⟩
theorem q_La_15 : ac_KV "PairedGatesLaw" 15 m_PG_ticks 1 := ⟨⟨wu_29, by decide, by decide, by decide, by decide +kernel⟩, wu_354, wu_355, wu_356, wu_357⟩
theorem q_La_21 : ac_KV "PairedGatesLaw" 21 m_PG_token 3 := ⟨⟨wu_29, by decide, by decide, by decide, by decide +kernel⟩, wu_482, wu_483, wu_484, wu_485⟩
theorem q_La_25 : ac_KV "PairedGatesLaw" 25 m_PG_cancel 2 := ⟨⟨wu_29, by decide, by decide, by decide, by decide +kernel⟩, wu_510, wu_511, wu_512, wu_513⟩
theorem q_La_29 : ac_KV "PairedGatesLaw" 29 m_PG_mode 2 := ⟨⟨wu_29, by decide, by decide, by decide, by decide +kernel⟩, wu_520, wu_521, wu_522, wu_523⟩
theorem q_La_34 : ac_KV "PairedGatesLaw" 34 m_PG_bodies 1 := ⟨⟨wu_29, by decide, by decide, by decide, by decide +kernel⟩, wu_553, wu_554, wu_555, wu_556⟩
theorem q_La_37 : ac_KV "PairedGatesLaw" 37 m_PG_body 3 := ⟨⟨wu_29, by decide, by decide, by decide, by decide +kernel⟩, wu_560, wu_561, wu_562, wu_563⟩
theorem q_La_40 : ac_KV "PairedGatesLaw" 40 m_PG_waiting 2 := ⟨⟨wu_29, by decide, by decide, by decide, by decide +kernel⟩, wu_572, wu_573, wu_574, wu_575⟩
theorem q_La_43 : ac_KV "PairedGatesLaw" 43 m_PG_waits 3 := ⟨⟨wu_29, by decide, by decide, by decide, by decide +kernel⟩, wu_579, wu_580, wu_581, wu_582⟩
theorem q_La_46 : ac_KV "PairedGatesLaw" 46 m_PG_count 2 := ⟨⟨wu_29, by decide, by decide, by decide, by decide +kernel⟩, wu_590, wu_591, wu_592, wu_593⟩
theorem q_La_49 : ac_KV "PairedGatesLaw" 49 m_PG_angle 1 := ⟨⟨wu_29, by decide, by decide, by decide, by decide +kernel⟩, wu_597, wu_598, wu_599, wu_600⟩
theorem q_La_52 : ac_KV "PairedGatesLaw" 52 m_PG_order 1 := ⟨⟨wu_29, by decide, by decide, by decide, by decide +kernel⟩, wu_604, wu_605, wu_606, wu_607⟩
theorem q_La_55 : ac_KV "PairedGatesLaw" 55 m_PG_seen 1 := ⟨⟨wu_29, by decide, by decide, by decide, by decide +kernel⟩, wu_611, wu_612, wu_613, wu_614⟩
theorem nw_La_8 : ac_N "PairedGatesLaw" 8 7 5 [.null, .null, .null, .int 0, .int 0] := ⟨R_PG, T_PG, t_PG, rfl, i_PG, t_PG_ok, wu_45, wu_46, wu_29, by decide +kernel, fun _ => rfl, by simp⟩
theorem q_La_58 : ac_KI "PairedGatesLaw" 58 m_PG_init 0 := ⟨⟨wu_29, by decide, by decide, by decide, by decide +kernel⟩, wu_47, wu_48, wu_49, rfl, rfl⟩
theorem nw_La_59 : ac_N "PairedGatesLaw" 59 8 31 [.int 0, .int 0, .int 0, .null, .null, .null, .null, .null, .null, .null, .null, .null, .null, .null, .null, .null, .null, .null, .null, .null, .int 0, .null, .null, .null, .null, .null, .int 0, .null, .null, .int 0, .null] := ⟨R_Mo, T_Mo, t_Mo, rfl, i_Mo, t_Mo_ok, wu_615, wu_616, wu_38, by decide +kernel, fun _ => rfl, by simp⟩
theorem q_La_61 : ac_KI "PairedGatesLaw" 61 m_Mo_init 0 := ⟨⟨wu_38, by decide, by decide, by decide, by decide +kernel⟩, wu_617, wu_618, wu_619, rfl, rfl⟩
theorem q_La_62 : ac_KSW "PairedGatesLaw" 62 m_La_beams 3 := ⟨⟨wu_28, by decide, by decide, by decide, by decide +kernel⟩, wu_266, wu_267, wu_268⟩
theorem q_La_67 : ac_KV "PairedGatesLaw" 67 m_Mo_beams 2 := ⟨⟨wu_38, by decide, by decide, by decide, by decide +kernel⟩, wu_719, wu_720, wu_721, wu_722⟩
theorem q_La_68 : ac_KV "PairedGatesLaw" 68 m_Mo_thrown 0 := ⟨⟨wu_38, by decide, by decide, by decide, by decide +kernel⟩, wu_715, wu_716, wu_717, wu_718⟩
theorem q_La_72 : ac_KSW "PairedGatesLaw" 72 m_La_ticks 3 := ⟨⟨wu_28, by decide, by decide, by decide, by decide +kernel⟩, wu_350, wu_351, wu_352⟩
theorem q_La_75 : ac_KV "PairedGatesLaw" 75 m_Mo_ticks 1 := ⟨⟨wu_38, by decide, by decide, by decide, by decide +kernel⟩, wu_730, wu_731, wu_732, wu_733⟩
theorem q_La_76 : ac_KSW "PairedGatesLaw" 76 m_La_token 5 := ⟨⟨wu_28, by decide, by decide, by decide, by decide +kernel⟩, wu_479, wu_480, wu_481⟩
theorem q_La_79 : ac_KV "PairedGatesLaw" 79 m_Mo_token 3 := ⟨⟨wu_38, by decide, by decide, by decide, by decide +kernel⟩, wu_782, wu_783, wu_784, wu_785⟩
theorem q_La_80 : ac_KSW "PairedGatesLaw" 80 m_La_cancel 4 := ⟨⟨wu_28, by decide, by decide, by decide, by decide +kernel⟩, wu_507, wu_508, wu_509⟩
theorem q_La_83 : ac_KV "PairedGatesLaw" 83 m_Mo_cancel 2 := ⟨⟨wu_38, by decide, by decide, by decide, by decide +kernel⟩, wu_794, wu_795, wu_796, wu_797⟩
theorem q_La_84 : ac_KSW "PairedGatesLaw" 84 m_La_mode 4 := ⟨⟨wu_28, by decide, by decide, by decide, by decide +kernel⟩, wu_516, wu_517, wu_518⟩
theorem q_La_86 : ac_KV "PairedGatesLaw" 86 m_Mo_mode 2 := ⟨⟨wu_38, by decide, by decide, by decide, by decide +kernel⟩, wu_798, wu_799, wu_800, wu_801⟩
theorem q_La_87 : ac_KV "PairedGatesLaw" 87 m_PG_alarm 1 := ⟨⟨wu_29, by decide, by decide, by decide, by decide +kernel⟩, wu_242, wu_243, wu_244, wu_245⟩
theorem q_La_91 : ac_KV "PairedGatesLaw" 91 m_Mo_alarm 1 := ⟨⟨wu_38, by decide, by decide, by decide, by decide +kernel⟩, wu_802, wu_803, wu_804, wu_805⟩
theorem q_La_92 : ac_KV "PairedGatesLaw" 92 m_PG_time 0 := ⟨⟨wu_29, by decide, by decide, by decide, by decide +kernel⟩, wu_246, wu_247, wu_248, wu_249⟩
theorem q_La_95 : ac_KV "PairedGatesLaw" 95 m_Mo_time 0 := ⟨⟨wu_38, by decide, by decide, by decide, by decide +kernel⟩, wu_806, wu_807, wu_808, wu_809⟩
theorem q_La_96 : ac_KSW "PairedGatesLaw" 96 m_La_bodies 3 := ⟨⟨wu_28, by decide, by decide, by decide, by decide +kernel⟩, wu_550, wu_551, wu_552⟩
theorem q_La_98 : ac_KV "PairedGatesLaw" 98 m_Mo_bodies 1 := ⟨⟨wu_38, by decide, by decide, by decide, by decide +kernel⟩, wu_810, wu_811, wu_812, wu_813⟩
theorem q_La_99 : ac_KSW "PairedGatesLaw" 99 m_La_body 5 := ⟨⟨wu_28, by decide, by decide, by decide, by decide +kernel⟩, wu_557, wu_558, wu_559⟩
theorem q_La_101 : ac_KV "PairedGatesLaw" 101 m_Mo_body 3 := ⟨⟨wu_38, by decide, by decide, by decide, by decide +kernel⟩, wu_814, wu_815, wu_816, wu_817⟩
theorem q_La_102 : ac_KSW "PairedGatesLaw" 102 m_La_waiting 4 := ⟨⟨wu_28, by decide, by decide, by decide, by decide +kernel⟩, wu_569, wu_570, wu_571⟩
theorem q_La_104 : ac_KV "PairedGatesLaw" 104 m_Mo_waiting 2 := ⟨⟨wu_38, by decide, by decide, by decide, by decide +kernel⟩, wu_818, wu_819, wu_820, wu_821⟩
theorem q_La_105 : ac_KSW "PairedGatesLaw" 105 m_La_waits 5 := ⟨⟨wu_28, by decide, by decide, by decide, by decide +kernel⟩, wu_576, wu_577, wu_578⟩
theorem q_La_107 : ac_KV "PairedGatesLaw" 107 m_Mo_waits 3 := ⟨⟨wu_38, by decide, by decide, by decide, by decide +kernel⟩, wu_822, wu_823, wu_824, wu_825⟩
theorem q_La_108 : ac_KSW "PairedGatesLaw" 108 m_La_count 4 := ⟨⟨wu_28, by decide, by decide, by decide, by decide +kernel⟩, wu_587, wu_588, wu_589⟩
theorem q_La_110 : ac_KV "PairedGatesLaw" 110 m_Mo_count 2 := ⟨⟨wu_38, by decide, by decide, by decide, by decide +kernel⟩, wu_826, wu_827, wu_828, wu_829⟩
theorem q_La_111 : ac_KSW "PairedGatesLaw" 111 m_La_angle 3 := ⟨⟨wu_28, by decide, by decide, by decide, by decide +kernel⟩, wu_594, wu_595, wu_596⟩
theorem q_La_113 : ac_KV "PairedGatesLaw" 113 m_Mo_angle 1 := ⟨⟨wu_38, by decide, by decide, by decide, by decide +kernel⟩, wu_830, wu_831, wu_832, wu_833⟩
theorem q_La_114 : ac_KSW "PairedGatesLaw" 114 m_La_order 3 := ⟨⟨wu_28, by decide, by decide, by decide, by decide +kernel⟩, wu_601, wu_602, wu_603⟩
theorem q_La_116 : ac_KV "PairedGatesLaw" 116 m_Mo_order 1 := ⟨⟨wu_38, by decide, by decide, by decide, by decide +kernel⟩, wu_834, wu_835, wu_836, wu_837⟩
theorem q_La_117 : ac_KSW "PairedGatesLaw" 117 m_La_seen 3 := ⟨⟨wu_28, by decide, by decide, by decide, by decide +kernel⟩, wu_608, wu_609, wu_610⟩
theorem q_La_119 : ac_KV "PairedGatesLaw" 119 m_Mo_seen 1 := ⟨⟨wu_38, by decide, by decide, by decide, by decide +kernel⟩, wu_838, wu_839, wu_840, wu_841⟩
theorem q_La_120 : ac_KV "PairedGatesLaw" 120 m_PG_accepted 0 := ⟨⟨wu_29, by decide, by decide, by decide, by decide +kernel⟩, wu_250, wu_251, wu_252, wu_253⟩
theorem q_La_123 : ac_KV "PairedGatesLaw" 123 m_Mo_accepted 0 := ⟨⟨wu_38, by decide, by decide, by decide, by decide +kernel⟩, wu_842, wu_843, wu_844, wu_845⟩
theorem q_La_124 : ac_KV "PairedGatesLaw" 124 m_PG_refunds 0 := ⟨⟨wu_29, by decide, by decide, by decide, by decide +kernel⟩, wu_254, wu_255, wu_256, wu_257⟩
theorem q_La_127 : ac_KV "PairedGatesLaw" 127 m_Mo_refunds 0 := ⟨⟨wu_38, by decide, by decide, by decide, by decide +kernel⟩, wu_846, wu_847, wu_848, wu_849⟩
theorem q_La_128 : ac_KV "PairedGatesLaw" 128 m_PG_refund 1 := ⟨⟨wu_29, by decide, by decide, by decide, by decide +kernel⟩, wu_258, wu_259, wu_260, wu_261⟩
theorem q_La_131 : ac_KV "PairedGatesLaw" 131 m_Mo_refund 1 := ⟨⟨wu_38, by decide, by decide, by decide, by decide +kernel⟩, wu_850, wu_851, wu_852, wu_853⟩
theorem oi_1 : Cond.instanceMethod Lib.objectInit ∈ ac_U := wu_51
theorem oi_2 : Cond.code Lib.objectInit ⟨#[0xb1]⟩ 1 none ∈ ac_U := wu_52
theorem mx_1 : Cond.static Lib.Math.max.name ∈ ac_U := wu_124
theorem mx_2 : Cond.initialized "java/lang/Math" ∈ ac_U := wu_35
theorem mx_3 : Cond.code Lib.Math.max.name Lib.Math.max.code 2 (some .int) ∈ ac_U := wu_125
theorem ar_I : Cond.arrayClass .int ∈ ac_U := wu_100
theorem ar_L : Cond.arrayClass .long ∈ ac_U := wu_854
theorem ei_IndexOutOfBoundsException : Cond.initialized "java/lang/IndexOutOfBoundsException" ∈ ac_U := wu_42
theorem el_La_13 : Cond.classLink "PairedGatesLaw" 13 "java/lang/IndexOutOfBoundsException" ∈ ac_U := wu_269
theorem el_PG_155 : Cond.classLink "PairedGates" 155 "java/lang/IndexOutOfBoundsException" ∈ ac_U := wu_278
theorem ei_IllegalArgumentException : Cond.initialized "java/lang/IllegalArgumentException" ∈ ac_U := wu_43
theorem el_La_19 : Cond.classLink "PairedGatesLaw" 19 "java/lang/IllegalArgumentException" ∈ ac_U := wu_353
theorem el_PG_53 : Cond.classLink "PairedGates" 53 "java/lang/IllegalArgumentException" ∈ ac_U := wu_358
theorem ei_IllegalStateException : Cond.initialized "java/lang/IllegalStateException" ∈ ac_U := wu_44
theorem el_La_32 : Cond.classLink "PairedGatesLaw" 32 "java/lang/IllegalStateException" ∈ ac_U := wu_519
theorem el_PG_98 : Cond.classLink "PairedGates" 98 "java/lang/IllegalStateException" ∈ ac_U := wu_525
