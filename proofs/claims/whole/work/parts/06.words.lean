/-! the words of fields and methods -/
theorem in_0 : ∀ w ∈ u_ws RX0 TX0 4, w ∈ tb := by decide +kernel
theorem in_1 : ∀ w ∈ u_ws RX1 TX1 5, w ∈ tb := by decide +kernel
theorem in_2 : ∀ w ∈ u_ws RX2 TX2 7, w ∈ tb := by decide +kernel
theorem in_3 : ∀ w ∈ u_ws RX3 TX3 3, w ∈ tb := by decide +kernel
theorem in_4 : ∀ w ∈ u_ws RX4 TX4 4, w ∈ tb := by decide +kernel
theorem in_5 : ∀ w ∈ u_ws RX5 TX5 4, w ∈ tb := by decide +kernel
theorem in_6 : ∀ w ∈ u_ws RX6 TX6 5, w ∈ tb := by decide +kernel
theorem in_7 : ∀ w ∈ u_ws RX7 TX7 4, w ∈ tb := by decide +kernel
theorem in_8 : ∀ w ∈ u_ws RX8 TX8 6, w ∈ tb := by decide +kernel
theorem in_9 : ∀ w ∈ u_ws RX9 TX9 5, w ∈ tb := by decide +kernel
theorem in_10 : ∀ w ∈ u_ws RX10 TX10 6, w ∈ tb := by decide +kernel
theorem in_11 : ∀ w ∈ u_ws RX11 TX11 13, w ∈ tb := by decide +kernel
theorem in_12 : ∀ w ∈ u_ws RX12 TX12 34, w ∈ tb := by decide +kernel
theorem fl_X9_9 : FL RX9 9 9 0 := ⟨RX9, TX9, 5, rfl, by decide, tw_31, in_9⟩
theorem fl_X9_15 : FL RX9 15 9 1 := ⟨RX9, TX9, 5, rfl, by decide, tw_32, in_9⟩
theorem fp_X9_15 : FP RX9 15 9 1 .int := ⟨RX9, TX9, 5, tyX9, rfl, by decide, tw_32, in_9, tyX9_ok, nmX9, rfl, by decide +kernel⟩
theorem fl_X11_90 : FL RX11 90 9 1 := ⟨RX9, TX9, 5, rfl, by decide, tw_33, in_9⟩
theorem fp_X11_90 : FP RX11 90 9 1 .int := ⟨RX9, TX9, 5, tyX9, rfl, by decide, tw_33, in_9, tyX9_ok, nmX9, rfl, by decide +kernel⟩
theorem fl_X9_19 : FL RX9 19 9 2 := ⟨RX9, TX9, 5, rfl, by decide, tw_34, in_9⟩
theorem fp_X9_19 : FP RX9 19 9 2 .int := ⟨RX9, TX9, 5, tyX9, rfl, by decide, tw_34, in_9, tyX9_ok, nmX9, rfl, by decide +kernel⟩
theorem fl_X9_22 : FL RX9 22 9 3 := ⟨RX9, TX9, 5, rfl, by decide, tw_35, in_9⟩
theorem fp_X9_22 : FP RX9 22 9 3 .int := ⟨RX9, TX9, 5, tyX9, rfl, by decide, tw_35, in_9, tyX9_ok, nmX9, rfl, by decide +kernel⟩
theorem fl_X9_25 : FL RX9 25 9 4 := ⟨RX9, TX9, 5, rfl, by decide, tw_36, in_9⟩
theorem fp_X9_25 : FP RX9 25 9 4 .int := ⟨RX9, TX9, 5, tyX9, rfl, by decide, tw_36, in_9, tyX9_ok, nmX9, rfl, by decide +kernel⟩
theorem fl_X11_102 : FL RX11 102 9 4 := ⟨RX9, TX9, 5, rfl, by decide, tw_37, in_9⟩
theorem fp_X11_102 : FP RX11 102 9 4 .int := ⟨RX9, TX9, 5, tyX9, rfl, by decide, tw_37, in_9, tyX9_ok, nmX9, rfl, by decide +kernel⟩
theorem fl_X2_9 : FL RX2 9 2 0 := ⟨RX2, TX2, 7, rfl, by decide, tw_62, in_2⟩
theorem fl_X7_35 : FL RX7 35 2 0 := ⟨RX2, TX2, 7, rfl, by decide, tw_63, in_2⟩
theorem fl_X11_173 : FL RX11 173 2 0 := ⟨RX2, TX2, 7, rfl, by decide, tw_64, in_2⟩
theorem fl_X2_15 : FL RX2 15 2 1 := ⟨RX2, TX2, 7, rfl, by decide, tw_65, in_2⟩
theorem fl_X11_177 : FL RX11 177 2 1 := ⟨RX2, TX2, 7, rfl, by decide, tw_66, in_2⟩
theorem fl_X2_18 : FL RX2 18 2 2 := ⟨RX2, TX2, 7, rfl, by decide, tw_67, in_2⟩
theorem fl_X11_180 : FL RX11 180 2 2 := ⟨RX2, TX2, 7, rfl, by decide, tw_68, in_2⟩
theorem fl_X2_21 : FL RX2 21 2 3 := ⟨RX2, TX2, 7, rfl, by decide, tw_69, in_2⟩
theorem fl_X7_38 : FL RX7 38 2 3 := ⟨RX2, TX2, 7, rfl, by decide, tw_70, in_2⟩
theorem fl_X11_183 : FL RX11 183 2 3 := ⟨RX2, TX2, 7, rfl, by decide, tw_71, in_2⟩
theorem fl_X2_24 : FL RX2 24 2 4 := ⟨RX2, TX2, 7, rfl, by decide, tw_72, in_2⟩
theorem fl_X2_28 : FL RX2 28 2 5 := ⟨RX2, TX2, 7, rfl, by decide, tw_73, in_2⟩
theorem fp_X2_28 : FP RX2 28 2 5 .int := ⟨RX2, TX2, 7, tyX2, rfl, by decide, tw_73, in_2, tyX2_ok, nmX2, rfl, by decide +kernel⟩
theorem fl_X8_45 : FL RX8 45 2 5 := ⟨RX2, TX2, 7, rfl, by decide, tw_74, in_2⟩
theorem fp_X8_45 : FP RX8 45 2 5 .int := ⟨RX2, TX2, 7, tyX2, rfl, by decide, tw_74, in_2, tyX2_ok, nmX2, rfl, by decide +kernel⟩
theorem fl_X3_52 : FL RX3 52 2 5 := ⟨RX2, TX2, 7, rfl, by decide, tw_75, in_2⟩
theorem fp_X3_52 : FP RX3 52 2 5 .int := ⟨RX2, TX2, 7, tyX2, rfl, by decide, tw_75, in_2, tyX2_ok, nmX2, rfl, by decide +kernel⟩
theorem fl_X11_125 : FL RX11 125 2 5 := ⟨RX2, TX2, 7, rfl, by decide, tw_76, in_2⟩
theorem fp_X11_125 : FP RX11 125 2 5 .int := ⟨RX2, TX2, 7, tyX2, rfl, by decide, tw_76, in_2, tyX2_ok, nmX2, rfl, by decide +kernel⟩
theorem fl_X9_59 : FL RX9 59 2 5 := ⟨RX2, TX2, 7, rfl, by decide, tw_77, in_2⟩
theorem fp_X9_59 : FP RX9 59 2 5 .int := ⟨RX2, TX2, 7, tyX2, rfl, by decide, tw_77, in_2, tyX2_ok, nmX2, rfl, by decide +kernel⟩
theorem fl_X2_32 : FL RX2 32 2 6 := ⟨RX2, TX2, 7, rfl, by decide, tw_78, in_2⟩
theorem fp_X2_32 : FP RX2 32 2 6 .int := ⟨RX2, TX2, 7, tyX2, rfl, by decide, tw_78, in_2, tyX2_ok, nmX2, rfl, by decide +kernel⟩
theorem fl_X11_150 : FL RX11 150 2 6 := ⟨RX2, TX2, 7, rfl, by decide, tw_79, in_2⟩
theorem fp_X11_150 : FP RX11 150 2 6 .int := ⟨RX2, TX2, 7, tyX2, rfl, by decide, tw_79, in_2, tyX2_ok, nmX2, rfl, by decide +kernel⟩
theorem fl_X6_9 : FL RX6 9 6 0 := ⟨RX6, TX6, 5, rfl, by decide, tw_102, in_6⟩
theorem fl_X11_207 : FL RX11 207 6 0 := ⟨RX6, TX6, 5, rfl, by decide, tw_103, in_6⟩
theorem fl_X6_15 : FL RX6 15 6 1 := ⟨RX6, TX6, 5, rfl, by decide, tw_104, in_6⟩
theorem fl_X11_210 : FL RX11 210 6 1 := ⟨RX6, TX6, 5, rfl, by decide, tw_105, in_6⟩
theorem fl_X6_18 : FL RX6 18 6 2 := ⟨RX6, TX6, 5, rfl, by decide, tw_106, in_6⟩
theorem fl_X11_211 : FL RX11 211 6 2 := ⟨RX6, TX6, 5, rfl, by decide, tw_107, in_6⟩
theorem fl_X6_21 : FL RX6 21 6 3 := ⟨RX6, TX6, 5, rfl, by decide, tw_108, in_6⟩
theorem fl_X11_214 : FL RX11 214 6 3 := ⟨RX6, TX6, 5, rfl, by decide, tw_109, in_6⟩
theorem fl_X6_24 : FL RX6 24 6 4 := ⟨RX6, TX6, 5, rfl, by decide, tw_110, in_6⟩
theorem fp_X6_24 : FP RX6 24 6 4 .int := ⟨RX6, TX6, 5, tyX6, rfl, by decide, tw_110, in_6, tyX6_ok, nmX6, rfl, by decide +kernel⟩
theorem fl_X8_42 : FL RX8 42 6 4 := ⟨RX6, TX6, 5, rfl, by decide, tw_111, in_6⟩
theorem fp_X8_42 : FP RX8 42 6 4 .int := ⟨RX6, TX6, 5, tyX6, rfl, by decide, tw_111, in_6, tyX6_ok, nmX6, rfl, by decide +kernel⟩
theorem fl_X11_135 : FL RX11 135 6 4 := ⟨RX6, TX6, 5, rfl, by decide, tw_112, in_6⟩
theorem fp_X11_135 : FP RX11 135 6 4 .int := ⟨RX6, TX6, 5, tyX6, rfl, by decide, tw_112, in_6, tyX6_ok, nmX6, rfl, by decide +kernel⟩
theorem fl_X9_96 : FL RX9 96 6 4 := ⟨RX6, TX6, 5, rfl, by decide, tw_113, in_6⟩
theorem fp_X9_96 : FP RX9 96 6 4 .int := ⟨RX6, TX6, 5, tyX6, rfl, by decide, tw_113, in_6, tyX6_ok, nmX6, rfl, by decide +kernel⟩
theorem fl_X8_12 : FL RX8 12 8 0 := ⟨RX8, TX8, 6, rfl, by decide, tw_125, in_8⟩
theorem fl_X3_48 : FL RX3 48 8 0 := ⟨RX8, TX8, 6, rfl, by decide, tw_126, in_8⟩
theorem fl_X11_121 : FL RX11 121 8 0 := ⟨RX8, TX8, 6, rfl, by decide, tw_127, in_8⟩
theorem fl_X9_44 : FL RX9 44 8 0 := ⟨RX8, TX8, 6, rfl, by decide, tw_128, in_8⟩
theorem fl_X5_28 : FL RX5 28 8 0 := ⟨RX8, TX8, 6, rfl, by decide, tw_129, in_8⟩
theorem fl_X8_21 : FL RX8 21 8 1 := ⟨RX8, TX8, 6, rfl, by decide, tw_130, in_8⟩
theorem fl_X3_22 : FL RX3 22 8 1 := ⟨RX8, TX8, 6, rfl, by decide, tw_131, in_8⟩
theorem fl_X9_55 : FL RX9 55 8 1 := ⟨RX8, TX8, 6, rfl, by decide, tw_132, in_8⟩
theorem fl_X5_40 : FL RX5 40 8 1 := ⟨RX8, TX8, 6, rfl, by decide, tw_133, in_8⟩
theorem fl_X11_131 : FL RX11 131 8 1 := ⟨RX8, TX8, 6, rfl, by decide, tw_134, in_8⟩
theorem fl_X8_25 : FL RX8 25 8 2 := ⟨RX8, TX8, 6, rfl, by decide, tw_135, in_8⟩
theorem fl_X11_197 : FL RX11 197 8 2 := ⟨RX8, TX8, 6, rfl, by decide, tw_136, in_8⟩
theorem fl_X8_29 : FL RX8 29 8 3 := ⟨RX8, TX8, 6, rfl, by decide, tw_137, in_8⟩
theorem fl_X4_34 : FL RX4 34 8 3 := ⟨RX8, TX8, 6, rfl, by decide, tw_138, in_8⟩
theorem fl_X11_200 : FL RX11 200 8 3 := ⟨RX8, TX8, 6, rfl, by decide, tw_139, in_8⟩
theorem fl_X8_32 : FL RX8 32 8 4 := ⟨RX8, TX8, 6, rfl, by decide, tw_140, in_8⟩
theorem fp_X8_32 : FP RX8 32 8 4 .int := ⟨RX8, TX8, 6, tyX8, rfl, by decide, tw_140, in_8, tyX8_ok, nmX8, rfl, by decide +kernel⟩
theorem fl_X11_128 : FL RX11 128 8 4 := ⟨RX8, TX8, 6, rfl, by decide, tw_141, in_8⟩
theorem fp_X11_128 : FP RX11 128 8 4 .int := ⟨RX8, TX8, 6, tyX8, rfl, by decide, tw_141, in_8, tyX8_ok, nmX8, rfl, by decide +kernel⟩
theorem fl_X9_90 : FL RX9 90 8 4 := ⟨RX8, TX8, 6, rfl, by decide, tw_142, in_8⟩
theorem fp_X9_90 : FP RX9 90 8 4 .int := ⟨RX8, TX8, 6, tyX8, rfl, by decide, tw_142, in_8, tyX8_ok, nmX8, rfl, by decide +kernel⟩
theorem fl_X8_36 : FL RX8 36 8 5 := ⟨RX8, TX8, 6, rfl, by decide, tw_143, in_8⟩
theorem fp_X8_36 : FP RX8 36 8 5 .int := ⟨RX8, TX8, 6, tyX8, rfl, by decide, tw_143, in_8, tyX8_ok, nmX8, rfl, by decide +kernel⟩
theorem fl_X9_100 : FL RX9 100 8 5 := ⟨RX8, TX8, 6, rfl, by decide, tw_144, in_8⟩
theorem fp_X9_100 : FP RX9 100 8 5 .int := ⟨RX8, TX8, 6, tyX8, rfl, by decide, tw_144, in_8, tyX8_ok, nmX8, rfl, by decide +kernel⟩
theorem fl_X5_9 : FL RX5 9 5 0 := ⟨RX5, TX5, 4, rfl, by decide, tw_164, in_5⟩
theorem fp_X5_9 : FP RX5 9 5 0 .int := ⟨RX5, TX5, 4, tyX5, rfl, by decide, tw_164, in_5, tyX5_ok, nmX5, rfl, by decide +kernel⟩
theorem fl_X10_35 : FL RX10 35 5 0 := ⟨RX5, TX5, 4, rfl, by decide, tw_165, in_5⟩
theorem fp_X10_35 : FP RX10 35 5 0 .int := ⟨RX5, TX5, 4, tyX5, rfl, by decide, tw_165, in_5, tyX5_ok, nmX5, rfl, by decide +kernel⟩
theorem fl_X3_34 : FL RX3 34 5 0 := ⟨RX5, TX5, 4, rfl, by decide, tw_166, in_5⟩
theorem fp_X3_34 : FP RX3 34 5 0 .int := ⟨RX5, TX5, 4, tyX5, rfl, by decide, tw_166, in_5, tyX5_ok, nmX5, rfl, by decide +kernel⟩
theorem fl_X11_138 : FL RX11 138 5 0 := ⟨RX5, TX5, 4, rfl, by decide, tw_167, in_5⟩
theorem fp_X11_138 : FP RX11 138 5 0 .int := ⟨RX5, TX5, 4, tyX5, rfl, by decide, tw_167, in_5, tyX5_ok, nmX5, rfl, by decide +kernel⟩
theorem fl_X5_15 : FL RX5 15 5 1 := ⟨RX5, TX5, 4, rfl, by decide, tw_168, in_5⟩
theorem fp_X5_15 : FP RX5 15 5 1 .int := ⟨RX5, TX5, 4, tyX5, rfl, by decide, tw_168, in_5, tyX5_ok, nmX5, rfl, by decide +kernel⟩
theorem fl_X10_39 : FL RX10 39 5 1 := ⟨RX5, TX5, 4, rfl, by decide, tw_169, in_5⟩
theorem fp_X10_39 : FP RX10 39 5 1 .int := ⟨RX5, TX5, 4, tyX5, rfl, by decide, tw_169, in_5, tyX5_ok, nmX5, rfl, by decide +kernel⟩
theorem fl_X11_141 : FL RX11 141 5 1 := ⟨RX5, TX5, 4, rfl, by decide, tw_170, in_5⟩
theorem fp_X11_141 : FP RX11 141 5 1 .int := ⟨RX5, TX5, 4, tyX5, rfl, by decide, tw_170, in_5, tyX5_ok, nmX5, rfl, by decide +kernel⟩
theorem fl_X3_80 : FL RX3 80 5 1 := ⟨RX5, TX5, 4, rfl, by decide, tw_171, in_5⟩
theorem fp_X3_80 : FP RX3 80 5 1 .int := ⟨RX5, TX5, 4, tyX5, rfl, by decide, tw_171, in_5, tyX5_ok, nmX5, rfl, by decide +kernel⟩
theorem fl_X5_18 : FL RX5 18 5 2 := ⟨RX5, TX5, 4, rfl, by decide, tw_172, in_5⟩
theorem fp_X5_18 : FP RX5 18 5 2 .int := ⟨RX5, TX5, 4, tyX5, rfl, by decide, tw_172, in_5, tyX5_ok, nmX5, rfl, by decide +kernel⟩
theorem fl_X10_42 : FL RX10 42 5 2 := ⟨RX5, TX5, 4, rfl, by decide, tw_173, in_5⟩
theorem fp_X10_42 : FP RX10 42 5 2 .int := ⟨RX5, TX5, 4, tyX5, rfl, by decide, tw_173, in_5, tyX5_ok, nmX5, rfl, by decide +kernel⟩
theorem fl_X11_144 : FL RX11 144 5 2 := ⟨RX5, TX5, 4, rfl, by decide, tw_174, in_5⟩
theorem fp_X11_144 : FP RX11 144 5 2 .int := ⟨RX5, TX5, 4, tyX5, rfl, by decide, tw_174, in_5, tyX5_ok, nmX5, rfl, by decide +kernel⟩
theorem fl_X5_21 : FL RX5 21 5 3 := ⟨RX5, TX5, 4, rfl, by decide, tw_175, in_5⟩
theorem fp_X5_21 : FP RX5 21 5 3 .int := ⟨RX5, TX5, 4, tyX5, rfl, by decide, tw_175, in_5, tyX5_ok, nmX5, rfl, by decide +kernel⟩
theorem fl_X10_45 : FL RX10 45 5 3 := ⟨RX5, TX5, 4, rfl, by decide, tw_176, in_5⟩
theorem fp_X10_45 : FP RX10 45 5 3 .int := ⟨RX5, TX5, 4, tyX5, rfl, by decide, tw_176, in_5, tyX5_ok, nmX5, rfl, by decide +kernel⟩
theorem fl_X11_147 : FL RX11 147 5 3 := ⟨RX5, TX5, 4, rfl, by decide, tw_177, in_5⟩
theorem fp_X11_147 : FP RX11 147 5 3 .int := ⟨RX5, TX5, 4, tyX5, rfl, by decide, tw_177, in_5, tyX5_ok, nmX5, rfl, by decide +kernel⟩
theorem fl_X10_9 : FL RX10 9 10 0 := ⟨RX10, TX10, 6, rfl, by decide, tw_193, in_10⟩
theorem fl_X10_15 : FL RX10 15 10 1 := ⟨RX10, TX10, 6, rfl, by decide, tw_194, in_10⟩
theorem fl_X10_18 : FL RX10 18 10 2 := ⟨RX10, TX10, 6, rfl, by decide, tw_195, in_10⟩
theorem fl_X10_21 : FL RX10 21 10 3 := ⟨RX10, TX10, 6, rfl, by decide, tw_196, in_10⟩
theorem fl_X10_24 : FL RX10 24 10 4 := ⟨RX10, TX10, 6, rfl, by decide, tw_197, in_10⟩
theorem fp_X10_24 : FP RX10 24 10 4 .int := ⟨RX10, TX10, 6, tyX10, rfl, by decide, tw_197, in_10, tyX10_ok, nmX10, rfl, by decide +kernel⟩
theorem fl_X10_28 : FL RX10 28 10 5 := ⟨RX10, TX10, 6, rfl, by decide, tw_198, in_10⟩
theorem fp_X10_28 : FP RX10 28 10 5 .int := ⟨RX10, TX10, 6, tyX10, rfl, by decide, tw_198, in_10, tyX10_ok, nmX10, rfl, by decide +kernel⟩
theorem fl_X11_111 : FL RX11 111 10 5 := ⟨RX10, TX10, 6, rfl, by decide, tw_199, in_10⟩
theorem fp_X11_111 : FP RX11 111 10 5 .int := ⟨RX10, TX10, 6, tyX10, rfl, by decide, tw_199, in_10, tyX10_ok, nmX10, rfl, by decide +kernel⟩
theorem fl_X4_9 : FL RX4 9 4 0 := ⟨RX4, TX4, 4, rfl, by decide, tw_221, in_4⟩
theorem fp_X4_9 : FP RX4 9 4 0 .boolean := ⟨RX4, TX4, 4, tyX4, rfl, by decide, tw_221, in_4, tyX4_ok, nmX4, rfl, by decide +kernel⟩
theorem fl_X11_114 : FL RX11 114 4 0 := ⟨RX4, TX4, 4, rfl, by decide, tw_222, in_4⟩
theorem fp_X11_114 : FP RX11 114 4 0 .boolean := ⟨RX4, TX4, 4, tyX4, rfl, by decide, tw_222, in_4, tyX4_ok, nmX4, rfl, by decide +kernel⟩
theorem fl_X4_18 : FL RX4 18 4 1 := ⟨RX4, TX4, 4, rfl, by decide, tw_223, in_4⟩
theorem fl_X4_22 : FL RX4 22 4 2 := ⟨RX4, TX4, 4, rfl, by decide, tw_224, in_4⟩
theorem fl_X4_26 : FL RX4 26 4 3 := ⟨RX4, TX4, 4, rfl, by decide, tw_225, in_4⟩
theorem fp_X4_26 : FP RX4 26 4 3 .int := ⟨RX4, TX4, 4, tyX4, rfl, by decide, tw_225, in_4, tyX4_ok, nmX4, rfl, by decide +kernel⟩
theorem fl_X11_341 : FL RX11 341 4 3 := ⟨RX4, TX4, 4, rfl, by decide, tw_226, in_4⟩
theorem fp_X11_341 : FP RX11 341 4 3 .int := ⟨RX4, TX4, 4, tyX4, rfl, by decide, tw_226, in_4, tyX4_ok, nmX4, rfl, by decide +kernel⟩
theorem fl_X3_9 : FL RX3 9 3 0 := ⟨RX3, TX3, 3, rfl, by decide, tw_242, in_3⟩
theorem fl_X3_15 : FL RX3 15 3 1 := ⟨RX3, TX3, 3, rfl, by decide, tw_243, in_3⟩
theorem fp_X3_15 : FP RX3 15 3 1 .int := ⟨RX3, TX3, 3, tyX3, rfl, by decide, tw_243, in_3, tyX3_ok, nmX3, rfl, by decide +kernel⟩
theorem fl_X3_19 : FL RX3 19 3 2 := ⟨RX3, TX3, 3, rfl, by decide, tw_244, in_3⟩
theorem fp_X3_19 : FP RX3 19 3 2 .int := ⟨RX3, TX3, 3, tyX3, rfl, by decide, tw_244, in_3, tyX3_ok, nmX3, rfl, by decide +kernel⟩
theorem fl_X1_9 : FL RX1 9 1 0 := ⟨RX1, TX1, 5, rfl, by decide, tw_258, in_1⟩
theorem fl_X1_15 : FL RX1 15 1 1 := ⟨RX1, TX1, 5, rfl, by decide, tw_259, in_1⟩
theorem fl_X1_18 : FL RX1 18 1 2 := ⟨RX1, TX1, 5, rfl, by decide, tw_260, in_1⟩
theorem fp_X1_18 : FP RX1 18 1 2 .int := ⟨RX1, TX1, 5, tyX1, rfl, by decide, tw_260, in_1, tyX1_ok, nmX1, rfl, by decide +kernel⟩
theorem fl_X11_153 : FL RX11 153 1 2 := ⟨RX1, TX1, 5, rfl, by decide, tw_261, in_1⟩
theorem fp_X11_153 : FP RX11 153 1 2 .int := ⟨RX1, TX1, 5, tyX1, rfl, by decide, tw_261, in_1, tyX1_ok, nmX1, rfl, by decide +kernel⟩
theorem fl_X1_22 : FL RX1 22 1 3 := ⟨RX1, TX1, 5, rfl, by decide, tw_262, in_1⟩
theorem fl_X11_289 : FL RX11 289 1 3 := ⟨RX1, TX1, 5, rfl, by decide, tw_263, in_1⟩
theorem fl_X1_25 : FL RX1 25 1 4 := ⟨RX1, TX1, 5, rfl, by decide, tw_264, in_1⟩
theorem fl_X7_9 : FL RX7 9 7 0 := ⟨RX7, TX7, 4, rfl, by decide, tw_282, in_7⟩
theorem fl_X7_15 : FL RX7 15 7 1 := ⟨RX7, TX7, 4, rfl, by decide, tw_283, in_7⟩
theorem fl_X7_18 : FL RX7 18 7 2 := ⟨RX7, TX7, 4, rfl, by decide, tw_284, in_7⟩
theorem fl_X7_21 : FL RX7 21 7 3 := ⟨RX7, TX7, 4, rfl, by decide, tw_285, in_7⟩
theorem fp_X7_21 : FP RX7 21 7 3 .int := ⟨RX7, TX7, 4, tyX7, rfl, by decide, tw_285, in_7, tyX7_ok, nmX7, rfl, by decide +kernel⟩
theorem fl_X11_156 : FL RX11 156 7 3 := ⟨RX7, TX7, 4, rfl, by decide, tw_286, in_7⟩
theorem fp_X11_156 : FP RX11 156 7 3 .int := ⟨RX7, TX7, 4, tyX7, rfl, by decide, tw_286, in_7, tyX7_ok, nmX7, rfl, by decide +kernel⟩
theorem fl_X0_9 : FL RX0 9 0 0 := ⟨RX0, TX0, 4, rfl, by decide, tw_304, in_0⟩
theorem fl_X0_18 : FL RX0 18 0 1 := ⟨RX0, TX0, 4, rfl, by decide, tw_305, in_0⟩
theorem fl_X0_22 : FL RX0 22 0 2 := ⟨RX0, TX0, 4, rfl, by decide, tw_306, in_0⟩
theorem fp_X0_22 : FP RX0 22 0 2 .int := ⟨RX0, TX0, 4, tyX0, rfl, by decide, tw_306, in_0, tyX0_ok, nmX0, rfl, by decide +kernel⟩
theorem fl_X11_159 : FL RX11 159 0 2 := ⟨RX0, TX0, 4, rfl, by decide, tw_307, in_0⟩
theorem fp_X11_159 : FP RX11 159 0 2 .int := ⟨RX0, TX0, 4, tyX0, rfl, by decide, tw_307, in_0, tyX0_ok, nmX0, rfl, by decide +kernel⟩
theorem fl_X0_26 : FL RX0 26 0 3 := ⟨RX0, TX0, 4, rfl, by decide, tw_308, in_0⟩
theorem fp_X0_26 : FP RX0 26 0 3 .int := ⟨RX0, TX0, 4, tyX0, rfl, by decide, tw_308, in_0, tyX0_ok, nmX0, rfl, by decide +kernel⟩
theorem fl_X11_326 : FL RX11 326 0 3 := ⟨RX0, TX0, 4, rfl, by decide, tw_309, in_0⟩
theorem fp_X11_326 : FP RX11 326 0 3 .int := ⟨RX0, TX0, 4, tyX0, rfl, by decide, tw_309, in_0, tyX0_ok, nmX0, rfl, by decide +kernel⟩
theorem fl_X11_10 : FL RX11 10 11 0 := ⟨RX11, TX11, 13, rfl, by decide, tw_319, in_11⟩
theorem fl_X11_19 : FL RX11 19 11 1 := ⟨RX11, TX11, 13, rfl, by decide, tw_320, in_11⟩
theorem fp_X11_19 : FP RX11 19 11 1 (.object "BreathStreet$Street") := ⟨RX11, TX11, 13, tyX11, rfl, by decide, tw_320, in_11, tyX11_ok, nmX11, rfl, by decide +kernel⟩
theorem fl_X11_23 : FL RX11 23 11 2 := ⟨RX11, TX11, 13, rfl, by decide, tw_321, in_11⟩
theorem fp_X11_23 : FP RX11 23 11 2 (.object "BreathStreet$Street") := ⟨RX11, TX11, 13, tyX11, rfl, by decide, tw_321, in_11, tyX11_ok, nmX11, rfl, by decide +kernel⟩
theorem fl_X11_26 : FL RX11 26 11 3 := ⟨RX11, TX11, 13, rfl, by decide, tw_322, in_11⟩
theorem fp_X11_26 : FP RX11 26 11 3 .int := ⟨RX11, TX11, 13, tyX11, rfl, by decide, tw_322, in_11, tyX11_ok, nmX11, rfl, by decide +kernel⟩
theorem fl_X11_33 : FL RX11 33 11 4 := ⟨RX11, TX11, 13, rfl, by decide, tw_323, in_11⟩
theorem fl_X11_40 : FL RX11 40 11 5 := ⟨RX11, TX11, 13, rfl, by decide, tw_324, in_11⟩
theorem fl_X11_47 : FL RX11 47 11 6 := ⟨RX11, TX11, 13, rfl, by decide, tw_325, in_11⟩
theorem fl_X11_51 : FL RX11 51 11 7 := ⟨RX11, TX11, 13, rfl, by decide, tw_326, in_11⟩
theorem fl_X11_57 : FL RX11 57 11 8 := ⟨RX11, TX11, 13, rfl, by decide, tw_327, in_11⟩
theorem fl_X11_64 : FL RX11 64 11 9 := ⟨RX11, TX11, 13, rfl, by decide, tw_328, in_11⟩
theorem fl_X11_71 : FL RX11 71 11 10 := ⟨RX11, TX11, 13, rfl, by decide, tw_329, in_11⟩
theorem fl_X11_78 : FL RX11 78 11 11 := ⟨RX11, TX11, 13, rfl, by decide, tw_330, in_11⟩
theorem fl_X11_82 : FL RX11 82 11 12 := ⟨RX11, TX11, 13, rfl, by decide, tw_331, in_11⟩
theorem fp_X11_82 : FP RX11 82 11 12 .int := ⟨RX11, TX11, 13, tyX11, rfl, by decide, tw_331, in_11, tyX11_ok, nmX11, rfl, by decide +kernel⟩
theorem fl_X12_7 : FL RX12 7 12 0 := ⟨RX12, TX12, 34, rfl, by decide, tw_932, in_12⟩
theorem fl_X12_13 : FL RX12 13 12 1 := ⟨RX12, TX12, 34, rfl, by decide, tw_933, in_12⟩
theorem fl_X12_17 : FL RX12 17 12 2 := ⟨RX12, TX12, 34, rfl, by decide, tw_934, in_12⟩
theorem fl_X12_20 : FL RX12 20 12 3 := ⟨RX12, TX12, 34, rfl, by decide, tw_935, in_12⟩
theorem fl_X12_23 : FL RX12 23 12 4 := ⟨RX12, TX12, 34, rfl, by decide, tw_936, in_12⟩
theorem fl_X12_131 : FL RX12 131 12 5 := ⟨RX12, TX12, 34, rfl, by decide, tw_937, in_12⟩
theorem fp_X12_131 : FP RX12 131 12 5 .int := ⟨RX12, TX12, 34, tyX12, rfl, by decide, tw_937, in_12, tyX12_ok, nmX12, rfl, by decide +kernel⟩
theorem fl_X12_134 : FL RX12 134 12 6 := ⟨RX12, TX12, 34, rfl, by decide, tw_938, in_12⟩
theorem fp_X12_134 : FP RX12 134 12 6 .int := ⟨RX12, TX12, 34, tyX12, rfl, by decide, tw_938, in_12, tyX12_ok, nmX12, rfl, by decide +kernel⟩
theorem fl_X12_137 : FL RX12 137 12 7 := ⟨RX12, TX12, 34, rfl, by decide, tw_939, in_12⟩
theorem fp_X12_137 : FP RX12 137 12 7 .int := ⟨RX12, TX12, 34, tyX12, rfl, by decide, tw_939, in_12, tyX12_ok, nmX12, rfl, by decide +kernel⟩
theorem fl_X12_99 : FL RX12 99 12 8 := ⟨RX12, TX12, 34, rfl, by decide, tw_940, in_12⟩
theorem fp_X12_99 : FP RX12 99 12 8 .int := ⟨RX12, TX12, 34, tyX12, rfl, by decide, tw_940, in_12, tyX12_ok, nmX12, rfl, by decide +kernel⟩
theorem fl_X12_106 : FL RX12 106 12 9 := ⟨RX12, TX12, 34, rfl, by decide, tw_941, in_12⟩
theorem fp_X12_106 : FP RX12 106 12 9 .int := ⟨RX12, TX12, 34, tyX12, rfl, by decide, tw_941, in_12, tyX12_ok, nmX12, rfl, by decide +kernel⟩
theorem fl_X12_109 : FL RX12 109 12 10 := ⟨RX12, TX12, 34, rfl, by decide, tw_942, in_12⟩
theorem fp_X12_109 : FP RX12 109 12 10 .int := ⟨RX12, TX12, 34, tyX12, rfl, by decide, tw_942, in_12, tyX12_ok, nmX12, rfl, by decide +kernel⟩
theorem fl_X12_125 : FL RX12 125 12 11 := ⟨RX12, TX12, 34, rfl, by decide, tw_943, in_12⟩
theorem fp_X12_125 : FP RX12 125 12 11 .int := ⟨RX12, TX12, 34, tyX12, rfl, by decide, tw_943, in_12, tyX12_ok, nmX12, rfl, by decide +kernel⟩
theorem fl_X12_121 : FL RX12 121 12 12 := ⟨RX12, TX12, 34, rfl, by decide, tw_944, in_12⟩
theorem fp_X12_121 : FP RX12 121 12 12 .boolean := ⟨RX12, TX12, 34, tyX12, rfl, by decide, tw_944, in_12, tyX12_ok, nmX12, rfl, by decide +kernel⟩
theorem fl_X12_26 : FL RX12 26 12 13 := ⟨RX12, TX12, 34, rfl, by decide, tw_945, in_12⟩
theorem fl_X12_73 : FL RX12 73 12 14 := ⟨RX12, TX12, 34, rfl, by decide, tw_946, in_12⟩
theorem fp_X12_73 : FP RX12 73 12 14 .int := ⟨RX12, TX12, 34, tyX12, rfl, by decide, tw_946, in_12, tyX12_ok, nmX12, rfl, by decide +kernel⟩
theorem fl_X12_77 : FL RX12 77 12 15 := ⟨RX12, TX12, 34, rfl, by decide, tw_947, in_12⟩
theorem fp_X12_77 : FP RX12 77 12 15 .int := ⟨RX12, TX12, 34, tyX12, rfl, by decide, tw_947, in_12, tyX12_ok, nmX12, rfl, by decide +kernel⟩
theorem fl_X12_87 : FL RX12 87 12 16 := ⟨RX12, TX12, 34, rfl, by decide, tw_948, in_12⟩
theorem fp_X12_87 : FP RX12 87 12 16 .int := ⟨RX12, TX12, 34, tyX12, rfl, by decide, tw_948, in_12, tyX12_ok, nmX12, rfl, by decide +kernel⟩
theorem fl_X12_80 : FL RX12 80 12 17 := ⟨RX12, TX12, 34, rfl, by decide, tw_949, in_12⟩
theorem fp_X12_80 : FP RX12 80 12 17 .int := ⟨RX12, TX12, 34, tyX12, rfl, by decide, tw_949, in_12, tyX12_ok, nmX12, rfl, by decide +kernel⟩
theorem fl_X12_29 : FL RX12 29 12 18 := ⟨RX12, TX12, 34, rfl, by decide, tw_950, in_12⟩
theorem fp_X12_29 : FP RX12 29 12 18 .int := ⟨RX12, TX12, 34, tyX12, rfl, by decide, tw_950, in_12, tyX12_ok, nmX12, rfl, by decide +kernel⟩
theorem fl_X12_33 : FL RX12 33 12 19 := ⟨RX12, TX12, 34, rfl, by decide, tw_951, in_12⟩
theorem fp_X12_33 : FP RX12 33 12 19 .int := ⟨RX12, TX12, 34, tyX12, rfl, by decide, tw_951, in_12, tyX12_ok, nmX12, rfl, by decide +kernel⟩
theorem fl_X12_36 : FL RX12 36 12 20 := ⟨RX12, TX12, 34, rfl, by decide, tw_952, in_12⟩
theorem fl_X12_149 : FL RX12 149 12 21 := ⟨RX12, TX12, 34, rfl, by decide, tw_953, in_12⟩
theorem fp_X12_149 : FP RX12 149 12 21 .int := ⟨RX12, TX12, 34, tyX12, rfl, by decide, tw_953, in_12, tyX12_ok, nmX12, rfl, by decide +kernel⟩
theorem fl_X12_39 : FL RX12 39 12 22 := ⟨RX12, TX12, 34, rfl, by decide, tw_954, in_12⟩
theorem fl_X12_42 : FL RX12 42 12 23 := ⟨RX12, TX12, 34, rfl, by decide, tw_955, in_12⟩
theorem fl_X12_45 : FL RX12 45 12 24 := ⟨RX12, TX12, 34, rfl, by decide, tw_956, in_12⟩
theorem fl_X12_140 : FL RX12 140 12 25 := ⟨RX12, TX12, 34, rfl, by decide, tw_957, in_12⟩
theorem fp_X12_140 : FP RX12 140 12 25 .int := ⟨RX12, TX12, 34, tyX12, rfl, by decide, tw_957, in_12, tyX12_ok, nmX12, rfl, by decide +kernel⟩
theorem fl_X12_48 : FL RX12 48 12 26 := ⟨RX12, TX12, 34, rfl, by decide, tw_958, in_12⟩
theorem fl_X12_51 : FL RX12 51 12 27 := ⟨RX12, TX12, 34, rfl, by decide, tw_959, in_12⟩
theorem fl_X12_54 : FL RX12 54 12 28 := ⟨RX12, TX12, 34, rfl, by decide, tw_960, in_12⟩
theorem fl_X12_57 : FL RX12 57 12 29 := ⟨RX12, TX12, 34, rfl, by decide, tw_961, in_12⟩
theorem fl_X12_143 : FL RX12 143 12 30 := ⟨RX12, TX12, 34, rfl, by decide, tw_962, in_12⟩
theorem fp_X12_143 : FP RX12 143 12 30 .int := ⟨RX12, TX12, 34, tyX12, rfl, by decide, tw_962, in_12, tyX12_ok, nmX12, rfl, by decide +kernel⟩
theorem fl_X12_60 : FL RX12 60 12 31 := ⟨RX12, TX12, 34, rfl, by decide, tw_963, in_12⟩
theorem fl_X12_63 : FL RX12 63 12 32 := ⟨RX12, TX12, 34, rfl, by decide, tw_964, in_12⟩
theorem fl_X12_146 : FL RX12 146 12 33 := ⟨RX12, TX12, 34, rfl, by decide, tw_965, in_12⟩
theorem fp_X12_146 : FP RX12 146 12 33 .int := ⟨RX12, TX12, 34, tyX12, rfl, by decide, tw_965, in_12, tyX12_ok, nmX12, rfl, by decide +kernel⟩
theorem sp_X9_skipBlanks : Cond.selects yX9_skipBlanks.cls yX9_skipBlanks yX9_skipBlanks ∈ lw_tbl := List.mem_append_left _ (List.mem_of_getElem? (i := 0) (by decide +kernel))
theorem sp_X9_letterHere : Cond.selects yX9_letterHere.cls yX9_letterHere yX9_letterHere ∈ lw_tbl := List.mem_append_left _ (List.mem_of_getElem? (i := 1) (by decide +kernel))
theorem sp_X9_readClause : Cond.selects yX9_readClause.cls yX9_readClause yX9_readClause ∈ lw_tbl := List.mem_append_left _ (List.mem_of_getElem? (i := 2) (by decide +kernel))
theorem sp_X9_readField : Cond.selects yX9_readField.cls yX9_readField yX9_readField ∈ lw_tbl := List.mem_append_left _ (List.mem_of_getElem? (i := 3) (by decide +kernel))
theorem sp_X9_readWord : Cond.selects yX9_readWord.cls yX9_readWord yX9_readWord ∈ lw_tbl := List.mem_append_left _ (List.mem_of_getElem? (i := 4) (by decide +kernel))
theorem sp_X9_blame : Cond.selects yX9_blame.cls yX9_blame yX9_blame ∈ lw_tbl := List.mem_append_left _ (List.mem_of_getElem? (i := 5) (by decide +kernel))
theorem sp_X9_readNumber : Cond.selects yX9_readNumber.cls yX9_readNumber yX9_readNumber ∈ lw_tbl := List.mem_append_left _ (List.mem_of_getElem? (i := 6) (by decide +kernel))
theorem sp_X9_readEnd : Cond.selects yX9_readEnd.cls yX9_readEnd yX9_readEnd ∈ lw_tbl := List.mem_append_left _ (List.mem_of_getElem? (i := 7) (by decide +kernel))
theorem sp_X9_readHouse : Cond.selects yX9_readHouse.cls yX9_readHouse yX9_readHouse ∈ lw_tbl := List.mem_append_left _ (List.mem_of_getElem? (i := 8) (by decide +kernel))
theorem sp_X9_readSeam : Cond.selects yX9_readSeam.cls yX9_readSeam yX9_readSeam ∈ lw_tbl := List.mem_append_left _ (List.mem_of_getElem? (i := 9) (by decide +kernel))
theorem sp_X9_readBarrel : Cond.selects yX9_readBarrel.cls yX9_readBarrel yX9_readBarrel ∈ lw_tbl := List.mem_append_left _ (List.mem_of_getElem? (i := 10) (by decide +kernel))
theorem sp_X11_forgetNotes : Cond.selects yX11_forgetNotes.cls yX11_forgetNotes yX11_forgetNotes ∈ lw_tbl := List.mem_append_left _ (List.mem_of_getElem? (i := 11) (by decide +kernel))
theorem sp_X6_staysOpen : Cond.selects yX6_staysOpen.cls yX6_staysOpen yX6_staysOpen ∈ lw_tbl := List.mem_append_left _ (List.mem_of_getElem? (i := 12) (by decide +kernel))
theorem sp_X8_strain : Cond.selects yX8_strain.cls yX8_strain yX8_strain ∈ lw_tbl := List.mem_append_left _ (List.mem_of_getElem? (i := 13) (by decide +kernel))
theorem sp_X8_strainRound : Cond.selects yX8_strainRound.cls yX8_strainRound yX8_strainRound ∈ lw_tbl := List.mem_append_left _ (List.mem_of_getElem? (i := 14) (by decide +kernel))
theorem sp_X11_letPass : Cond.selects yX11_letPass.cls yX11_letPass yX11_letPass ∈ lw_tbl := List.mem_append_left _ (List.mem_of_getElem? (i := 15) (by decide +kernel))
theorem sp_X11_draw : Cond.selects yX11_draw.cls yX11_draw yX11_draw ∈ lw_tbl := List.mem_append_left _ (List.mem_of_getElem? (i := 16) (by decide +kernel))
theorem sp_X2_lowerBeside : Cond.selects yX2_lowerBeside.cls yX2_lowerBeside yX2_lowerBeside ∈ lw_tbl := List.mem_append_left _ (List.mem_of_getElem? (i := 17) (by decide +kernel))
theorem sp_X3_pulledBy : Cond.selects yX3_pulledBy.cls yX3_pulledBy yX3_pulledBy ∈ lw_tbl := List.mem_append_left _ (List.mem_of_getElem? (i := 18) (by decide +kernel))
theorem sp_X3_pulledFrom : Cond.selects yX3_pulledFrom.cls yX3_pulledFrom yX3_pulledFrom ∈ lw_tbl := List.mem_append_left _ (List.mem_of_getElem? (i := 19) (by decide +kernel))
theorem sp_X3_firstBest : Cond.selects yX3_firstBest.cls yX3_firstBest yX3_firstBest ∈ lw_tbl := List.mem_append_left _ (List.mem_of_getElem? (i := 20) (by decide +kernel))
theorem sp_X6_roundOf : Cond.selects yX6_roundOf.cls yX6_roundOf yX6_roundOf ∈ lw_tbl := List.mem_append_left _ (List.mem_of_getElem? (i := 21) (by decide +kernel))
theorem sp_X6_someShutFor : Cond.selects yX6_someShutFor.cls yX6_someShutFor yX6_someShutFor ∈ lw_tbl := List.mem_append_left _ (List.mem_of_getElem? (i := 22) (by decide +kernel))
theorem sp_X6_staysShut : Cond.selects yX6_staysShut.cls yX6_staysShut yX6_staysShut ∈ lw_tbl := List.mem_append_left _ (List.mem_of_getElem? (i := 23) (by decide +kernel))
theorem sp_X6_allOpenFor : Cond.selects yX6_allOpenFor.cls yX6_allOpenFor yX6_allOpenFor ∈ lw_tbl := List.mem_append_left _ (List.mem_of_getElem? (i := 24) (by decide +kernel))
theorem sp_X1_explains : Cond.selects yX1_explains.cls yX1_explains yX1_explains ∈ lw_tbl := List.mem_append_left _ (List.mem_of_getElem? (i := 25) (by decide +kernel))
theorem sp_X1_greatestPart : Cond.selects yX1_greatestPart.cls yX1_greatestPart yX1_greatestPart ∈ lw_tbl := List.mem_append_left _ (List.mem_of_getElem? (i := 26) (by decide +kernel))
theorem sp_X7_explains : Cond.selects yX7_explains.cls yX7_explains yX7_explains ∈ lw_tbl := List.mem_append_left _ (List.mem_of_getElem? (i := 27) (by decide +kernel))
theorem sp_X2_shareOut : Cond.selects yX2_shareOut.cls yX2_shareOut yX2_shareOut ∈ lw_tbl := List.mem_append_left _ (List.mem_of_getElem? (i := 28) (by decide +kernel))
theorem sp_X11_imageOf : Cond.selects yX11_imageOf.cls yX11_imageOf yX11_imageOf ∈ lw_tbl := List.mem_append_left _ (List.mem_of_getElem? (i := 29) (by decide +kernel))
theorem sp_X12_here : Cond.selects yX12_here.cls yX12_here yX12_here ∈ lw_tbl := List.mem_append_left _ (List.mem_of_getElem? (i := 30) (by decide +kernel))
theorem sp_X12_takeClause : Cond.selects yX12_takeClause.cls yX12_takeClause yX12_takeClause ∈ lw_tbl := List.mem_append_left _ (List.mem_of_getElem? (i := 31) (by decide +kernel))
theorem sp_X12_want : Cond.selects yX12_want.cls yX12_want yX12_want ∈ lw_tbl := List.mem_append_left _ (List.mem_of_getElem? (i := 32) (by decide +kernel))
theorem sp_X12_takeField : Cond.selects yX12_takeField.cls yX12_takeField yX12_takeField ∈ lw_tbl := List.mem_append_left _ (List.mem_of_getElem? (i := 33) (by decide +kernel))
theorem sp_X12_takeNumber : Cond.selects yX12_takeNumber.cls yX12_takeNumber yX12_takeNumber ∈ lw_tbl := List.mem_append_left _ (List.mem_of_getElem? (i := 34) (by decide +kernel))
theorem sp_X12_takeHouse : Cond.selects yX12_takeHouse.cls yX12_takeHouse yX12_takeHouse ∈ lw_tbl := List.mem_append_left _ (List.mem_of_getElem? (i := 35) (by decide +kernel))
theorem sp_X12_takeSeam : Cond.selects yX12_takeSeam.cls yX12_takeSeam yX12_takeSeam ∈ lw_tbl := List.mem_append_left _ (List.mem_of_getElem? (i := 36) (by decide +kernel))
theorem sp_X12_openNow : Cond.selects yX12_openNow.cls yX12_openNow yX12_openNow ∈ lw_tbl := List.mem_append_left _ (List.mem_of_getElem? (i := 37) (by decide +kernel))
theorem sp_X12_isSeamOpen : Cond.selects yX12_isSeamOpen.cls yX12_isSeamOpen yX12_isSeamOpen ∈ lw_tbl := List.mem_append_left _ (List.mem_of_getElem? (i := 38) (by decide +kernel))
theorem sp_X12_crackNow : Cond.selects yX12_crackNow.cls yX12_crackNow yX12_crackNow ∈ lw_tbl := List.mem_append_left _ (List.mem_of_getElem? (i := 39) (by decide +kernel))
theorem sp_X12_cracksAt : Cond.selects yX12_cracksAt.cls yX12_cracksAt yX12_cracksAt ∈ lw_tbl := List.mem_append_left _ (List.mem_of_getElem? (i := 40) (by decide +kernel))
theorem sp_X12_leanOf : Cond.selects yX12_leanOf.cls yX12_leanOf yX12_leanOf ∈ lw_tbl := List.mem_append_left _ (List.mem_of_getElem? (i := 41) (by decide +kernel))
theorem sp_X12_heightOf : Cond.selects yX12_heightOf.cls yX12_heightOf yX12_heightOf ∈ lw_tbl := List.mem_append_left _ (List.mem_of_getElem? (i := 42) (by decide +kernel))
theorem sp_X12_isField : Cond.selects yX12_isField.cls yX12_isField yX12_isField ∈ lw_tbl := List.mem_append_left _ (List.mem_of_getElem? (i := 43) (by decide +kernel))
theorem sp_X12_needs : Cond.selects yX12_needs.cls yX12_needs yX12_needs ∈ lw_tbl := List.mem_append_left _ (List.mem_of_getElem? (i := 44) (by decide +kernel))
theorem sp_X12_pass : Cond.selects yX12_pass.cls yX12_pass yX12_pass ∈ lw_tbl := List.mem_append_left _ (List.mem_of_getElem? (i := 45) (by decide +kernel))
theorem sp_X12_remember : Cond.selects yX12_remember.cls yX12_remember yX12_remember ∈ lw_tbl := List.mem_append_left _ (List.mem_of_getElem? (i := 46) (by decide +kernel))
theorem sp_X12_to : Cond.selects yX12_to.cls yX12_to yX12_to ∈ lw_tbl := List.mem_append_left _ (List.mem_of_getElem? (i := 47) (by decide +kernel))
theorem sp_X12_rollOn : Cond.selects yX12_rollOn.cls yX12_rollOn yX12_rollOn ∈ lw_tbl := List.mem_append_left _ (List.mem_of_getElem? (i := 48) (by decide +kernel))
theorem sp_X12_pulledBy : Cond.selects yX12_pulledBy.cls yX12_pulledBy yX12_pulledBy ∈ lw_tbl := List.mem_append_left _ (List.mem_of_getElem? (i := 49) (by decide +kernel))
theorem sp_X12_draw : Cond.selects yX12_draw.cls yX12_draw yX12_draw ∈ lw_tbl := List.mem_append_left _ (List.mem_of_getElem? (i := 50) (by decide +kernel))
theorem sp_X12_flows : Cond.selects yX12_flows.cls yX12_flows yX12_flows ∈ lw_tbl := List.mem_append_left _ (List.mem_of_getElem? (i := 51) (by decide +kernel))
theorem sp_X12_ground : Cond.selects yX12_ground.cls yX12_ground yX12_ground ∈ lw_tbl := List.mem_append_left _ (List.mem_of_getElem? (i := 52) (by decide +kernel))
theorem sp_X12_findLeast : Cond.selects yX12_findLeast.cls yX12_findLeast yX12_findLeast ∈ lw_tbl := List.mem_append_left _ (List.mem_of_getElem? (i := 53) (by decide +kernel))
theorem sp_X12_bestWay : Cond.selects yX12_bestWay.cls yX12_bestWay yX12_bestWay ∈ lw_tbl := List.mem_append_left _ (List.mem_of_getElem? (i := 54) (by decide +kernel))
theorem sp_X12_leastBy : Cond.selects yX12_leastBy.cls yX12_leastBy yX12_leastBy ∈ lw_tbl := List.mem_append_left _ (List.mem_of_getElem? (i := 55) (by decide +kernel))
theorem sp_X12_isSeamSet : Cond.selects yX12_isSeamSet.cls yX12_isSeamSet yX12_isSeamSet ∈ lw_tbl := List.mem_append_left _ (List.mem_of_getElem? (i := 56) (by decide +kernel))
theorem sp_X12_roundOfSeams : Cond.selects yX12_roundOfSeams.cls yX12_roundOfSeams yX12_roundOfSeams ∈ lw_tbl := List.mem_append_left _ (List.mem_of_getElem? (i := 57) (by decide +kernel))
theorem sp_X12_areOpen : Cond.selects yX12_areOpen.cls yX12_areOpen yX12_areOpen ∈ lw_tbl := List.mem_append_left _ (List.mem_of_getElem? (i := 58) (by decide +kernel))
theorem sp_X12_couldBegin : Cond.selects yX12_couldBegin.cls yX12_couldBegin yX12_couldBegin ∈ lw_tbl := List.mem_append_left _ (List.mem_of_getElem? (i := 59) (by decide +kernel))
theorem sp_X12_greatestPart : Cond.selects yX12_greatestPart.cls yX12_greatestPart yX12_greatestPart ∈ lw_tbl := List.mem_append_left _ (List.mem_of_getElem? (i := 60) (by decide +kernel))
theorem sp_X12_goesRound : Cond.selects yX12_goesRound.cls yX12_goesRound yX12_goesRound ∈ lw_tbl := List.mem_append_left _ (List.mem_of_getElem? (i := 61) (by decide +kernel))
theorem sp_X12_flooded : Cond.selects yX12_flooded.cls yX12_flooded yX12_flooded ∈ lw_tbl := List.mem_append_left _ (List.mem_of_getElem? (i := 62) (by decide +kernel))
theorem sp_X12_copy : Cond.selects yX12_copy.cls yX12_copy yX12_copy ∈ lw_tbl := List.mem_append_left _ (List.mem_of_getElem? (i := 63) (by decide +kernel))
theorem vt_X11_feed : VT yX11_feed cX11_feed 2 (some .int) 1 := ⟨tw_362, tw_360, tw_361, tw_1, by decide +kernel⟩
theorem st_X11_isOutside : ST yX11_isOutside cX11_isOutside 3 (some .boolean) 3 := ⟨tw_365, tw_364, tw_1, by decide +kernel⟩
theorem vt_X9_add : VT yX9_add cX9_add 2 (some .int) 1 := ⟨tw_371, tw_369, tw_370, tw_2, by decide +kernel⟩
theorem vt_X11_street : VT yX11_street cX11_street 3 (some .int) 0 := ⟨tw_375, tw_373, tw_374, tw_1, by decide +kernel⟩
theorem vt_X9_readInto : VT yX9_readInto cX9_readInto 3 (some .int) 1 := ⟨tw_379, tw_377, tw_378, tw_2, by decide +kernel⟩
theorem vt_X8_clear : VT yX8_clear cX8_clear 1 none 0 := ⟨tw_383, tw_381, tw_382, tw_3, by decide +kernel⟩
theorem vt_X2_clear : VT yX2_clear cX2_clear 1 none 0 := ⟨tw_387, tw_385, tw_386, tw_4, by decide +kernel⟩
theorem vt_X9_skipBlanks : VT yX9_skipBlanks cX9_skipBlanks 1 none 0 := ⟨tw_391, tw_390, sp_X9_skipBlanks, tw_2, by decide +kernel⟩
theorem vt_X9_letterHere : VT yX9_letterHere cX9_letterHere 1 (some .int) 0 := ⟨tw_395, tw_394, sp_X9_letterHere, tw_2, by decide +kernel⟩
theorem vt_X9_readClause : VT yX9_readClause cX9_readClause 2 none 1 := ⟨tw_399, tw_398, sp_X9_readClause, tw_2, by decide +kernel⟩
theorem vt_X9_readField : VT yX9_readField cX9_readField 6 none 1 := ⟨tw_403, tw_402, sp_X9_readField, tw_2, by decide +kernel⟩
theorem vt_X9_readWord : VT yX9_readWord cX9_readWord 2 none 1 := ⟨tw_407, tw_406, sp_X9_readWord, tw_2, by decide +kernel⟩
theorem vt_X9_blame : VT yX9_blame cX9_blame 3 none 2 := ⟨tw_411, tw_410, sp_X9_blame, tw_2, by decide +kernel⟩
theorem vt_X9_readNumber : VT yX9_readNumber cX9_readNumber 5 (some .int) 2 := ⟨tw_415, tw_414, sp_X9_readNumber, tw_2, by decide +kernel⟩
theorem st_X9_isFigure : ST yX9_isFigure cX9_isFigure 1 (some .boolean) 1 := ⟨tw_418, tw_417, tw_2, by decide +kernel⟩
theorem vt_X9_readEnd : VT yX9_readEnd cX9_readEnd 1 none 0 := ⟨tw_423, tw_422, sp_X9_readEnd, tw_2, by decide +kernel⟩
theorem vt_X2_add : VT yX2_add cX2_add 5 none 4 := ⟨tw_427, tw_425, tw_426, tw_4, by decide +kernel⟩
theorem st_X11_leastCommon : ST yX11_leastCommon cX11_leastCommon 3 (some .int) 2 := ⟨tw_430, tw_429, tw_1, by decide +kernel⟩
theorem vt_X9_readHouse : VT yX9_readHouse cX9_readHouse 4 none 1 := ⟨tw_434, tw_433, sp_X9_readHouse, tw_2, by decide +kernel⟩
theorem vt_X8_addHouse : VT yX8_addHouse cX8_addHouse 3 none 2 := ⟨tw_438, tw_436, tw_437, tw_3, by decide +kernel⟩
theorem vt_X9_readSeam : VT yX9_readSeam cX9_readSeam 7 none 2 := ⟨tw_442, tw_441, sp_X9_readSeam, tw_2, by decide +kernel⟩
theorem vt_X6_add : VT yX6_add cX6_add 5 none 4 := ⟨tw_446, tw_444, tw_445, tw_5, by decide +kernel⟩
theorem vt_X9_readBarrel : VT yX9_readBarrel cX9_readBarrel 3 none 1 := ⟨tw_450, tw_449, sp_X9_readBarrel, tw_2, by decide +kernel⟩
theorem vt_X8_barrelStart : VT yX8_barrelStart cX8_barrelStart 1 (some .int) 0 := ⟨tw_454, tw_452, tw_453, tw_3, by decide +kernel⟩
theorem vt_X5_startAt : VT yX5_startAt cX5_startAt 2 none 1 := ⟨tw_458, tw_456, tw_457, tw_6, by decide +kernel⟩
theorem vt_X11_forgetNotes : VT yX11_forgetNotes cX11_forgetNotes 1 none 0 := ⟨tw_462, tw_461, sp_X11_forgetNotes, tw_1, by decide +kernel⟩
theorem vt_X11_fault : VT yX11_fault cX11_fault 1 (some .int) 0 := ⟨tw_466, tw_464, tw_465, tw_1, by decide +kernel⟩
theorem vt_X11_told : VT yX11_told cX11_told 2 (some .int) 1 := ⟨tw_470, tw_468, tw_469, tw_1, by decide +kernel⟩
theorem vt_X6_openSet : VT yX6_openSet cX6_openSet 4 (some .int) 1 := ⟨tw_474, tw_472, tw_473, tw_5, by decide +kernel⟩
theorem vt_X6_staysOpen : VT yX6_staysOpen cX6_staysOpen 3 (some .int) 2 := ⟨tw_478, tw_477, sp_X6_staysOpen, tw_5, by decide +kernel⟩
theorem vt_X6_has : VT yX6_has cX6_has 2 (some .boolean) 1 := ⟨tw_482, tw_480, tw_481, tw_5, by decide +kernel⟩
theorem st_J9_floorMod_7cf53 : ST yJ9_floorMod_7cf53 cJ9_floorMod_7cf53 3 (some .int) 2 := ⟨tw_486, tw_485, tw_14, by decide +kernel⟩
theorem st_J9_max_7cf53 : ST yJ9_max_7cf53 cJ9_max_7cf53 2 (some .int) 2 := ⟨tw_489, tw_488, tw_14, by decide +kernel⟩
theorem vt_X8_crackedSet : VT yX8_crackedSet cX8_crackedSet 4 (some .int) 1 := ⟨tw_493, tw_491, tw_492, tw_3, by decide +kernel⟩
theorem vt_X8_strain : VT yX8_strain cX8_strain 3 (some .int) 2 := ⟨tw_497, tw_496, sp_X8_strain, tw_3, by decide +kernel⟩
theorem vt_X8_hasHouse : VT yX8_hasHouse cX8_hasHouse 2 (some .boolean) 1 := ⟨tw_501, tw_499, tw_500, tw_3, by decide +kernel⟩
theorem vt_X2_leanAt : VT yX2_leanAt cX2_leanAt 3 (some .int) 2 := ⟨tw_505, tw_503, tw_504, tw_4, by decide +kernel⟩
theorem vt_X2_hasGap : VT yX2_hasGap cX2_hasGap 2 (some .boolean) 1 := ⟨tw_509, tw_507, tw_508, tw_4, by decide +kernel⟩
theorem vt_X2_heightAt : VT yX2_heightAt cX2_heightAt 3 (some .int) 2 := ⟨tw_513, tw_511, tw_512, tw_4, by decide +kernel⟩
theorem vt_X2_has : VT yX2_has cX2_has 2 (some .boolean) 1 := ⟨tw_517, tw_515, tw_516, tw_4, by decide +kernel⟩
theorem st_X11_swell : ST yX11_swell cX11_swell 3 (some .int) 2 := ⟨tw_520, tw_519, tw_1, by decide +kernel⟩
theorem st_J9_min_7cf53 : ST yJ9_min_7cf53 cJ9_min_7cf53 2 (some .int) 2 := ⟨tw_524, tw_523, tw_14, by decide +kernel⟩
theorem st_J9_abs_0f7a4 : ST yJ9_abs_0f7a4 cJ9_abs_0f7a4 1 (some .int) 1 := ⟨tw_527, tw_526, tw_14, by decide +kernel⟩
theorem vt_X11_field : VT yX11_field cX11_field 4 (some .int) 2 := ⟨tw_531, tw_529, tw_530, tw_1, by decide +kernel⟩
theorem vt_X11_height : VT yX11_height cX11_height 3 (some .int) 2 := ⟨tw_539, tw_537, tw_538, tw_1, by decide +kernel⟩
theorem vt_X11_house : VT yX11_house cX11_house 3 (some .int) 2 := ⟨tw_544, tw_542, tw_543, tw_1, by decide +kernel⟩
theorem vt_X8_slackNeeded : VT yX8_slackNeeded cX8_slackNeeded 5 (some .int) 1 := ⟨tw_549, tw_547, tw_548, tw_3, by decide +kernel⟩
theorem vt_X8_strainRound : VT yX8_strainRound cX8_strainRound 2 (some .int) 1 := ⟨tw_553, tw_552, sp_X8_strainRound, tw_3, by decide +kernel⟩
theorem vt_X2_leanRound : VT yX2_leanRound cX2_leanRound 2 (some .int) 1 := ⟨tw_557, tw_555, tw_556, tw_4, by decide +kernel⟩
theorem vt_X11_seam : VT yX11_seam cX11_seam 4 (some .int) 2 := ⟨tw_562, tw_560, tw_561, tw_1, by decide +kernel⟩
theorem vt_X11_step : VT yX11_step cX11_step 2 (some .int) 1 := ⟨tw_567, tw_565, tw_566, tw_1, by decide +kernel⟩
theorem vt_X11_letPass : VT yX11_letPass cX11_letPass 5 (some .int) 2 := ⟨tw_571, tw_570, sp_X11_letPass, tw_1, by decide +kernel⟩
theorem vt_X5_pass : VT yX5_pass cX5_pass 3 none 2 := ⟨tw_577, tw_575, tw_576, tw_6, by decide +kernel⟩
theorem vt_X10_note : VT yX10_note cX10_note 2 none 1 := ⟨tw_581, tw_579, tw_580, tw_7, by decide +kernel⟩
theorem vt_X11_hold : VT yX11_hold cX11_hold 2 (some .int) 1 := ⟨tw_587, tw_585, tw_586, tw_1, by decide +kernel⟩
theorem vt_X11_roll : VT yX11_roll cX11_roll 2 (some .int) 1 := ⟨tw_591, tw_589, tw_590, tw_1, by decide +kernel⟩
theorem vt_X5_canGo : VT yX5_canGo cX5_canGo 4 (some .boolean) 2 := ⟨tw_595, tw_593, tw_594, tw_6, by decide +kernel⟩
theorem st_X11_besideOf : ST yX11_besideOf cX11_besideOf 2 (some .int) 2 := ⟨tw_598, tw_597, tw_1, by decide +kernel⟩
theorem vt_X6_letsThrough : VT yX6_letsThrough cX6_letsThrough 4 (some .boolean) 2 := ⟨tw_604, tw_602, tw_603, tw_5, by decide +kernel⟩
theorem vt_X5_go : VT yX5_go cX5_go 6 (some .int) 3 := ⟨tw_609, tw_607, tw_608, tw_6, by decide +kernel⟩
theorem vt_X2_climb : VT yX2_climb cX2_climb 4 (some .int) 3 := ⟨tw_614, tw_612, tw_613, tw_4, by decide +kernel⟩
theorem vt_X11_slack : VT yX11_slack cX11_slack 4 (some .int) 2 := ⟨tw_619, tw_617, tw_618, tw_1, by decide +kernel⟩
theorem vt_X11_drift : VT yX11_drift cX11_drift 5 (some .int) 1 := ⟨tw_623, tw_621, tw_622, tw_1, by decide +kernel⟩
theorem vt_X11_draw : VT yX11_draw cX11_draw 2 (some .int) 1 := ⟨tw_627, tw_626, sp_X11_draw, tw_1, by decide +kernel⟩
theorem vt_X11_undo : VT yX11_undo cX11_undo 2 (some .int) 1 := ⟨tw_635, tw_633, tw_634, tw_1, by decide +kernel⟩
theorem vt_X10_takeBack : VT yX10_takeBack cX10_takeBack 3 none 2 := ⟨tw_639, tw_637, tw_638, tw_7, by decide +kernel⟩
theorem vt_X11_cracks : VT yX11_cracks cX11_cracks 2 (some .int) 1 := ⟨tw_644, tw_642, tw_643, tw_1, by decide +kernel⟩
theorem vt_X8_firstCrack : VT yX8_firstCrack cX8_firstCrack 5 (some .int) 2 := ⟨tw_648, tw_646, tw_647, tw_3, by decide +kernel⟩
theorem vt_X11_worst : VT yX11_worst cX11_worst 1 (some .int) 0 := ⟨tw_652, tw_650, tw_651, tw_1, by decide +kernel⟩
theorem vt_X8_neediestHouse : VT yX8_neediestHouse cX8_neediestHouse 5 (some .int) 0 := ⟨tw_656, tw_654, tw_655, tw_3, by decide +kernel⟩
theorem vt_X11_water : VT yX11_water cX11_water 3 (some .int) 2 := ⟨tw_661, tw_659, tw_660, tw_1, by decide +kernel⟩
theorem vt_X2_flownTo : VT yX2_flownTo cX2_flownTo 6 (some .int) 3 := ⟨tw_665, tw_663, tw_664, tw_4, by decide +kernel⟩
theorem vt_X2_lowerBeside : VT yX2_lowerBeside cX2_lowerBeside 4 (some .int) 2 := ⟨tw_669, tw_668, sp_X2_lowerBeside, tw_4, by decide +kernel⟩
theorem vt_X11_mill : VT yX11_mill cX11_mill 3 (some .int) 2 := ⟨tw_673, tw_671, tw_672, tw_1, by decide +kernel⟩
theorem vt_X2_milled : VT yX2_milled cX2_milled 7 (some .int) 2 := ⟨tw_678, tw_676, tw_677, tw_4, by decide +kernel⟩
theorem vt_X11_bestMill : VT yX11_bestMill cX11_bestMill 1 (some .int) 0 := ⟨tw_685, tw_683, tw_684, tw_1, by decide +kernel⟩
theorem vt_X2_bestGap : VT yX2_bestGap cX2_bestGap 5 (some .int) 0 := ⟨tw_689, tw_687, tw_688, tw_4, by decide +kernel⟩
theorem vt_X11_soonest : VT yX11_soonest cX11_soonest 3 (some .int) 2 := ⟨tw_694, tw_692, tw_693, tw_1, by decide +kernel⟩
theorem vt_X3_fewestSteps : VT yX3_fewestSteps cX3_fewestSteps 8 (some .int) 4 := ⟨tw_698, tw_696, tw_697, tw_9, by decide +kernel⟩
theorem vt_X11_least : VT yX11_least cX11_least 5 (some .int) 4 := ⟨tw_704, tw_702, tw_703, tw_1, by decide +kernel⟩
theorem vt_X3_weigh : VT yX3_weigh cX3_weigh 9 none 4 := ⟨tw_708, tw_706, tw_707, tw_9, by decide +kernel⟩
theorem vt_X3_pulledBy : VT yX3_pulledBy cX3_pulledBy 8 (some .int) 5 := ⟨tw_714, tw_713, sp_X3_pulledBy, tw_9, by decide +kernel⟩
theorem vt_X3_pulledFrom : VT yX3_pulledFrom cX3_pulledFrom 3 (some .int) 2 := ⟨tw_720, tw_719, sp_X3_pulledFrom, tw_9, by decide +kernel⟩
theorem vt_X3_leastPulled : VT yX3_leastPulled cX3_leastPulled 3 (some .int) 1 := ⟨tw_726, tw_724, tw_725, tw_9, by decide +kernel⟩
theorem vt_X3_leastWay : VT yX3_leastWay cX3_leastWay 8 (some .int) 4 := ⟨tw_730, tw_728, tw_729, tw_9, by decide +kernel⟩
theorem vt_X3_firstBest : VT yX3_firstBest cX3_firstBest 7 (some .int) 4 := ⟨tw_735, tw_734, sp_X3_firstBest, tw_9, by decide +kernel⟩
theorem vt_X11_open : VT yX11_open cX11_open 2 (some .int) 1 := ⟨tw_739, tw_737, tw_738, tw_1, by decide +kernel⟩
theorem vt_X6_hasAll : VT yX6_hasAll cX6_hasAll 2 (some .boolean) 1 := ⟨tw_743, tw_741, tw_742, tw_5, by decide +kernel⟩
theorem vt_X6_waitFor : VT yX6_waitFor cX6_waitFor 6 (some .int) 2 := ⟨tw_747, tw_745, tw_746, tw_5, by decide +kernel⟩
theorem vt_X6_roundOf : VT yX6_roundOf cX6_roundOf 4 (some .int) 1 := ⟨tw_751, tw_750, sp_X6_roundOf, tw_5, by decide +kernel⟩
theorem vt_X6_someShutFor : VT yX6_someShutFor cX6_someShutFor 5 (some .int) 2 := ⟨tw_756, tw_755, sp_X6_someShutFor, tw_5, by decide +kernel⟩
theorem vt_X6_staysShut : VT yX6_staysShut cX6_staysShut 3 (some .int) 2 := ⟨tw_760, tw_759, sp_X6_staysShut, tw_5, by decide +kernel⟩
theorem vt_X11_longest : VT yX11_longest cX11_longest 2 (some .int) 1 := ⟨tw_764, tw_762, tw_763, tw_1, by decide +kernel⟩
theorem vt_X6_longestRun : VT yX6_longestRun cX6_longestRun 6 (some .int) 1 := ⟨tw_768, tw_766, tw_767, tw_5, by decide +kernel⟩
theorem vt_X6_allOpenFor : VT yX6_allOpenFor cX6_allOpenFor 5 (some .int) 2 := ⟨tw_772, tw_771, sp_X6_allOpenFor, tw_5, by decide +kernel⟩
theorem vt_X11_hear : VT yX11_hear cX11_hear 3 (some .int) 2 := ⟨tw_777, tw_775, tw_776, tw_1, by decide +kernel⟩
theorem vt_X1_note : VT yX1_note cX1_note 3 (some .int) 2 := ⟨tw_781, tw_779, tw_780, tw_10, by decide +kernel⟩
theorem vt_X11_began : VT yX11_began cX11_began 3 (some .int) 1 := ⟨tw_785, tw_783, tw_784, tw_1, by decide +kernel⟩
theorem vt_X1_gather : VT yX1_gather cX1_gather 5 (some .int) 1 := ⟨tw_789, tw_787, tw_788, tw_10, by decide +kernel⟩
theorem vt_X1_explains : VT yX1_explains cX1_explains 4 (some .boolean) 2 := ⟨tw_793, tw_792, sp_X1_explains, tw_10, by decide +kernel⟩
theorem vt_X11_watch : VT yX11_watch cX11_watch 2 (some .int) 0 := ⟨tw_798, tw_796, tw_797, tw_1, by decide +kernel⟩
theorem vt_X1_bestWatch : VT yX1_bestWatch cX1_bestWatch 7 (some .int) 2 := ⟨tw_802, tw_800, tw_801, tw_10, by decide +kernel⟩
theorem vt_X1_greatestPart : VT yX1_greatestPart cX1_greatestPart 6 (some .int) 2 := ⟨tw_806, tw_805, sp_X1_greatestPart, tw_10, by decide +kernel⟩
theorem vt_X11_see : VT yX11_see cX11_see 4 (some .int) 3 := ⟨tw_811, tw_809, tw_810, tw_1, by decide +kernel⟩
theorem vt_X7_note : VT yX7_note cX7_note 4 (some .int) 3 := ⟨tw_815, tw_813, tw_814, tw_11, by decide +kernel⟩
theorem vt_X11_rounds : VT yX11_rounds cX11_rounds 3 (some .int) 2 := ⟨tw_819, tw_817, tw_818, tw_1, by decide +kernel⟩
theorem vt_X7_countTurns : VT yX7_countTurns cX7_countTurns 6 (some .int) 2 := ⟨tw_823, tw_821, tw_822, tw_11, by decide +kernel⟩
theorem vt_X7_explains : VT yX7_explains cX7_explains 7 (some .boolean) 4 := ⟨tw_827, tw_826, sp_X7_explains, tw_11, by decide +kernel⟩
theorem vt_X7_findTurn : VT yX7_findTurn cX7_findTurn 7 (some .int) 3 := ⟨tw_833, tw_831, tw_832, tw_11, by decide +kernel⟩
theorem vt_X11_cellars : VT yX11_cellars cX11_cellars 3 (some .int) 2 := ⟨tw_837, tw_835, tw_836, tw_1, by decide +kernel⟩
theorem vt_X2_flooded : VT yX2_flooded cX2_flooded 7 (some .int) 3 := ⟨tw_841, tw_839, tw_840, tw_4, by decide +kernel⟩
theorem vt_X11_sluices : VT yX11_sluices cX11_sluices 5 (some .int) 3 := ⟨tw_845, tw_843, tw_844, tw_1, by decide +kernel⟩
theorem vt_X2_fewestSluices : VT yX2_fewestSluices cX2_fewestSluices 6 (some .int) 1 := ⟨tw_849, tw_847, tw_848, tw_4, by decide +kernel⟩
theorem st_J6_bitCount_0f7a4 : ST yJ6_bitCount_0f7a4 cJ6_bitCount_0f7a4 1 (some .int) 1 := ⟨tw_853, tw_852, tw_15, by decide +kernel⟩
theorem vt_X11_odds : VT yX11_odds cX11_odds 5 (some .int) 4 := ⟨tw_861, tw_859, tw_860, tw_1, by decide +kernel⟩
theorem vt_X2_chanceOf : VT yX2_chanceOf cX2_chanceOf 10 (some .int) 5 := ⟨tw_865, tw_863, tw_864, tw_4, by decide +kernel⟩
theorem vt_X2_shareOut : VT yX2_shareOut cX2_shareOut 6 none 2 := ⟨tw_870, tw_869, sp_X2_shareOut, tw_4, by decide +kernel⟩
theorem vt_X11_write : VT yX11_write cX11_write 2 (some .int) 1 := ⟨tw_875, tw_873, tw_874, tw_1, by decide +kernel⟩
theorem vt_X0_note : VT yX0_note cX0_note 2 (some .int) 1 := ⟨tw_879, tw_877, tw_878, tw_12, by decide +kernel⟩
theorem vt_X11_judge : VT yX11_judge cX11_judge 3 (some .int) 1 := ⟨tw_883, tw_881, tw_882, tw_1, by decide +kernel⟩
theorem vt_X0_tryFrom : VT yX0_tryFrom cX0_tryFrom 4 (some .int) 2 := ⟨tw_887, tw_885, tw_886, tw_12, by decide +kernel⟩
theorem vt_X5_become : VT yX5_become cX5_become 2 none 1 := ⟨tw_891, tw_889, tw_890, tw_6, by decide +kernel⟩
theorem vt_X11_tear : VT yX11_tear cX11_tear 2 (some .int) 0 := ⟨tw_897, tw_895, tw_896, tw_1, by decide +kernel⟩
theorem vt_X11_seed : VT yX11_seed cX11_seed 3 (some .int) 1 := ⟨tw_901, tw_899, tw_900, tw_1, by decide +kernel⟩
theorem vt_X11_keep : VT yX11_keep cX11_keep 2 (some .int) 1 := ⟨tw_905, tw_903, tw_904, tw_1, by decide +kernel⟩
theorem vt_X11_imageOf : VT yX11_imageOf cX11_imageOf 2 (some (.object "BreathStreet$Image")) 1 := ⟨tw_909, tw_908, sp_X11_imageOf, tw_1, by decide +kernel⟩
theorem vt_X4_take : VT yX4_take cX4_take 4 none 3 := ⟨tw_913, tw_911, tw_912, tw_8, by decide +kernel⟩
theorem vt_X11_goBack : VT yX11_goBack cX11_goBack 3 (some .int) 1 := ⟨tw_921, tw_919, tw_920, tw_1, by decide +kernel⟩
theorem vt_X4_giveBack : VT yX4_giveBack cX4_giveBack 3 none 2 := ⟨tw_925, tw_923, tw_924, tw_8, by decide +kernel⟩
theorem vt_X12_feed : VT yX12_feed cX12_feed 2 (some .int) 1 := ⟨tw_1039, tw_1037, tw_1038, tw_13, by decide +kernel⟩
theorem st_X12_in : ST yX12_in cX12_in 6 (some .boolean) 3 := ⟨tw_1043, tw_1042, tw_13, by decide +kernel⟩
theorem vt_X12_street : VT yX12_street cX12_street 2 (some .int) 0 := ⟨tw_1049, tw_1047, tw_1048, tw_13, by decide +kernel⟩
theorem vt_X12_here : VT yX12_here cX12_here 1 (some .int) 0 := ⟨tw_1053, tw_1052, sp_X12_here, tw_13, by decide +kernel⟩
theorem vt_X12_takeClause : VT yX12_takeClause cX12_takeClause 3 none 0 := ⟨tw_1057, tw_1056, sp_X12_takeClause, tw_13, by decide +kernel⟩
theorem vt_X12_want : VT yX12_want cX12_want 4 (some .boolean) 3 := ⟨tw_1061, tw_1060, sp_X12_want, tw_13, by decide +kernel⟩
theorem vt_X12_takeField : VT yX12_takeField cX12_takeField 2 none 0 := ⟨tw_1065, tw_1064, sp_X12_takeField, tw_13, by decide +kernel⟩
theorem vt_X12_takeNumber : VT yX12_takeNumber cX12_takeNumber 6 (some .int) 2 := ⟨tw_1069, tw_1068, sp_X12_takeNumber, tw_13, by decide +kernel⟩
theorem vt_X12_takeHouse : VT yX12_takeHouse cX12_takeHouse 2 none 0 := ⟨tw_1076, tw_1075, sp_X12_takeHouse, tw_13, by decide +kernel⟩
theorem vt_X12_takeSeam : VT yX12_takeSeam cX12_takeSeam 2 none 0 := ⟨tw_1080, tw_1079, sp_X12_takeSeam, tw_13, by decide +kernel⟩
theorem st_X12_common : ST yX12_common cX12_common 5 (some .int) 2 := ⟨tw_1083, tw_1082, tw_13, by decide +kernel⟩
theorem vt_X12_fault : VT yX12_fault cX12_fault 1 (some .int) 0 := ⟨tw_1087, tw_1085, tw_1086, tw_13, by decide +kernel⟩
theorem vt_X12_told : VT yX12_told cX12_told 2 (some .int) 1 := ⟨tw_1091, tw_1089, tw_1090, tw_13, by decide +kernel⟩
theorem vt_X12_openNow : VT yX12_openNow cX12_openNow 3 (some .int) 0 := ⟨tw_1095, tw_1094, sp_X12_openNow, tw_13, by decide +kernel⟩
theorem vt_X12_isSeamOpen : VT yX12_isSeamOpen cX12_isSeamOpen 4 (some .boolean) 2 := ⟨tw_1099, tw_1098, sp_X12_isSeamOpen, tw_13, by decide +kernel⟩
theorem st_X12_one : ST yX12_one cX12_one 1 (some .int) 1 := ⟨tw_1102, tw_1101, tw_13, by decide +kernel⟩
theorem vt_X12_crackNow : VT yX12_crackNow cX12_crackNow 3 (some .int) 0 := ⟨tw_1106, tw_1105, sp_X12_crackNow, tw_13, by decide +kernel⟩
theorem vt_X12_cracksAt : VT yX12_cracksAt cX12_cracksAt 3 (some .boolean) 2 := ⟨tw_1110, tw_1109, sp_X12_cracksAt, tw_13, by decide +kernel⟩
theorem vt_X12_leanOf : VT yX12_leanOf cX12_leanOf 3 (some .int) 2 := ⟨tw_1114, tw_1113, sp_X12_leanOf, tw_13, by decide +kernel⟩
theorem vt_X12_heightOf : VT yX12_heightOf cX12_heightOf 3 (some .int) 2 := ⟨tw_1118, tw_1117, sp_X12_heightOf, tw_13, by decide +kernel⟩
theorem st_X12_heightBy : ST yX12_heightBy cX12_heightBy 6 (some .int) 5 := ⟨tw_1121, tw_1120, tw_13, by decide +kernel⟩
theorem st_X12_size : ST yX12_size cX12_size 1 (some .int) 1 := ⟨tw_1124, tw_1123, tw_13, by decide +kernel⟩
theorem vt_X12_field : VT yX12_field cX12_field 3 (some .int) 2 := ⟨tw_1128, tw_1126, tw_1127, tw_13, by decide +kernel⟩
theorem vt_X12_isField : VT yX12_isField cX12_isField 2 (some .boolean) 1 := ⟨tw_1132, tw_1131, sp_X12_isField, tw_13, by decide +kernel⟩
theorem vt_X12_height : VT yX12_height cX12_height 3 (some .int) 2 := ⟨tw_1138, tw_1136, tw_1137, tw_13, by decide +kernel⟩
theorem vt_X12_house : VT yX12_house cX12_house 3 (some .int) 2 := ⟨tw_1143, tw_1141, tw_1142, tw_13, by decide +kernel⟩
theorem vt_X12_needs : VT yX12_needs cX12_needs 5 (some .int) 1 := ⟨tw_1147, tw_1146, sp_X12_needs, tw_13, by decide +kernel⟩
theorem vt_X12_seam : VT yX12_seam cX12_seam 3 (some .int) 2 := ⟨tw_1151, tw_1149, tw_1150, tw_13, by decide +kernel⟩
theorem vt_X12_step : VT yX12_step cX12_step 2 (some .int) 1 := ⟨tw_1155, tw_1153, tw_1154, tw_13, by decide +kernel⟩
theorem vt_X12_pass : VT yX12_pass cX12_pass 4 (some .int) 2 := ⟨tw_1159, tw_1158, sp_X12_pass, tw_13, by decide +kernel⟩
theorem vt_X12_remember : VT yX12_remember cX12_remember 2 none 0 := ⟨tw_1165, tw_1164, sp_X12_remember, tw_13, by decide +kernel⟩
theorem vt_X12_hold : VT yX12_hold cX12_hold 2 (some .int) 1 := ⟨tw_1169, tw_1167, tw_1168, tw_13, by decide +kernel⟩
theorem vt_X12_roll : VT yX12_roll cX12_roll 2 (some .int) 1 := ⟨tw_1173, tw_1171, tw_1172, tw_13, by decide +kernel⟩
theorem vt_X12_to : VT yX12_to cX12_to 8 (some .int) 3 := ⟨tw_1178, tw_1177, sp_X12_to, tw_13, by decide +kernel⟩
theorem vt_X12_rollOn : VT yX12_rollOn cX12_rollOn 5 (some .int) 2 := ⟨tw_1183, tw_1182, sp_X12_rollOn, tw_13, by decide +kernel⟩
theorem vt_X12_pulledBy : VT yX12_pulledBy cX12_pulledBy 5 (some .int) 3 := ⟨tw_1187, tw_1186, sp_X12_pulledBy, tw_13, by decide +kernel⟩
theorem vt_X12_slack : VT yX12_slack cX12_slack 4 (some .int) 2 := ⟨tw_1191, tw_1189, tw_1190, tw_13, by decide +kernel⟩
theorem vt_X12_drift : VT yX12_drift cX12_drift 6 (some .int) 1 := ⟨tw_1195, tw_1193, tw_1194, tw_13, by decide +kernel⟩
theorem vt_X12_draw : VT yX12_draw cX12_draw 2 (some .int) 1 := ⟨tw_1200, tw_1199, sp_X12_draw, tw_13, by decide +kernel⟩
theorem vt_X12_undo : VT yX12_undo cX12_undo 3 (some .int) 1 := ⟨tw_1208, tw_1206, tw_1207, tw_13, by decide +kernel⟩
theorem vt_X12_cracks : VT yX12_cracks cX12_cracks 3 (some .int) 1 := ⟨tw_1213, tw_1211, tw_1212, tw_13, by decide +kernel⟩
theorem vt_X12_worst : VT yX12_worst cX12_worst 5 (some .int) 0 := ⟨tw_1217, tw_1215, tw_1216, tw_13, by decide +kernel⟩
theorem vt_X12_water : VT yX12_water cX12_water 5 (some .int) 2 := ⟨tw_1221, tw_1219, tw_1220, tw_13, by decide +kernel⟩
theorem vt_X12_flows : VT yX12_flows cX12_flows 6 (some .int) 2 := ⟨tw_1225, tw_1224, sp_X12_flows, tw_13, by decide +kernel⟩
theorem vt_X12_mill : VT yX12_mill cX12_mill 3 (some .int) 2 := ⟨tw_1229, tw_1227, tw_1228, tw_13, by decide +kernel⟩
theorem vt_X12_ground : VT yX12_ground cX12_ground 6 (some .int) 2 := ⟨tw_1233, tw_1232, sp_X12_ground, tw_13, by decide +kernel⟩
theorem vt_X12_bestMill : VT yX12_bestMill cX12_bestMill 5 (some .int) 0 := ⟨tw_1237, tw_1235, tw_1236, tw_13, by decide +kernel⟩
theorem vt_X12_soonest : VT yX12_soonest cX12_soonest 9 (some .int) 2 := ⟨tw_1241, tw_1239, tw_1240, tw_13, by decide +kernel⟩
theorem st_X12_has : ST yX12_has cX12_has 2 (some .boolean) 2 := ⟨tw_1244, tw_1243, tw_13, by decide +kernel⟩
theorem vt_X12_least : VT yX12_least cX12_least 9 (some .int) 4 := ⟨tw_1248, tw_1246, tw_1247, tw_13, by decide +kernel⟩
theorem vt_X12_findLeast : VT yX12_findLeast cX12_findLeast 5 none 2 := ⟨tw_1253, tw_1252, sp_X12_findLeast, tw_13, by decide +kernel⟩
theorem vt_X12_bestWay : VT yX12_bestWay cX12_bestWay 6 (some .int) 3 := ⟨tw_1258, tw_1257, sp_X12_bestWay, tw_13, by decide +kernel⟩
theorem vt_X12_leastBy : VT yX12_leastBy cX12_leastBy 7 (some .int) 4 := ⟨tw_1262, tw_1261, sp_X12_leastBy, tw_13, by decide +kernel⟩
theorem vt_X12_open : VT yX12_open cX12_open 4 (some .int) 1 := ⟨tw_1266, tw_1264, tw_1265, tw_13, by decide +kernel⟩
theorem vt_X12_isSeamSet : VT yX12_isSeamSet cX12_isSeamSet 2 (some .boolean) 1 := ⟨tw_1270, tw_1269, sp_X12_isSeamSet, tw_13, by decide +kernel⟩
theorem vt_X12_roundOfSeams : VT yX12_roundOfSeams cX12_roundOfSeams 5 (some .int) 1 := ⟨tw_1274, tw_1273, sp_X12_roundOfSeams, tw_13, by decide +kernel⟩
theorem vt_X12_areOpen : VT yX12_areOpen cX12_areOpen 5 (some .boolean) 2 := ⟨tw_1278, tw_1277, sp_X12_areOpen, tw_13, by decide +kernel⟩
theorem vt_X12_longest : VT yX12_longest cX12_longest 6 (some .int) 1 := ⟨tw_1282, tw_1280, tw_1281, tw_13, by decide +kernel⟩
theorem vt_X12_hear : VT yX12_hear cX12_hear 3 (some .int) 2 := ⟨tw_1286, tw_1284, tw_1285, tw_13, by decide +kernel⟩
theorem vt_X12_began : VT yX12_began cX12_began 5 (some .int) 1 := ⟨tw_1290, tw_1288, tw_1289, tw_13, by decide +kernel⟩
theorem vt_X12_couldBegin : VT yX12_couldBegin cX12_couldBegin 5 (some .boolean) 2 := ⟨tw_1294, tw_1293, sp_X12_couldBegin, tw_13, by decide +kernel⟩
theorem vt_X12_watch : VT yX12_watch cX12_watch 5 (some .int) 0 := ⟨tw_1298, tw_1296, tw_1297, tw_13, by decide +kernel⟩
theorem vt_X12_greatestPart : VT yX12_greatestPart cX12_greatestPart 6 (some .int) 1 := ⟨tw_1303, tw_1302, sp_X12_greatestPart, tw_13, by decide +kernel⟩
theorem vt_X12_see : VT yX12_see cX12_see 4 (some .int) 3 := ⟨tw_1307, tw_1305, tw_1306, tw_13, by decide +kernel⟩
theorem vt_X12_rounds : VT yX12_rounds cX12_rounds 6 (some .int) 2 := ⟨tw_1312, tw_1310, tw_1311, tw_13, by decide +kernel⟩
theorem vt_X12_goesRound : VT yX12_goesRound cX12_goesRound 6 (some .boolean) 3 := ⟨tw_1316, tw_1315, sp_X12_goesRound, tw_13, by decide +kernel⟩
theorem vt_X12_cellars : VT yX12_cellars cX12_cellars 3 (some .int) 2 := ⟨tw_1320, tw_1318, tw_1319, tw_13, by decide +kernel⟩
theorem vt_X12_flooded : VT yX12_flooded cX12_flooded 6 (some .int) 2 := ⟨tw_1324, tw_1323, sp_X12_flooded, tw_13, by decide +kernel⟩
theorem vt_X12_sluices : VT yX12_sluices cX12_sluices 8 (some .int) 3 := ⟨tw_1328, tw_1326, tw_1327, tw_13, by decide +kernel⟩
theorem st_X12_ones : ST yX12_ones cX12_ones 3 (some .int) 1 := ⟨tw_1331, tw_1330, tw_13, by decide +kernel⟩
theorem vt_X12_odds : VT yX12_odds cX12_odds 8 (some .int) 4 := ⟨tw_1335, tw_1333, tw_1334, tw_13, by decide +kernel⟩
theorem vt_X12_write : VT yX12_write cX12_write 2 (some .int) 1 := ⟨tw_1342, tw_1340, tw_1341, tw_13, by decide +kernel⟩
theorem vt_X12_judge : VT yX12_judge cX12_judge 6 (some .int) 1 := ⟨tw_1346, tw_1344, tw_1345, tw_13, by decide +kernel⟩
theorem vt_X12_tear : VT yX12_tear cX12_tear 2 (some .int) 0 := ⟨tw_1350, tw_1348, tw_1349, tw_13, by decide +kernel⟩
theorem vt_X12_seed : VT yX12_seed cX12_seed 3 (some .int) 1 := ⟨tw_1354, tw_1352, tw_1353, tw_13, by decide +kernel⟩
theorem vt_X12_keep : VT yX12_keep cX12_keep 2 (some .int) 1 := ⟨tw_1358, tw_1356, tw_1357, tw_13, by decide +kernel⟩
theorem vt_X12_copy : VT yX12_copy cX12_copy 4 none 2 := ⟨tw_1362, tw_1361, sp_X12_copy, tw_13, by decide +kernel⟩
theorem vt_X12_goBack : VT yX12_goBack cX12_goBack 2 (some .int) 1 := ⟨tw_1366, tw_1364, tw_1365, tw_13, by decide +kernel⟩
