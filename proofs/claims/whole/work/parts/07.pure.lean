def am_fuel : Nat := 100000
theorem fl_RX8_12 : am_FL RX8 12 8 0 := ⟨RX8, TX8, 16, ⟨by decide, rfl, rfl, am_in8⟩, by decide, Or.inl tw_228⟩
theorem fl_RX8_19 : am_FL RX8 19 8 1 := ⟨RX8, TX8, 16, ⟨by decide, rfl, rfl, am_in8⟩, by decide, Or.inl tw_229⟩
theorem fl_RX8_27 : am_FL RX8 27 8 2 := ⟨RX8, TX8, 16, ⟨by decide, rfl, rfl, am_in8⟩, by decide, Or.inl tw_230⟩
theorem fl_RX8_31 : am_FL RX8 31 8 3 := ⟨RX8, TX8, 16, ⟨by decide, rfl, rfl, am_in8⟩, by decide, Or.inl tw_231⟩
theorem fl_RX8_39 : am_FL RX8 39 8 4 := ⟨RX8, TX8, 16, ⟨by decide, rfl, rfl, am_in8⟩, by decide, Or.inl tw_232⟩
theorem fl_RX8_42 : am_FL RX8 42 8 5 := ⟨RX8, TX8, 16, ⟨by decide, rfl, rfl, am_in8⟩, by decide, Or.inl tw_233⟩
theorem fl_RX8_48 : am_FL RX8 48 8 6 := ⟨RX8, TX8, 16, ⟨by decide, rfl, rfl, am_in8⟩, by decide, Or.inl tw_234⟩
theorem fl_RX8_55 : am_FL RX8 55 8 7 := ⟨RX8, TX8, 16, ⟨by decide, rfl, rfl, am_in8⟩, by decide, Or.inl tw_235⟩
theorem fp_RX8_62 : am_FP RX8 62 8 8 (.object "ZSaves$Session") false := ⟨RX8, TX8, 16, tyX8, ⟨by decide, rfl, rfl, am_in8⟩, by decide, Or.inl tw_236, tyX8_ok, nmX8, by decide +kernel, rfl, fun z => by cases z⟩
theorem fl_RX8_62 : am_FL RX8 62 8 8 := ⟨RX8, TX8, 16, ⟨by decide, rfl, rfl, am_in8⟩, by decide, Or.inl tw_236⟩
theorem fp_RX8_66 : am_FP RX8 66 8 9 (.object "ZSaves$Session") false := ⟨RX8, TX8, 16, tyX8, ⟨by decide, rfl, rfl, am_in8⟩, by decide, Or.inl tw_237, tyX8_ok, nmX8, by decide +kernel, rfl, fun z => by cases z⟩
theorem fl_RX8_66 : am_FL RX8 66 8 9 := ⟨RX8, TX8, 16, ⟨by decide, rfl, rfl, am_in8⟩, by decide, Or.inl tw_237⟩
theorem fp_RX8_72 : am_FP RX8 72 8 10 (.object "ZSaves$Strangers") false := ⟨RX8, TX8, 16, tyX8, ⟨by decide, rfl, rfl, am_in8⟩, by decide, Or.inl tw_238, tyX8_ok, nmX8, by decide +kernel, rfl, fun z => by cases z⟩
theorem fl_RX8_72 : am_FL RX8 72 8 10 := ⟨RX8, TX8, 16, ⟨by decide, rfl, rfl, am_in8⟩, by decide, Or.inl tw_238⟩
theorem fp_RX8_76 : am_FP RX8 76 8 11 (.object "ZSaves$Strangers") false := ⟨RX8, TX8, 16, tyX8, ⟨by decide, rfl, rfl, am_in8⟩, by decide, Or.inl tw_239, tyX8_ok, nmX8, by decide +kernel, rfl, fun z => by cases z⟩
theorem fl_RX8_76 : am_FL RX8 76 8 11 := ⟨RX8, TX8, 16, ⟨by decide, rfl, rfl, am_in8⟩, by decide, Or.inl tw_239⟩
theorem fp_RX8_79 : am_FP RX8 79 8 12 (.boolean) false := ⟨RX8, TX8, 16, tyX8, ⟨by decide, rfl, rfl, am_in8⟩, by decide, Or.inl tw_240, tyX8_ok, nmX8, by decide +kernel, rfl, fun z => by cases z⟩
theorem fl_RX8_79 : am_FL RX8 79 8 12 := ⟨RX8, TX8, 16, ⟨by decide, rfl, rfl, am_in8⟩, by decide, Or.inl tw_240⟩
theorem fp_RX8_83 : am_FP RX8 83 8 13 (.int) false := ⟨RX8, TX8, 16, tyX8, ⟨by decide, rfl, rfl, am_in8⟩, by decide, Or.inl tw_241, tyX8_ok, nmX8, by decide +kernel, rfl, fun z => by cases z⟩
theorem fl_RX8_83 : am_FL RX8 83 8 13 := ⟨RX8, TX8, 16, ⟨by decide, rfl, rfl, am_in8⟩, by decide, Or.inl tw_241⟩
theorem fp_RX8_87 : am_FP RX8 87 8 14 (.int) false := ⟨RX8, TX8, 16, tyX8, ⟨by decide, rfl, rfl, am_in8⟩, by decide, Or.inl tw_242, tyX8_ok, nmX8, by decide +kernel, rfl, fun z => by cases z⟩
theorem fl_RX8_87 : am_FL RX8 87 8 14 := ⟨RX8, TX8, 16, ⟨by decide, rfl, rfl, am_in8⟩, by decide, Or.inl tw_242⟩
theorem fp_RX8_90 : am_FP RX8 90 8 15 (.int) false := ⟨RX8, TX8, 16, tyX8, ⟨by decide, rfl, rfl, am_in8⟩, by decide, Or.inl tw_243, tyX8_ok, nmX8, by decide +kernel, rfl, fun z => by cases z⟩
theorem fl_RX8_90 : am_FL RX8 90 8 15 := ⟨RX8, TX8, 16, ⟨by decide, rfl, rfl, am_in8⟩, by decide, Or.inl tw_243⟩
theorem fl_RX8_101 : am_FL RX8 101 0 1 := ⟨RX0, TX0, 2, ⟨by decide, rfl, rfl, am_in0⟩, by decide, Or.inr ⟨_, tn_41⟩⟩
theorem fl_RX8_136 : am_FL RX8 136 4 2 := ⟨RX4, TX4, 5, ⟨by decide, rfl, rfl, am_in4⟩, by decide, Or.inr ⟨_, tn_183⟩⟩
theorem fp_RX8_144 : am_FP RX8 144 4 3 (.int) false := ⟨RX4, TX4, 5, tyX4, ⟨by decide, rfl, rfl, am_in4⟩, by decide, Or.inr ⟨⟨_, tn_188⟩, rfl⟩, tyX4_ok, nmX4, by decide +kernel, rfl, fun z => by cases z⟩
theorem fl_RX8_144 : am_FL RX8 144 4 3 := ⟨RX4, TX4, 5, ⟨by decide, rfl, rfl, am_in4⟩, by decide, Or.inr ⟨_, tn_188⟩⟩
theorem fp_RX8_147 : am_FP RX8 147 4 4 (.int) false := ⟨RX4, TX4, 5, tyX4, ⟨by decide, rfl, rfl, am_in4⟩, by decide, Or.inr ⟨⟨_, tn_190⟩, rfl⟩, tyX4_ok, nmX4, by decide +kernel, rfl, fun z => by cases z⟩
theorem fl_RX8_147 : am_FL RX8 147 4 4 := ⟨RX4, TX4, 5, ⟨by decide, rfl, rfl, am_in4⟩, by decide, Or.inr ⟨_, tn_190⟩⟩
theorem fl_RX8_158 : am_FL RX8 158 1 1 := ⟨RX1, TX1, 6, ⟨by decide, rfl, rfl, am_in1⟩, by decide, Or.inr ⟨_, tn_158⟩⟩
theorem fl_RX8_163 : am_FL RX8 163 1 4 := ⟨RX1, TX1, 6, ⟨by decide, rfl, rfl, am_in1⟩, by decide, Or.inr ⟨_, tn_164⟩⟩
theorem fp_RX8_173 : am_FP RX8 173 1 5 (.int) false := ⟨RX1, TX1, 6, tyX1, ⟨by decide, rfl, rfl, am_in1⟩, by decide, Or.inr ⟨⟨_, tn_166⟩, rfl⟩, tyX1_ok, nmX1, by decide +kernel, rfl, fun z => by cases z⟩
theorem fl_RX8_173 : am_FL RX8 173 1 5 := ⟨RX1, TX1, 6, ⟨by decide, rfl, rfl, am_in1⟩, by decide, Or.inr ⟨_, tn_166⟩⟩
theorem fl_RX8_186 : am_FL RX8 186 1 2 := ⟨RX1, TX1, 6, ⟨by decide, rfl, rfl, am_in1⟩, by decide, Or.inr ⟨_, tn_160⟩⟩
theorem fl_RX8_189 : am_FL RX8 189 1 3 := ⟨RX1, TX1, 6, ⟨by decide, rfl, rfl, am_in1⟩, by decide, Or.inr ⟨_, tn_162⟩⟩
theorem fl_RX8_241 : am_FL RX8 241 7 4 := ⟨RX7, TX7, 5, ⟨by decide, rfl, rfl, am_in7⟩, by decide, Or.inr ⟨_, tn_81⟩⟩
theorem fp_RX8_252 : am_FP RX8 252 2 5 (.int) false := ⟨RX2, TX2, 6, tyX2, ⟨by decide, rfl, rfl, am_in2⟩, by decide, Or.inr ⟨⟨_, tn_129⟩, rfl⟩, tyX2_ok, nmX2, by decide +kernel, rfl, fun z => by cases z⟩
theorem fl_RX8_252 : am_FL RX8 252 2 5 := ⟨RX2, TX2, 6, ⟨by decide, rfl, rfl, am_in2⟩, by decide, Or.inr ⟨_, tn_129⟩⟩
theorem fl_RX8_259 : am_FL RX8 259 2 4 := ⟨RX2, TX2, 6, ⟨by decide, rfl, rfl, am_in2⟩, by decide, Or.inr ⟨_, tn_127⟩⟩
theorem fl_RX8_267 : am_FL RX8 267 2 0 := ⟨RX2, TX2, 6, ⟨by decide, rfl, rfl, am_in2⟩, by decide, Or.inr ⟨_, tn_122⟩⟩
theorem fl_RX8_270 : am_FL RX8 270 6 3 := ⟨RX6, TX6, 4, ⟨by decide, rfl, rfl, am_in6⟩, by decide, Or.inr ⟨_, tn_218⟩⟩
theorem fl_RX8_271 : am_FL RX8 271 5 2 := ⟨RX5, TX5, 3, ⟨by decide, rfl, rfl, am_in5⟩, by decide, Or.inr ⟨_, tn_105⟩⟩
theorem fl_RX0_15 : am_FL RX0 15 0 0 := ⟨RX0, TX0, 2, ⟨by decide, rfl, rfl, am_in0⟩, by decide, Or.inl tw_37⟩
theorem fp_RX0_21 : am_FP RX0 21 0 1 (.int) false := ⟨RX0, TX0, 2, tyX0, ⟨by decide, rfl, rfl, am_in0⟩, by decide, Or.inl tw_38, tyX0_ok, nmX0, by decide +kernel, rfl, fun z => by cases z⟩
theorem fl_RX0_21 : am_FL RX0 21 0 1 := ⟨RX0, TX0, 2, ⟨by decide, rfl, rfl, am_in0⟩, by decide, Or.inl tw_38⟩
theorem fl_RX1_9 : am_FL RX1 9 1 0 := ⟨RX1, TX1, 6, ⟨by decide, rfl, rfl, am_in1⟩, by decide, Or.inl tw_156⟩
theorem fp_RX1_15 : am_FP RX1 15 1 1 (.int) false := ⟨RX1, TX1, 6, tyX1, ⟨by decide, rfl, rfl, am_in1⟩, by decide, Or.inl tw_157, tyX1_ok, nmX1, by decide +kernel, rfl, fun z => by cases z⟩
theorem fl_RX1_15 : am_FL RX1 15 1 1 := ⟨RX1, TX1, 6, ⟨by decide, rfl, rfl, am_in1⟩, by decide, Or.inl tw_157⟩
theorem fp_RX1_19 : am_FP RX1 19 1 2 (.int) false := ⟨RX1, TX1, 6, tyX1, ⟨by decide, rfl, rfl, am_in1⟩, by decide, Or.inl tw_159, tyX1_ok, nmX1, by decide +kernel, rfl, fun z => by cases z⟩
theorem fl_RX1_19 : am_FL RX1 19 1 2 := ⟨RX1, TX1, 6, ⟨by decide, rfl, rfl, am_in1⟩, by decide, Or.inl tw_159⟩
theorem fp_RX1_22 : am_FP RX1 22 1 3 (.int) false := ⟨RX1, TX1, 6, tyX1, ⟨by decide, rfl, rfl, am_in1⟩, by decide, Or.inl tw_161, tyX1_ok, nmX1, by decide +kernel, rfl, fun z => by cases z⟩
theorem fl_RX1_22 : am_FL RX1 22 1 3 := ⟨RX1, TX1, 6, ⟨by decide, rfl, rfl, am_in1⟩, by decide, Or.inl tw_161⟩
theorem fp_RX1_25 : am_FP RX1 25 1 4 (.int) false := ⟨RX1, TX1, 6, tyX1, ⟨by decide, rfl, rfl, am_in1⟩, by decide, Or.inl tw_163, tyX1_ok, nmX1, by decide +kernel, rfl, fun z => by cases z⟩
theorem fl_RX1_25 : am_FL RX1 25 1 4 := ⟨RX1, TX1, 6, ⟨by decide, rfl, rfl, am_in1⟩, by decide, Or.inl tw_163⟩
theorem fp_RX1_28 : am_FP RX1 28 1 5 (.int) false := ⟨RX1, TX1, 6, tyX1, ⟨by decide, rfl, rfl, am_in1⟩, by decide, Or.inl tw_165, tyX1_ok, nmX1, by decide +kernel, rfl, fun z => by cases z⟩
theorem fl_RX1_28 : am_FL RX1 28 1 5 := ⟨RX1, TX1, 6, ⟨by decide, rfl, rfl, am_in1⟩, by decide, Or.inl tw_165⟩
theorem fl_RX2_14 : am_FL RX2 14 2 0 := ⟨RX2, TX2, 6, ⟨by decide, rfl, rfl, am_in2⟩, by decide, Or.inl tw_121⟩
theorem fl_RX2_20 : am_FL RX2 20 2 1 := ⟨RX2, TX2, 6, ⟨by decide, rfl, rfl, am_in2⟩, by decide, Or.inl tw_123⟩
theorem fl_RX2_24 : am_FL RX2 24 2 2 := ⟨RX2, TX2, 6, ⟨by decide, rfl, rfl, am_in2⟩, by decide, Or.inl tw_124⟩
theorem fl_RX2_27 : am_FL RX2 27 2 3 := ⟨RX2, TX2, 6, ⟨by decide, rfl, rfl, am_in2⟩, by decide, Or.inl tw_125⟩
theorem fp_RX2_30 : am_FP RX2 30 2 4 (.int) false := ⟨RX2, TX2, 6, tyX2, ⟨by decide, rfl, rfl, am_in2⟩, by decide, Or.inl tw_126, tyX2_ok, nmX2, by decide +kernel, rfl, fun z => by cases z⟩
theorem fl_RX2_30 : am_FL RX2 30 2 4 := ⟨RX2, TX2, 6, ⟨by decide, rfl, rfl, am_in2⟩, by decide, Or.inl tw_126⟩
theorem fl_RX2_34 : am_FL RX2 34 2 5 := ⟨RX2, TX2, 6, ⟨by decide, rfl, rfl, am_in2⟩, by decide, Or.inl tw_128⟩
theorem fl_RX2_40 : am_FL RX2 40 0 1 := ⟨RX0, TX0, 2, ⟨by decide, rfl, rfl, am_in0⟩, by decide, Or.inr ⟨_, tn_42⟩⟩
theorem fp_RX2_70 : am_FP RX2 70 4 3 (.int) false := ⟨RX4, TX4, 5, tyX4, ⟨by decide, rfl, rfl, am_in4⟩, by decide, Or.inr ⟨⟨_, tn_186⟩, rfl⟩, tyX4_ok, nmX4, by decide +kernel, rfl, fun z => by cases z⟩
theorem fl_RX2_70 : am_FL RX2 70 4 3 := ⟨RX4, TX4, 5, ⟨by decide, rfl, rfl, am_in4⟩, by decide, Or.inr ⟨_, tn_186⟩⟩
theorem fl_RX3_14 : am_FL RX3 14 3 0 := ⟨RX3, TX3, 5, ⟨by decide, rfl, rfl, am_in3⟩, by decide, Or.inl tw_50⟩
theorem fp_RX3_20 : am_FP RX3 20 3 1 (.boolean) false := ⟨RX3, TX3, 5, tyX3, ⟨by decide, rfl, rfl, am_in3⟩, by decide, Or.inl tw_52, tyX3_ok, nmX3, by decide +kernel, rfl, fun z => by cases z⟩
theorem fl_RX3_20 : am_FL RX3 20 3 1 := ⟨RX3, TX3, 5, ⟨by decide, rfl, rfl, am_in3⟩, by decide, Or.inl tw_52⟩
theorem fp_RX3_24 : am_FP RX3 24 3 2 (.boolean) false := ⟨RX3, TX3, 5, tyX3, ⟨by decide, rfl, rfl, am_in3⟩, by decide, Or.inl tw_53, tyX3_ok, nmX3, by decide +kernel, rfl, fun z => by cases z⟩
theorem fl_RX3_24 : am_FL RX3 24 3 2 := ⟨RX3, TX3, 5, ⟨by decide, rfl, rfl, am_in3⟩, by decide, Or.inl tw_53⟩
theorem fp_RX3_27 : am_FP RX3 27 3 3 (.boolean) false := ⟨RX3, TX3, 5, tyX3, ⟨by decide, rfl, rfl, am_in3⟩, by decide, Or.inl tw_54, tyX3_ok, nmX3, by decide +kernel, rfl, fun z => by cases z⟩
theorem fl_RX3_27 : am_FL RX3 27 3 3 := ⟨RX3, TX3, 5, ⟨by decide, rfl, rfl, am_in3⟩, by decide, Or.inl tw_54⟩
theorem fp_RX3_30 : am_FP RX3 30 3 4 (.int) false := ⟨RX3, TX3, 5, tyX3, ⟨by decide, rfl, rfl, am_in3⟩, by decide, Or.inl tw_55, tyX3_ok, nmX3, by decide +kernel, rfl, fun z => by cases z⟩
theorem fl_RX3_30 : am_FL RX3 30 3 4 := ⟨RX3, TX3, 5, ⟨by decide, rfl, rfl, am_in3⟩, by decide, Or.inl tw_55⟩
theorem fl_RX3_49 : am_FL RX3 49 0 1 := ⟨RX0, TX0, 2, ⟨by decide, rfl, rfl, am_in0⟩, by decide, Or.inr ⟨_, tn_40⟩⟩
theorem fp_RX3_92 : am_FP RX3 92 4 3 (.int) false := ⟨RX4, TX4, 5, tyX4, ⟨by decide, rfl, rfl, am_in4⟩, by decide, Or.inr ⟨⟨_, tn_187⟩, rfl⟩, tyX4_ok, nmX4, by decide +kernel, rfl, fun z => by cases z⟩
theorem fl_RX3_92 : am_FL RX3 92 4 3 := ⟨RX4, TX4, 5, ⟨by decide, rfl, rfl, am_in4⟩, by decide, Or.inr ⟨_, tn_187⟩⟩
theorem fl_RX3_99 : am_FL RX3 99 4 2 := ⟨RX4, TX4, 5, ⟨by decide, rfl, rfl, am_in4⟩, by decide, Or.inr ⟨_, tn_184⟩⟩
theorem fl_RX4_9 : am_FL RX4 9 4 0 := ⟨RX4, TX4, 5, ⟨by decide, rfl, rfl, am_in4⟩, by decide, Or.inl tw_180⟩
theorem fl_RX4_17 : am_FL RX4 17 4 1 := ⟨RX4, TX4, 5, ⟨by decide, rfl, rfl, am_in4⟩, by decide, Or.inl tw_181⟩
theorem fp_RX4_21 : am_FP RX4 21 4 2 (.int) false := ⟨RX4, TX4, 5, tyX4, ⟨by decide, rfl, rfl, am_in4⟩, by decide, Or.inl tw_182, tyX4_ok, nmX4, by decide +kernel, rfl, fun z => by cases z⟩
theorem fl_RX4_21 : am_FL RX4 21 4 2 := ⟨RX4, TX4, 5, ⟨by decide, rfl, rfl, am_in4⟩, by decide, Or.inl tw_182⟩
theorem fp_RX4_25 : am_FP RX4 25 4 3 (.int) false := ⟨RX4, TX4, 5, tyX4, ⟨by decide, rfl, rfl, am_in4⟩, by decide, Or.inl tw_185, tyX4_ok, nmX4, by decide +kernel, rfl, fun z => by cases z⟩
theorem fl_RX4_25 : am_FL RX4 25 4 3 := ⟨RX4, TX4, 5, ⟨by decide, rfl, rfl, am_in4⟩, by decide, Or.inl tw_185⟩
theorem fp_RX4_28 : am_FP RX4 28 4 4 (.int) false := ⟨RX4, TX4, 5, tyX4, ⟨by decide, rfl, rfl, am_in4⟩, by decide, Or.inl tw_189, tyX4_ok, nmX4, by decide +kernel, rfl, fun z => by cases z⟩
theorem fl_RX4_28 : am_FL RX4 28 4 4 := ⟨RX4, TX4, 5, ⟨by decide, rfl, rfl, am_in4⟩, by decide, Or.inl tw_189⟩
theorem fl_RX4_32 : am_FL RX4 32 5 2 := ⟨RX5, TX5, 3, ⟨by decide, rfl, rfl, am_in5⟩, by decide, Or.inr ⟨_, tn_104⟩⟩
theorem fl_RX5_9 : am_FL RX5 9 5 0 := ⟨RX5, TX5, 3, ⟨by decide, rfl, rfl, am_in5⟩, by decide, Or.inl tw_101⟩
theorem fl_RX5_15 : am_FL RX5 15 5 1 := ⟨RX5, TX5, 3, ⟨by decide, rfl, rfl, am_in5⟩, by decide, Or.inl tw_102⟩
theorem fp_RX5_18 : am_FP RX5 18 5 2 (.int) false := ⟨RX5, TX5, 3, tyX5, ⟨by decide, rfl, rfl, am_in5⟩, by decide, Or.inl tw_103, tyX5_ok, nmX5, by decide +kernel, rfl, fun z => by cases z⟩
theorem fl_RX5_18 : am_FL RX5 18 5 2 := ⟨RX5, TX5, 3, ⟨by decide, rfl, rfl, am_in5⟩, by decide, Or.inl tw_103⟩
theorem fl_RX5_28 : am_FL RX5 28 0 1 := ⟨RX0, TX0, 2, ⟨by decide, rfl, rfl, am_in0⟩, by decide, Or.inr ⟨_, tn_39⟩⟩
theorem fl_RX6_14 : am_FL RX6 14 6 0 := ⟨RX6, TX6, 4, ⟨by decide, rfl, rfl, am_in6⟩, by decide, Or.inl tw_210⟩
theorem fl_RX6_20 : am_FL RX6 20 6 1 := ⟨RX6, TX6, 4, ⟨by decide, rfl, rfl, am_in6⟩, by decide, Or.inl tw_212⟩
theorem fl_RX6_24 : am_FL RX6 24 6 2 := ⟨RX6, TX6, 4, ⟨by decide, rfl, rfl, am_in6⟩, by decide, Or.inl tw_214⟩
theorem fp_RX6_27 : am_FP RX6 27 6 3 (.int) false := ⟨RX6, TX6, 4, tyX6, ⟨by decide, rfl, rfl, am_in6⟩, by decide, Or.inl tw_216, tyX6_ok, nmX6, by decide +kernel, rfl, fun z => by cases z⟩
theorem fl_RX6_27 : am_FL RX6 27 6 3 := ⟨RX6, TX6, 4, ⟨by decide, rfl, rfl, am_in6⟩, by decide, Or.inl tw_216⟩
theorem fl_RX7_14 : am_FL RX7 14 7 0 := ⟨RX7, TX7, 5, ⟨by decide, rfl, rfl, am_in7⟩, by decide, Or.inl tw_75⟩
theorem fl_RX7_20 : am_FL RX7 20 7 1 := ⟨RX7, TX7, 5, ⟨by decide, rfl, rfl, am_in7⟩, by decide, Or.inl tw_77⟩
theorem fl_RX7_24 : am_FL RX7 24 7 2 := ⟨RX7, TX7, 5, ⟨by decide, rfl, rfl, am_in7⟩, by decide, Or.inl tw_78⟩
theorem fl_RX7_27 : am_FL RX7 27 7 3 := ⟨RX7, TX7, 5, ⟨by decide, rfl, rfl, am_in7⟩, by decide, Or.inl tw_79⟩
theorem fp_RX7_30 : am_FP RX7 30 7 4 (.int) false := ⟨RX7, TX7, 5, tyX7, ⟨by decide, rfl, rfl, am_in7⟩, by decide, Or.inl tw_80, tyX7_ok, nmX7, by decide +kernel, rfl, fun z => by cases z⟩
theorem fl_RX7_30 : am_FL RX7 30 7 4 := ⟨RX7, TX7, 5, ⟨by decide, rfl, rfl, am_in7⟩, by decide, Or.inl tw_80⟩
theorem fl_RX7_43 : am_FL RX7 43 0 1 := ⟨RX0, TX0, 2, ⟨by decide, rfl, rfl, am_in0⟩, by decide, Or.inr ⟨_, tn_43⟩⟩
theorem fl_RX7_52 : am_FL RX7 52 6 3 := ⟨RX6, TX6, 4, ⟨by decide, rfl, rfl, am_in6⟩, by decide, Or.inr ⟨_, tn_217⟩⟩
theorem fl_RX7_55 : am_FL RX7 55 6 1 := ⟨RX6, TX6, 4, ⟨by decide, rfl, rfl, am_in6⟩, by decide, Or.inr ⟨_, tn_213⟩⟩
theorem fl_RX7_59 : am_FL RX7 59 6 0 := ⟨RX6, TX6, 4, ⟨by decide, rfl, rfl, am_in6⟩, by decide, Or.inr ⟨_, tn_211⟩⟩
theorem fl_RX7_62 : am_FL RX7 62 6 2 := ⟨RX6, TX6, 4, ⟨by decide, rfl, rfl, am_in6⟩, by decide, Or.inr ⟨_, tn_215⟩⟩
theorem fl_RX9_9 : am_FL RX9 9 9 0 := ⟨RX9, TX9, 29, ⟨by decide, rfl, rfl, am_in9⟩, by decide, Or.inl tw_719⟩
theorem fl_RX9_13 : am_FL RX9 13 9 2 := ⟨RX9, TX9, 29, ⟨by decide, rfl, rfl, am_in9⟩, by decide, Or.inl tw_721⟩
theorem fl_RX9_16 : am_FL RX9 16 9 4 := ⟨RX9, TX9, 29, ⟨by decide, rfl, rfl, am_in9⟩, by decide, Or.inl tw_723⟩
theorem fp_RX9_19 : am_FP RX9 19 9 5 (.int) false := ⟨RX9, TX9, 29, tyX9, ⟨by decide, rfl, rfl, am_in9⟩, by decide, Or.inl tw_724, tyX9_ok, nmX9, by decide +kernel, rfl, fun z => by cases z⟩
theorem fl_RX9_19 : am_FL RX9 19 9 5 := ⟨RX9, TX9, 29, ⟨by decide, rfl, rfl, am_in9⟩, by decide, Or.inl tw_724⟩
theorem fp_RX9_23 : am_FP RX9 23 9 6 (.int) false := ⟨RX9, TX9, 29, tyX9, ⟨by decide, rfl, rfl, am_in9⟩, by decide, Or.inl tw_725, tyX9_ok, nmX9, by decide +kernel, rfl, fun z => by cases z⟩
theorem fl_RX9_23 : am_FL RX9 23 9 6 := ⟨RX9, TX9, 29, ⟨by decide, rfl, rfl, am_in9⟩, by decide, Or.inl tw_725⟩
theorem fl_RX9_26 : am_FL RX9 26 9 7 := ⟨RX9, TX9, 29, ⟨by decide, rfl, rfl, am_in9⟩, by decide, Or.inl tw_726⟩
theorem fl_RX9_29 : am_FL RX9 29 9 8 := ⟨RX9, TX9, 29, ⟨by decide, rfl, rfl, am_in9⟩, by decide, Or.inl tw_727⟩
theorem fl_RX9_32 : am_FL RX9 32 9 10 := ⟨RX9, TX9, 29, ⟨by decide, rfl, rfl, am_in9⟩, by decide, Or.inl tw_729⟩
theorem fl_RX9_35 : am_FL RX9 35 9 11 := ⟨RX9, TX9, 29, ⟨by decide, rfl, rfl, am_in9⟩, by decide, Or.inl tw_730⟩
theorem fl_RX9_38 : am_FL RX9 38 9 12 := ⟨RX9, TX9, 29, ⟨by decide, rfl, rfl, am_in9⟩, by decide, Or.inl tw_731⟩
theorem fl_RX9_41 : am_FL RX9 41 9 13 := ⟨RX9, TX9, 29, ⟨by decide, rfl, rfl, am_in9⟩, by decide, Or.inl tw_732⟩
theorem fp_RX9_44 : am_FP RX9 44 9 15 (.int) false := ⟨RX9, TX9, 29, tyX9, ⟨by decide, rfl, rfl, am_in9⟩, by decide, Or.inl tw_734, tyX9_ok, nmX9, by decide +kernel, rfl, fun z => by cases z⟩
theorem fl_RX9_44 : am_FL RX9 44 9 15 := ⟨RX9, TX9, 29, ⟨by decide, rfl, rfl, am_in9⟩, by decide, Or.inl tw_734⟩
theorem fl_RX9_47 : am_FL RX9 47 9 16 := ⟨RX9, TX9, 29, ⟨by decide, rfl, rfl, am_in9⟩, by decide, Or.inl tw_735⟩
theorem fl_RX9_50 : am_FL RX9 50 9 18 := ⟨RX9, TX9, 29, ⟨by decide, rfl, rfl, am_in9⟩, by decide, Or.inl tw_737⟩
theorem fp_RX9_53 : am_FP RX9 53 9 21 (.int) false := ⟨RX9, TX9, 29, tyX9, ⟨by decide, rfl, rfl, am_in9⟩, by decide, Or.inl tw_740, tyX9_ok, nmX9, by decide +kernel, rfl, fun z => by cases z⟩
theorem fl_RX9_53 : am_FL RX9 53 9 21 := ⟨RX9, TX9, 29, ⟨by decide, rfl, rfl, am_in9⟩, by decide, Or.inl tw_740⟩
theorem fl_RX9_56 : am_FL RX9 56 9 22 := ⟨RX9, TX9, 29, ⟨by decide, rfl, rfl, am_in9⟩, by decide, Or.inl tw_741⟩
theorem fl_RX9_59 : am_FL RX9 59 9 23 := ⟨RX9, TX9, 29, ⟨by decide, rfl, rfl, am_in9⟩, by decide, Or.inl tw_742⟩
theorem fl_RX9_62 : am_FL RX9 62 9 24 := ⟨RX9, TX9, 29, ⟨by decide, rfl, rfl, am_in9⟩, by decide, Or.inl tw_743⟩
theorem fl_RX9_65 : am_FL RX9 65 9 26 := ⟨RX9, TX9, 29, ⟨by decide, rfl, rfl, am_in9⟩, by decide, Or.inl tw_745⟩
theorem fp_RX9_68 : am_FP RX9 68 9 1 (.int) false := ⟨RX9, TX9, 29, tyX9, ⟨by decide, rfl, rfl, am_in9⟩, by decide, Or.inl tw_720, tyX9_ok, nmX9, by decide +kernel, rfl, fun z => by cases z⟩
theorem fl_RX9_68 : am_FL RX9 68 9 1 := ⟨RX9, TX9, 29, ⟨by decide, rfl, rfl, am_in9⟩, by decide, Or.inl tw_720⟩
theorem fp_RX9_79 : am_FP RX9 79 9 3 (.int) false := ⟨RX9, TX9, 29, tyX9, ⟨by decide, rfl, rfl, am_in9⟩, by decide, Or.inl tw_722, tyX9_ok, nmX9, by decide +kernel, rfl, fun z => by cases z⟩
theorem fl_RX9_79 : am_FL RX9 79 9 3 := ⟨RX9, TX9, 29, ⟨by decide, rfl, rfl, am_in9⟩, by decide, Or.inl tw_722⟩
theorem fp_RX9_82 : am_FP RX9 82 9 9 (.int) false := ⟨RX9, TX9, 29, tyX9, ⟨by decide, rfl, rfl, am_in9⟩, by decide, Or.inl tw_728, tyX9_ok, nmX9, by decide +kernel, rfl, fun z => by cases z⟩
theorem fl_RX9_82 : am_FL RX9 82 9 9 := ⟨RX9, TX9, 29, ⟨by decide, rfl, rfl, am_in9⟩, by decide, Or.inl tw_728⟩
theorem fp_RX9_88 : am_FP RX9 88 9 17 (.int) false := ⟨RX9, TX9, 29, tyX9, ⟨by decide, rfl, rfl, am_in9⟩, by decide, Or.inl tw_736, tyX9_ok, nmX9, by decide +kernel, rfl, fun z => by cases z⟩
theorem fl_RX9_88 : am_FL RX9 88 9 17 := ⟨RX9, TX9, 29, ⟨by decide, rfl, rfl, am_in9⟩, by decide, Or.inl tw_736⟩
theorem fp_RX9_91 : am_FP RX9 91 9 14 (.int) false := ⟨RX9, TX9, 29, tyX9, ⟨by decide, rfl, rfl, am_in9⟩, by decide, Or.inl tw_733, tyX9_ok, nmX9, by decide +kernel, rfl, fun z => by cases z⟩
theorem fl_RX9_91 : am_FL RX9 91 9 14 := ⟨RX9, TX9, 29, ⟨by decide, rfl, rfl, am_in9⟩, by decide, Or.inl tw_733⟩
theorem fp_RX9_100 : am_FP RX9 100 9 27 (.int) false := ⟨RX9, TX9, 29, tyX9, ⟨by decide, rfl, rfl, am_in9⟩, by decide, Or.inl tw_746, tyX9_ok, nmX9, by decide +kernel, rfl, fun z => by cases z⟩
theorem fl_RX9_100 : am_FL RX9 100 9 27 := ⟨RX9, TX9, 29, ⟨by decide, rfl, rfl, am_in9⟩, by decide, Or.inl tw_746⟩
theorem fp_RX9_117 : am_FP RX9 117 9 25 (.int) false := ⟨RX9, TX9, 29, tyX9, ⟨by decide, rfl, rfl, am_in9⟩, by decide, Or.inl tw_744, tyX9_ok, nmX9, by decide +kernel, rfl, fun z => by cases z⟩
theorem fl_RX9_117 : am_FL RX9 117 9 25 := ⟨RX9, TX9, 29, ⟨by decide, rfl, rfl, am_in9⟩, by decide, Or.inl tw_744⟩
theorem fp_RX9_136 : am_FP RX9 136 9 20 (.int) false := ⟨RX9, TX9, 29, tyX9, ⟨by decide, rfl, rfl, am_in9⟩, by decide, Or.inl tw_739, tyX9_ok, nmX9, by decide +kernel, rfl, fun z => by cases z⟩
theorem fl_RX9_136 : am_FL RX9 136 9 20 := ⟨RX9, TX9, 29, ⟨by decide, rfl, rfl, am_in9⟩, by decide, Or.inl tw_739⟩
theorem fp_RX9_139 : am_FP RX9 139 9 28 (.int) false := ⟨RX9, TX9, 29, tyX9, ⟨by decide, rfl, rfl, am_in9⟩, by decide, Or.inl tw_747, tyX9_ok, nmX9, by decide +kernel, rfl, fun z => by cases z⟩
theorem fl_RX9_139 : am_FL RX9 139 9 28 := ⟨RX9, TX9, 29, ⟨by decide, rfl, rfl, am_in9⟩, by decide, Or.inl tw_747⟩
theorem fp_RX9_152 : am_FP RX9 152 9 19 (.int) false := ⟨RX9, TX9, 29, tyX9, ⟨by decide, rfl, rfl, am_in9⟩, by decide, Or.inl tw_738, tyX9_ok, nmX9, by decide +kernel, rfl, fun z => by cases z⟩
theorem fl_RX9_152 : am_FL RX9 152 9 19 := ⟨RX9, TX9, 29, ⟨by decide, rfl, rfl, am_in9⟩, by decide, Or.inl tw_738⟩
abbrev mX0_room : AMt := (cX0_room, 1, some .int, RX0, false, am_rm 0 0 0, 0, 0, 99)
theorem ccX0_room : am_CC yX0_room mX0_room 0 := ⟨tw_284, tw_3, ⟨by decide +kernel, by decide +kernel, by decide +kernel⟩, rfl, rfl⟩
abbrev mX0_at : AMt := (cX0_at, 2, some .int, RX0, false, am_rm 0 0 0, 0, 0, 99)
theorem ccX0_at : am_CC yX0_at mX0_at 1 := ⟨tw_311, tw_3, ⟨by decide +kernel, by decide +kernel, by decide +kernel⟩, rfl, rfl⟩
abbrev mX0_number : AMt := (cX0_number, 5, some .int, RX0, false, am_rm 1 0 0, 0, 0, 99)
theorem ccX0_number : am_CC yX0_number mX0_number 2 := ⟨tw_554, tw_3, ⟨by decide +kernel, by decide +kernel, by decide +kernel⟩, rfl, rfl⟩
abbrev mX0_add : AMt := (cX0_add, 2, none, RX0, false, am_rm 0 0 0, 0, 0, 99)
theorem ccX0_add : am_CC yX0_add mX0_add 1 := ⟨tw_292, tw_3, ⟨by decide +kernel, by decide +kernel, by decide +kernel⟩, rfl, rfl⟩
abbrev mX0_addNumber : AMt := (cX0_addNumber, 4, none, RX0, false, am_rm 1 0 0, 0, 0, 99)
theorem ccX0_addNumber : am_CC yX0_addNumber mX0_addNumber 2 := ⟨tw_288, tw_3, ⟨by decide +kernel, by decide +kernel, by decide +kernel⟩, rfl, rfl⟩
abbrev mX0_addPart : AMt := (cX0_addPart, 4, none, RX0, false, am_rm 1 0 0, 0, 0, 99)
theorem ccX0_addPart : am_CC yX0_addPart mX0_addPart 3 := ⟨tw_331, tw_3, ⟨by decide +kernel, by decide +kernel, by decide +kernel⟩, rfl, rfl⟩
abbrev mX0_setNumber : AMt := (cX0_setNumber, 4, none, RX0, false, am_rm 0 0 0, 0, 0, 99)
theorem ccX0_setNumber : am_CC yX0_setNumber mX0_setNumber 2 := ⟨tw_504, tw_3, ⟨by decide +kernel, by decide +kernel, by decide +kernel⟩, rfl, rfl⟩
abbrev mX0_clear : AMt := (cX0_clear, 1, none, RX0, false, am_rm 0 0 0, 0, 0, 99)
theorem ccX0_clear : am_CC yX0_clear mX0_clear 0 := ⟨tw_327, tw_3, ⟨by decide +kernel, by decide +kernel, by decide +kernel⟩, rfl, rfl⟩
abbrev mX0_copyOf : AMt := (cX0_copyOf, 2, none, RX0, false, am_rm 2 0 0, 0, 0, 99)
theorem ccX0_copyOf : am_CC yX0_copyOf mX0_copyOf 1 := ⟨tw_323, tw_3, ⟨by decide +kernel, by decide +kernel, by decide +kernel⟩, rfl, rfl⟩
abbrev mX0_keepFirst : AMt := (cX0_keepFirst, 2, none, RX0, false, am_rm 0 0 0, 0, 0, 99)
theorem ccX0_keepFirst : am_CC yX0_keepFirst mX0_keepFirst 1 := ⟨tw_303, tw_3, ⟨by decide +kernel, by decide +kernel, by decide +kernel⟩, rfl, rfl⟩
abbrev mX0_dropFirst : AMt := (cX0_dropFirst, 2, none, RX0, false, am_rm 1 0 0, 0, 0, 99)
theorem ccX0_dropFirst : am_CC yX0_dropFirst mX0_dropFirst 1 := ⟨tw_686, tw_3, ⟨by decide +kernel, by decide +kernel, by decide +kernel⟩, rfl, rfl⟩
abbrev mX1_begin : AMt := (cX1_begin, 6, none, RX1, false, am_rm 0 0 0, 0, 0, 99)
theorem ccX1_begin : am_CC yX1_begin mX1_begin 4 := ⟨tw_368, tw_9, ⟨by decide +kernel, by decide +kernel, by decide +kernel⟩, rfl, rfl⟩
abbrev mX1_words : AMt := (cX1_words, 1, some .int, RX1, false, am_rm 0 0 0, 0, 0, 99)
theorem ccX1_words : am_CC yX1_words mX1_words 0 := ⟨tw_448, tw_9, ⟨by decide +kernel, by decide +kernel, by decide +kernel⟩, rfl, rfl⟩
abbrev mX1_wordAt : AMt := (cX1_wordAt, 2, some .int, RX1, false, am_rm 0 0 0, 0, 0, 99)
theorem ccX1_wordAt : am_CC yX1_wordAt mX1_wordAt 1 := ⟨tw_427, tw_9, ⟨by decide +kernel, by decide +kernel, by decide +kernel⟩, rfl, rfl⟩
abbrev mX1_setWord : AMt := (cX1_setWord, 3, none, RX1, false, am_rm 0 0 0, 0, 0, 99)
theorem ccX1_setWord : am_CC yX1_setWord mX1_setWord 2 := ⟨tw_431, tw_9, ⟨by decide +kernel, by decide +kernel, by decide +kernel⟩, rfl, rfl⟩
abbrev mX1_stackWord : AMt := (cX1_stackWord, 2, none, RX1, false, am_rm 1 0 0, 0, 0, 99)
theorem ccX1_stackWord : am_CC yX1_stackWord mX1_stackWord 1 := ⟨tw_439, tw_9, ⟨by decide +kernel, by decide +kernel, by decide +kernel⟩, rfl, rfl⟩
abbrev mX1_tell : AMt := (cX1_tell, 4, none, RX1, false, am_rm 2 0 0, 0, 0, 99)
theorem ccX1_tell : am_CC yX1_tell mX1_tell 1 := ⟨tw_470, tw_9, ⟨by decide +kernel, by decide +kernel, by decide +kernel⟩, rfl, rfl⟩
abbrev mX2_clear : AMt := (cX2_clear, 1, none, RX2, false, am_rm 1 0 0, 0, 0, 99)
theorem ccX2_clear : am_CC yX2_clear mX2_clear 0 := ⟨tw_377, tw_7, ⟨by decide +kernel, by decide +kernel, by decide +kernel⟩, rfl, rfl⟩
abbrev mX2_dropEldest : AMt := (cX2_dropEldest, 2, none, RX2, false, am_rm 2 0 0, 0, 0, 99)
theorem ccX2_dropEldest : am_CC yX2_dropEldest mX2_dropEldest 0 := ⟨tw_682, tw_7, ⟨by decide +kernel, by decide +kernel, by decide +kernel⟩, rfl, rfl⟩
abbrev mX2_shrink : AMt := (cX2_shrink, 4, none, RX2, false, am_rm 3 0 0, 0, 0, 99)
theorem ccX2_shrink : am_CC yX2_shrink mX2_shrink 2 := ⟨tw_678, tw_7, ⟨by decide +kernel, by decide +kernel, by decide +kernel⟩, rfl, rfl⟩
abbrev mX2_add : AMt := (cX2_add, 4, none, RX2, false, am_rm 4 0 0, 0, 0, 99)
theorem ccX2_add : am_CC yX2_add mX2_add 3 := ⟨tw_674, tw_7, ⟨by decide +kernel, by decide +kernel, by decide +kernel⟩, rfl, rfl⟩
abbrev mX4_addFrame : AMt := (cX4_addFrame, 6, none, RX4, false, am_rm 1 0 0, 0, 0, 99)
theorem ccX4_addFrame : am_CC yX4_addFrame mX4_addFrame 4 := ⟨tw_364, tw_8, ⟨by decide +kernel, by decide +kernel, by decide +kernel⟩, rfl, rfl⟩
abbrev mX4_setByte : AMt := (cX4_setByte, 3, none, RX4, false, am_rm 0 0 0, 0, 0, 99)
theorem ccX4_setByte : am_CC yX4_setByte mX4_setByte 2 := ⟨tw_360, tw_8, ⟨by decide +kernel, by decide +kernel, by decide +kernel⟩, rfl, rfl⟩
abbrev mX5_byteAt : AMt := (cX5_byteAt, 2, some .int, RX5, false, am_rm 0 0 0, 0, 0, 99)
theorem ccX5_byteAt : am_CC yX5_byteAt mX5_byteAt 1 := ⟨tw_356, tw_6, ⟨by decide +kernel, by decide +kernel, by decide +kernel⟩, rfl, rfl⟩
abbrev mX4_begin : AMt := (cX4_begin, 3, none, RX4, false, am_rm 2 0 0, 0, 0, 99)
theorem ccX4_begin : am_CC yX4_begin mX4_begin 1 := ⟨tw_352, tw_8, ⟨by decide +kernel, by decide +kernel, by decide +kernel⟩, rfl, rfl⟩
abbrev mX8_fault : AMt := (cX8_fault, 2, some .int, RX8, false, am_rm 0 0 0, 0, 0, 99)
theorem ccX8_fault : am_CC yX8_fault mX8_fault 2 := ⟨tw_550, tw_1, ⟨by decide +kernel, by decide +kernel, by decide +kernel⟩, rfl, rfl⟩
abbrev mX4_wrongInFirst : AMt := (cX4_wrongInFirst, 3, some .int, RX4, false, am_rm 1 0 0, 0, 0, 99)
theorem ccX4_wrongInFirst : am_CC yX4_wrongInFirst mX4_wrongInFirst 2 := ⟨tw_600, tw_8, ⟨by decide +kernel, by decide +kernel, by decide +kernel⟩, rfl, rfl⟩
abbrev mX4_wrongInLater : AMt := (cX4_wrongInLater, 5, some .int, RX4, false, am_rm 1 0 0, 0, 0, 99)
theorem ccX4_wrongInLater : am_CC yX4_wrongInLater mX4_wrongInLater 2 := ⟨tw_603, tw_8, ⟨by decide +kernel, by decide +kernel, by decide +kernel⟩, rfl, rfl⟩
abbrev mX4_frameFault : AMt := (cX4_frameFault, 7, some .int, RX4, false, am_rm 2 0 0, 0, 0, 99)
theorem ccX4_frameFault : am_CC yX4_frameFault mX4_frameFault 3 := ⟨tw_597, tw_8, ⟨by decide +kernel, by decide +kernel, by decide +kernel⟩, rfl, rfl⟩
abbrev mX4_frameAt : AMt := (cX4_frameAt, 2, some (.object "ZSaves$Frame"), RX4, false, am_rm 0 0 0, 0, 0, 1)
theorem ccX4_frameAt : am_CC yX4_frameAt mX4_frameAt 1 := ⟨tw_418, tw_8, ⟨by decide +kernel, by decide +kernel, by decide +kernel⟩, rfl, rfl⟩
abbrev mX4_newest : AMt := (cX4_newest, 1, some (.object "ZSaves$Frame"), RX4, false, am_rm 1 0 0, 0, 0, 1)
theorem ccX4_newest : am_CC yX4_newest mX4_newest 0 := ⟨tw_414, tw_8, ⟨by decide +kernel, by decide +kernel, by decide +kernel⟩, rfl, rfl⟩
abbrev mJ6_bitCount_0f7a4 : AMt := (cJ6_bitCount_0f7a4, 1, some .int, RJ6, false, am_rm 0 0 0, 0, 0, 99)
theorem ccJ6_bitCount_0f7a4 : am_CC yJ6_bitCount_0f7a4 mJ6_bitCount_0f7a4 1 := ⟨tw_611, tw_13, ⟨by decide +kernel, by decide +kernel, by decide +kernel⟩, rfl, rfl⟩
abbrev mX4_takeFrame : AMt := (cX4_takeFrame, 11, some .int, RX4, false, am_rm 2 0 0, 0, 0, 99)
theorem ccX4_takeFrame : am_CC yX4_takeFrame mX4_takeFrame 2 := ⟨tw_608, tw_8, ⟨by decide +kernel, by decide +kernel, by decide +kernel⟩, rfl, rfl⟩
abbrev mX4_takeFrames : AMt := (cX4_takeFrames, 7, some .int, RX4, false, am_rm 3 0 0, 0, 0, 99)
theorem ccX4_takeFrames : am_CC yX4_takeFrames mX4_takeFrames 3 := ⟨tw_593, tw_8, ⟨by decide +kernel, by decide +kernel, by decide +kernel⟩, rfl, rfl⟩
abbrev mX4_byteAt : AMt := (cX4_byteAt, 2, some .int, RX4, false, am_rm 0 0 0, 0, 0, 99)
theorem ccX4_byteAt : am_CC yX4_byteAt mX4_byteAt 1 := ⟨tw_391, tw_8, ⟨by decide +kernel, by decide +kernel, by decide +kernel⟩, rfl, rfl⟩
abbrev mX4_takeRuns : AMt := (cX4_takeRuns, 8, some .int, RX4, false, am_rm 1 0 0, 0, 0, 99)
theorem ccX4_takeRuns : am_CC yX4_takeRuns mX4_takeRuns 3 := ⟨tw_583, tw_8, ⟨by decide +kernel, by decide +kernel, by decide +kernel⟩, rfl, rfl⟩
abbrev mX2_takeLatest : AMt := (cX2_takeLatest, 6, none, RX2, false, am_rm 4 0 0, 0, 0, 99)
theorem ccX2_takeLatest : am_CC yX2_takeLatest mX2_takeLatest 2 := ⟨tw_695, tw_7, ⟨by decide +kernel, by decide +kernel, by decide +kernel⟩, rfl, rfl⟩
abbrev mX3_frontFault : AMt := (cX3_frontFault, 1, some .int, RX3, false, am_rm 2 0 0, 0, 0, 99)
theorem ccX3_frontFault : am_CC yX3_frontFault mX3_frontFault 0 := ⟨tw_547, tw_2, ⟨by decide +kernel, by decide +kernel, by decide +kernel⟩, rfl, rfl⟩
abbrev mX5_headAt : AMt := (cX5_headAt, 2, some .int, RX5, false, am_rm 0 0 0, 0, 0, 99)
theorem ccX5_headAt : am_CC yX5_headAt mX5_headAt 1 := ⟨tw_574, tw_6, ⟨by decide +kernel, by decide +kernel, by decide +kernel⟩, rfl, rfl⟩
abbrev mX3_readHead : AMt := (cX3_readHead, 6, some .int, RX3, false, am_rm 2 0 0, 0, 0, 99)
theorem ccX3_readHead : am_CC yX3_readHead mX3_readHead 3 := ⟨tw_570, tw_2, ⟨by decide +kernel, by decide +kernel, by decide +kernel⟩, rfl, rfl⟩
abbrev mX4_takeMemory : AMt := (cX4_takeMemory, 4, none, RX4, false, am_rm 1 0 0, 0, 0, 99)
theorem ccX4_takeMemory : am_CC yX4_takeMemory mX4_takeMemory 2 := ⟨tw_589, tw_8, ⟨by decide +kernel, by decide +kernel, by decide +kernel⟩, rfl, rfl⟩
abbrev mX3_readMemory : AMt := (cX3_readMemory, 5, some .int, RX3, false, am_rm 2 0 0, 0, 0, 99)
theorem ccX3_readMemory : am_CC yX3_readMemory mX3_readMemory 3 := ⟨tw_578, tw_2, ⟨by decide +kernel, by decide +kernel, by decide +kernel⟩, rfl, rfl⟩
abbrev mX6_add : AMt := (cX6_add, 5, some .boolean, RX6, false, am_rm 2 0 0, 0, 0, 98)
theorem ccX6_add : am_CC yX6_add mX6_add 4 := ⟨tw_621, tw_10, ⟨by decide +kernel, by decide +kernel, by decide +kernel⟩, rfl, rfl⟩
abbrev mX3_readContents : AMt := (cX3_readContents, 7, some .int, RX3, false, am_rm 4 0 0, 0, 0, 99)
theorem ccX3_readContents : am_CC yX3_readContents mX3_readContents 4 := ⟨tw_566, tw_2, ⟨by decide +kernel, by decide +kernel, by decide +kernel⟩, rfl, rfl⟩
abbrev mX3_shapeFault : AMt := (cX3_shapeFault, 4, some .int, RX3, false, am_rm 2 0 0, 0, 0, 99)
theorem ccX3_shapeFault : am_CC yX3_shapeFault mX3_shapeFault 0 := ⟨tw_561, tw_2, ⟨by decide +kernel, by decide +kernel, by decide +kernel⟩, rfl, rfl⟩
abbrev mX6_clear : AMt := (cX6_clear, 1, none, RX6, false, am_rm 1 0 0, 0, 0, 99)
theorem ccX6_clear : am_CC yX6_clear mX6_clear 0 := ⟨tw_372, tw_10, ⟨by decide +kernel, by decide +kernel, by decide +kernel⟩, rfl, rfl⟩
abbrev mX3_readFor : AMt := (cX3_readFor, 7, some .int, RX3, false, am_rm 5 0 0, 0, 0, 99)
theorem ccX3_readFor : am_CC yX3_readFor mX3_readFor 3 := ⟨tw_541, tw_2, ⟨by decide +kernel, by decide +kernel, by decide +kernel⟩, rfl, rfl⟩
abbrev mX4_bits : AMt := (cX4_bits, 1, some .int, RX4, false, am_rm 1 0 0, 0, 0, 99)
theorem ccX4_bits : am_CC yX4_bits mX4_bits 0 := ⟨tw_630, tw_8, ⟨by decide +kernel, by decide +kernel, by decide +kernel⟩, rfl, rfl⟩
abbrev mX4_setBits : AMt := (cX4_setBits, 2, none, RX4, false, am_rm 1 0 0, 0, 0, 99)
theorem ccX4_setBits : am_CC yX4_setBits mX4_setBits 1 := ⟨tw_634, tw_8, ⟨by decide +kernel, by decide +kernel, by decide +kernel⟩, rfl, rfl⟩
abbrev mX4_tellMemory : AMt := (cX4_tellMemory, 3, none, RX4, false, am_rm 1 0 0, 0, 0, 99)
theorem ccX4_tellMemory : am_CC yX4_tellMemory mX4_tellMemory 1 := ⟨tw_511, tw_8, ⟨by decide +kernel, by decide +kernel, by decide +kernel⟩, rfl, rfl⟩
abbrev mX4_tellZeros : AMt := (cX4_tellZeros, 3, none, RX4, false, am_rm 1 0 0, 0, 0, 99)
theorem ccX4_tellZeros : am_CC yX4_tellZeros mX4_tellZeros 2 := ⟨tw_520, tw_8, ⟨by decide +kernel, by decide +kernel, by decide +kernel⟩, rfl, rfl⟩
abbrev mX4_tellRuns : AMt := (cX4_tellRuns, 6, none, RX4, false, am_rm 2 0 0, 0, 0, 99)
theorem ccX4_tellRuns : am_CC yX4_tellRuns mX4_tellRuns 2 := ⟨tw_517, tw_8, ⟨by decide +kernel, by decide +kernel, by decide +kernel⟩, rfl, rfl⟩
abbrev mX4_tellFrames : AMt := (cX4_tellFrames, 4, none, RX4, false, am_rm 3 0 0, 0, 0, 99)
theorem ccX4_tellFrames : am_CC yX4_tellFrames mX4_tellFrames 1 := ⟨tw_466, tw_8, ⟨by decide +kernel, by decide +kernel, by decide +kernel⟩, rfl, rfl⟩
abbrev mX5_takeFrom : AMt := (cX5_takeFrom, 3, none, RX5, false, am_rm 1 0 0, 0, 0, 99)
theorem ccX5_takeFrom : am_CC yX5_takeFrom mX5_takeFrom 1 := ⟨tw_343, tw_6, ⟨by decide +kernel, by decide +kernel, by decide +kernel⟩, rfl, rfl⟩
abbrev mX5_tellHead : AMt := (cX5_tellHead, 3, none, RX5, false, am_rm 1 0 0, 0, 0, 99)
theorem ccX5_tellHead : am_CC yX5_tellHead mX5_tellHead 1 := ⟨tw_495, tw_6, ⟨by decide +kernel, by decide +kernel, by decide +kernel⟩, rfl, rfl⟩
abbrev mX7_startFile : AMt := (cX7_startFile, 1, none, RX7, false, am_rm 2 0 0, 0, 0, 99)
theorem ccX7_startFile : am_CC yX7_startFile mX7_startFile 0 := ⟨tw_482, tw_5, ⟨by decide +kernel, by decide +kernel, by decide +kernel⟩, rfl, rfl⟩
abbrev mX7_openChunk : AMt := (cX7_openChunk, 2, none, RX7, false, am_rm 2 0 0, 0, 0, 99)
theorem ccX7_openChunk : am_CC yX7_openChunk mX7_openChunk 1 := ⟨tw_491, tw_5, ⟨by decide +kernel, by decide +kernel, by decide +kernel⟩, rfl, rfl⟩
abbrev mX7_closeChunk : AMt := (cX7_closeChunk, 2, none, RX7, false, am_rm 1 0 0, 0, 0, 99)
theorem ccX7_closeChunk : am_CC yX7_closeChunk mX7_closeChunk 0 := ⟨tw_500, tw_5, ⟨by decide +kernel, by decide +kernel, by decide +kernel⟩, rfl, rfl⟩
abbrev mX7_addStrangers : AMt := (cX7_addStrangers, 4, none, RX7, false, am_rm 3 0 0, 0, 0, 99)
theorem ccX7_addStrangers : am_CC yX7_addStrangers mX7_addStrangers 1 := ⟨tw_526, tw_5, ⟨by decide +kernel, by decide +kernel, by decide +kernel⟩, rfl, rfl⟩
abbrev mX7_endFile : AMt := (cX7_endFile, 1, none, RX7, false, am_rm 1 0 0, 0, 0, 99)
theorem ccX7_endFile : am_CC yX7_endFile mX7_endFile 0 := ⟨tw_533, tw_5, ⟨by decide +kernel, by decide +kernel, by decide +kernel⟩, rfl, rfl⟩
abbrev mX7_tellChunk : AMt := (cX7_tellChunk, 3, some .int, RX7, false, am_rm 0 0 0, 0, 0, 99)
theorem ccX7_tellChunk : am_CC yX7_tellChunk mX7_tellChunk 2 := ⟨tw_650, tw_5, ⟨by decide +kernel, by decide +kernel, by decide +kernel⟩, rfl, rfl⟩
abbrev mX8_feed : AMt := (cX8_feed, 6, some .int, RX8, false, am_rm 2 0 0, 0, 0, 99)
theorem ccX8_feed : am_CC yX8_feed mX8_feed 5 := ⟨tw_280, tw_1, ⟨by decide +kernel, by decide +kernel, by decide +kernel⟩, rfl, rfl⟩
abbrev mX8_within : AMt := (cX8_within, 2, some .boolean, RX8, false, am_rm 0 0 0, 0, 0, 98)
theorem ccX8_within : am_CC yX8_within mX8_within 2 := ⟨tw_299, tw_1, ⟨by decide +kernel, by decide +kernel, by decide +kernel⟩, rfl, rfl⟩
abbrev mX8_end : AMt := (cX8_end, 3, some .int, RX8, false, am_rm 1 0 0, 0, 0, 99)
theorem ccX8_end : am_CC yX8_end mX8_end 1 := ⟨tw_296, tw_1, ⟨by decide +kernel, by decide +kernel, by decide +kernel⟩, rfl, rfl⟩
abbrev mX8_out : AMt := (cX8_out, 2, some .int, RX8, false, am_rm 1 0 0, 0, 0, 99)
theorem ccX8_out : am_CC yX8_out mX8_out 1 := ⟨tw_307, tw_1, ⟨by decide +kernel, by decide +kernel, by decide +kernel⟩, rfl, rfl⟩
abbrev mX8_fillTape : AMt := (cX8_fillTape, 2, some .int, RX8, false, am_rm 3 0 0, 0, 0, 99)
theorem ccX8_fillTape : am_CC yX8_fillTape mX8_fillTape 1 := ⟨tw_319, tw_1, ⟨by decide +kernel, by decide +kernel, by decide +kernel⟩, rfl, rfl⟩
abbrev mX8_back : AMt := (cX8_back, 1, some .int, RX8, false, am_rm 4 0 0, 0, 0, 99)
theorem ccX8_back : am_CC yX8_back mX8_back 0 := ⟨tw_315, tw_1, ⟨by decide +kernel, by decide +kernel, by decide +kernel⟩, rfl, rfl⟩
abbrev mX8_story : AMt := (cX8_story, 3, some .int, RX8, false, am_rm 3 0 0, 0, 0, 99)
theorem ccX8_story : am_CC yX8_story mX8_story 0 := ⟨tw_339, tw_1, ⟨by decide +kernel, by decide +kernel, by decide +kernel⟩, rfl, rfl⟩
abbrev mX8_noStory : AMt := (cX8_noStory, 1, some .boolean, RX8, false, am_rm 0 0 0, 0, 0, 98)
theorem ccX8_noStory : am_CC yX8_noStory mX8_noStory 0 := ⟨tw_387, tw_1, ⟨by decide +kernel, by decide +kernel, by decide +kernel⟩, rfl, rfl⟩
abbrev mX8_poke : AMt := (cX8_poke, 4, some .int, RX8, false, am_rm 1 0 0, 0, 0, 99)
theorem ccX8_poke : am_CC yX8_poke mX8_poke 2 := ⟨tw_383, tw_1, ⟨by decide +kernel, by decide +kernel, by decide +kernel⟩, rfl, rfl⟩
abbrev mX8_peek : AMt := (cX8_peek, 2, some .int, RX8, false, am_rm 1 0 0, 0, 0, 99)
theorem ccX8_peek : am_CC yX8_peek mX8_peek 1 := ⟨tw_396, tw_1, ⟨by decide +kernel, by decide +kernel, by decide +kernel⟩, rfl, rfl⟩
abbrev mX8_jump : AMt := (cX8_jump, 3, some .int, RX8, false, am_rm 1 0 0, 0, 0, 99)
theorem ccX8_jump : am_CC yX8_jump mX8_jump 1 := ⟨tw_400, tw_1, ⟨by decide +kernel, by decide +kernel, by decide +kernel⟩, rfl, rfl⟩
abbrev mX8_call : AMt := (cX8_call, 6, some .int, RX8, false, am_rm 2 0 0, 0, 0, 99)
theorem ccX8_call : am_CC yX8_call mX8_call 4 := ⟨tw_405, tw_1, ⟨by decide +kernel, by decide +kernel, by decide +kernel⟩, rfl, rfl⟩
abbrev mX8_leave : AMt := (cX8_leave, 2, some .int, RX8, false, am_rm 2 0 0, 0, 0, 99)
theorem ccX8_leave : am_CC yX8_leave mX8_leave 0 := ⟨tw_410, tw_1, ⟨by decide +kernel, by decide +kernel, by decide +kernel⟩, rfl, rfl⟩
abbrev mX8_local : AMt := (cX8_local, 5, some .int, RX8, false, am_rm 2 0 0, 0, 0, 99)
theorem ccX8_local : am_CC yX8_local mX8_local 2 := ⟨tw_422, tw_1, ⟨by decide +kernel, by decide +kernel, by decide +kernel⟩, rfl, rfl⟩
abbrev mX8_push : AMt := (cX8_push, 3, some .int, RX8, false, am_rm 2 0 0, 0, 0, 99)
theorem ccX8_push : am_CC yX8_push mX8_push 1 := ⟨tw_435, tw_1, ⟨by decide +kernel, by decide +kernel, by decide +kernel⟩, rfl, rfl⟩
abbrev mX8_pop : AMt := (cX8_pop, 3, some .int, RX8, false, am_rm 2 0 0, 0, 0, 99)
theorem ccX8_pop : am_CC yX8_pop mX8_pop 0 := ⟨tw_444, tw_1, ⟨by decide +kernel, by decide +kernel, by decide +kernel⟩, rfl, rfl⟩
abbrev mX8_frame : AMt := (cX8_frame, 4, some .int, RX8, false, am_rm 1 0 0, 0, 0, 99)
theorem ccX8_frame : am_CC yX8_frame mX8_frame 2 := ⟨tw_452, tw_1, ⟨by decide +kernel, by decide +kernel, by decide +kernel⟩, rfl, rfl⟩
abbrev mX8_printed : AMt := (cX8_printed, 3, some .long, RX8, false, am_rm 0 0 0, 0, 0, 99)
theorem ccX8_printed : am_CC yX8_printed mX8_printed 2 := ⟨tw_461, tw_1, ⟨by decide +kernel, by decide +kernel, by decide +kernel⟩, rfl, rfl⟩
abbrev mX8_print : AMt := (cX8_print, 4, some .long, RX8, false, am_rm 4 0 0, 0, 0, 99)
theorem ccX8_print : am_CC yX8_print mX8_print 0 := ⟨tw_457, tw_1, ⟨by decide +kernel, by decide +kernel, by decide +kernel⟩, rfl, rfl⟩
abbrev mX8_save : AMt := (cX8_save, 2, some .int, RX8, false, am_rm 4 0 0, 0, 0, 99)
theorem ccX8_save : am_CC yX8_save mX8_save 1 := ⟨tw_478, tw_1, ⟨by decide +kernel, by decide +kernel, by decide +kernel⟩, rfl, rfl⟩
abbrev mX8_turnToComing : AMt := (cX8_turnToComing, 2, none, RX8, false, am_rm 0 0 0, 0, 0, 99)
theorem ccX8_turnToComing : am_CC yX8_turnToComing mX8_turnToComing 0 := ⟨tw_638, tw_1, ⟨by decide +kernel, by decide +kernel, by decide +kernel⟩, rfl, rfl⟩
abbrev mX8_turnToSpare : AMt := (cX8_turnToSpare, 2, none, RX8, false, am_rm 2 0 0, 0, 0, 99)
theorem ccX8_turnToSpare : am_CC yX8_turnToSpare mX8_turnToSpare 0 := ⟨tw_626, tw_1, ⟨by decide +kernel, by decide +kernel, by decide +kernel⟩, rfl, rfl⟩
abbrev mX8_restore : AMt := (cX8_restore, 2, some .int, RX8, false, am_rm 6 0 0, 0, 0, 99)
theorem ccX8_restore : am_CC yX8_restore mX8_restore 0 := ⟨tw_537, tw_1, ⟨by decide +kernel, by decide +kernel, by decide +kernel⟩, rfl, rfl⟩
abbrev mX8_why : AMt := (cX8_why, 2, some .int, RX8, false, am_rm 0 0 0, 0, 0, 99)
theorem ccX8_why : am_CC yX8_why mX8_why 1 := ⟨tw_642, tw_1, ⟨by decide +kernel, by decide +kernel, by decide +kernel⟩, rfl, rfl⟩
abbrev mX8_chunk : AMt := (cX8_chunk, 3, some .int, RX8, false, am_rm 1 0 0, 0, 0, 99)
theorem ccX8_chunk : am_CC yX8_chunk mX8_chunk 2 := ⟨tw_646, tw_1, ⟨by decide +kernel, by decide +kernel, by decide +kernel⟩, rfl, rfl⟩
abbrev mX8_write : AMt := (cX8_write, 2, some .int, RX8, false, am_rm 3 0 0, 0, 0, 99)
theorem ccX8_write : am_CC yX8_write mX8_write 0 := ⟨tw_654, tw_1, ⟨by decide +kernel, by decide +kernel, by decide +kernel⟩, rfl, rfl⟩
abbrev mX8_cut : AMt := (cX8_cut, 2, some .int, RX8, false, am_rm 0 0 0, 0, 0, 99)
theorem ccX8_cut : am_CC yX8_cut mX8_cut 1 := ⟨tw_658, tw_1, ⟨by decide +kernel, by decide +kernel, by decide +kernel⟩, rfl, rfl⟩
abbrev mX8_load : AMt := (cX8_load, 1, some .int, RX8, false, am_rm 4 0 0, 0, 0, 99)
theorem ccX8_load : am_CC yX8_load mX8_load 0 := ⟨tw_662, tw_1, ⟨by decide +kernel, by decide +kernel, by decide +kernel⟩, rfl, rfl⟩
abbrev mX8_weighNow : AMt := (cX8_weighNow, 2, some .int, RX8, false, am_rm 4 0 0, 0, 0, 99)
theorem ccX8_weighNow : am_CC yX8_weighNow mX8_weighNow 0 := ⟨tw_670, tw_1, ⟨by decide +kernel, by decide +kernel, by decide +kernel⟩, rfl, rfl⟩
abbrev mX8_keep : AMt := (cX8_keep, 2, some .int, RX8, false, am_rm 5 0 0, 0, 0, 99)
theorem ccX8_keep : am_CC yX8_keep mX8_keep 0 := ⟨tw_666, tw_1, ⟨by decide +kernel, by decide +kernel, by decide +kernel⟩, rfl, rfl⟩
abbrev mX8_undo : AMt := (cX8_undo, 1, some .int, RX8, false, am_rm 5 0 0, 0, 0, 99)
theorem ccX8_undo : am_CC yX8_undo mX8_undo 0 := ⟨tw_691, tw_1, ⟨by decide +kernel, by decide +kernel, by decide +kernel⟩, rfl, rfl⟩
abbrev mX8_bound : AMt := (cX8_bound, 3, some .int, RX8, false, am_rm 4 0 0, 0, 0, 99)
theorem ccX8_bound : am_CC yX8_bound mX8_bound 1 := ⟨tw_703, tw_1, ⟨by decide +kernel, by decide +kernel, by decide +kernel⟩, rfl, rfl⟩
abbrev mX8_restart : AMt := (cX8_restart, 1, some .int, RX8, false, am_rm 3 0 0, 0, 0, 99)
theorem ccX8_restart : am_CC yX8_restart mX8_restart 0 := ⟨tw_708, tw_1, ⟨by decide +kernel, by decide +kernel, by decide +kernel⟩, rfl, rfl⟩
abbrev mX8_told : AMt := (cX8_told, 2, some .int, RX8, false, am_rm 5 0 0, 0, 0, 99)
theorem ccX8_told : am_CC yX8_told mX8_told 1 := ⟨tw_712, tw_1, ⟨by decide +kernel, by decide +kernel, by decide +kernel⟩, rfl, rfl⟩
abbrev mX9_outside : AMt := (cX9_outside, 3, some .boolean, RX9, false, am_rm 0 0 0, 0, 0, 98)
theorem ccX9_outside : am_CC yX9_outside mX9_outside 3 := ⟨tw_821, tw_11, ⟨by decide +kernel, by decide +kernel, by decide +kernel⟩, rfl, rfl⟩
abbrev mX9_four : AMt := (cX9_four, 4, none, RX9, false, am_rm 0 0 0, 0, 0, 99)
theorem ccX9_four : am_CC yX9_four mX9_four 2 := ⟨tw_814, tw_11, ⟨by decide +kernel, by decide +kernel, by decide +kernel⟩, rfl, rfl⟩
abbrev mX9_feed : AMt := (cX9_feed, 6, some .int, RX9, false, am_rm 1 0 0, 0, 0, 99)
theorem ccX9_feed : am_CC yX9_feed mX9_feed 5 := ⟨tw_810, tw_11, ⟨by decide +kernel, by decide +kernel, by decide +kernel⟩, rfl, rfl⟩
abbrev mX9_end : AMt := (cX9_end, 3, some .int, RX9, false, am_rm 1 0 0, 0, 0, 99)
theorem ccX9_end : am_CC yX9_end mX9_end 1 := ⟨tw_818, tw_11, ⟨by decide +kernel, by decide +kernel, by decide +kernel⟩, rfl, rfl⟩
abbrev mX9_out : AMt := (cX9_out, 2, some .int, RX9, false, am_rm 1 0 0, 0, 0, 99)
theorem ccX9_out : am_CC yX9_out mX9_out 1 := ⟨tw_825, tw_11, ⟨by decide +kernel, by decide +kernel, by decide +kernel⟩, rfl, rfl⟩
abbrev mX9_back : AMt := (cX9_back, 2, some .int, RX9, false, am_rm 0 0 0, 0, 0, 99)
theorem ccX9_back : am_CC yX9_back mX9_back 0 := ⟨tw_829, tw_11, ⟨by decide +kernel, by decide +kernel, by decide +kernel⟩, rfl, rfl⟩
abbrev mX9_begin : AMt := (cX9_begin, 2, none, RX9, false, am_rm 0 0 0, 0, 0, 99)
theorem ccX9_begin : am_CC yX9_begin mX9_begin 0 := ⟨tw_837, tw_11, ⟨by decide +kernel, by decide +kernel, by decide +kernel⟩, rfl, rfl⟩
abbrev mX9_story : AMt := (cX9_story, 3, some .int, RX9, false, am_rm 1 0 0, 0, 0, 99)
theorem ccX9_story : am_CC yX9_story mX9_story 0 := ⟨tw_833, tw_11, ⟨by decide +kernel, by decide +kernel, by decide +kernel⟩, rfl, rfl⟩
abbrev mX9_bits : AMt := (cX9_bits, 1, some .int, RX9, false, am_rm 0 0 0, 0, 0, 99)
theorem ccX9_bits : am_CC yX9_bits mX9_bits 0 := ⟨tw_959, tw_11, ⟨by decide +kernel, by decide +kernel, by decide +kernel⟩, rfl, rfl⟩
abbrev mX9_stay : AMt := (cX9_stay, 2, none, RX9, false, am_rm 0 0 0, 0, 0, 99)
theorem ccX9_stay : am_CC yX9_stay mX9_stay 1 := ⟨tw_963, tw_11, ⟨by decide +kernel, by decide +kernel, by decide +kernel⟩, rfl, rfl⟩
abbrev mX9_poke : AMt := (cX9_poke, 4, some .int, RX9, false, am_rm 1 0 0, 0, 0, 99)
theorem ccX9_poke : am_CC yX9_poke mX9_poke 2 := ⟨tw_841, tw_11, ⟨by decide +kernel, by decide +kernel, by decide +kernel⟩, rfl, rfl⟩
abbrev mX9_peek : AMt := (cX9_peek, 2, some .int, RX9, false, am_rm 1 0 0, 0, 0, 99)
theorem ccX9_peek : am_CC yX9_peek mX9_peek 1 := ⟨tw_845, tw_11, ⟨by decide +kernel, by decide +kernel, by decide +kernel⟩, rfl, rfl⟩
abbrev mX9_jump : AMt := (cX9_jump, 3, some .int, RX9, false, am_rm 1 0 0, 0, 0, 99)
theorem ccX9_jump : am_CC yX9_jump mX9_jump 1 := ⟨tw_849, tw_11, ⟨by decide +kernel, by decide +kernel, by decide +kernel⟩, rfl, rfl⟩
abbrev mX9_newest : AMt := (cX9_newest, 1, some .int, RX9, false, am_rm 0 0 0, 0, 0, 99)
theorem ccX9_newest : am_CC yX9_newest mX9_newest 0 := ⟨tw_858, tw_11, ⟨by decide +kernel, by decide +kernel, by decide +kernel⟩, rfl, rfl⟩
abbrev mX9_call : AMt := (cX9_call, 7, some .int, RX9, false, am_rm 1 0 0, 0, 0, 99)
theorem ccX9_call : am_CC yX9_call mX9_call 4 := ⟨tw_854, tw_11, ⟨by decide +kernel, by decide +kernel, by decide +kernel⟩, rfl, rfl⟩
abbrev mX9_leave : AMt := (cX9_leave, 1, some .int, RX9, false, am_rm 1 0 0, 0, 0, 99)
theorem ccX9_leave : am_CC yX9_leave mX9_leave 0 := ⟨tw_862, tw_11, ⟨by decide +kernel, by decide +kernel, by decide +kernel⟩, rfl, rfl⟩
abbrev mX9_local : AMt := (cX9_local, 5, some .int, RX9, false, am_rm 1 0 0, 0, 0, 99)
theorem ccX9_local : am_CC yX9_local mX9_local 2 := ⟨tw_866, tw_11, ⟨by decide +kernel, by decide +kernel, by decide +kernel⟩, rfl, rfl⟩
abbrev mX9_push : AMt := (cX9_push, 3, some .int, RX9, false, am_rm 1 0 0, 0, 0, 99)
theorem ccX9_push : am_CC yX9_push mX9_push 1 := ⟨tw_871, tw_11, ⟨by decide +kernel, by decide +kernel, by decide +kernel⟩, rfl, rfl⟩
abbrev mX9_pop : AMt := (cX9_pop, 2, some .int, RX9, false, am_rm 1 0 0, 0, 0, 99)
theorem ccX9_pop : am_CC yX9_pop mX9_pop 0 := ⟨tw_875, tw_11, ⟨by decide +kernel, by decide +kernel, by decide +kernel⟩, rfl, rfl⟩
abbrev mX9_frame : AMt := (cX9_frame, 4, some .int, RX9, false, am_rm 1 0 0, 0, 0, 99)
theorem ccX9_frame : am_CC yX9_frame mX9_frame 2 := ⟨tw_879, tw_11, ⟨by decide +kernel, by decide +kernel, by decide +kernel⟩, rfl, rfl⟩
abbrev mX9_number : AMt := (cX9_number, 4, none, RX9, false, am_rm 0 0 0, 0, 0, 99)
theorem ccX9_number : am_CC yX9_number mX9_number 2 := ⟨tw_887, tw_11, ⟨by decide +kernel, by decide +kernel, by decide +kernel⟩, rfl, rfl⟩
abbrev mX9_makeB : AMt := (cX9_makeB, 6, none, RX9, false, am_rm 1 0 0, 0, 0, 99)
theorem ccX9_makeB : am_CC yX9_makeB mX9_makeB 1 := ⟨tw_918, tw_11, ⟨by decide +kernel, by decide +kernel, by decide +kernel⟩, rfl, rfl⟩
abbrev mX9_makeD : AMt := (cX9_makeD, 6, none, RX9, false, am_rm 1 0 0, 0, 0, 99)
theorem ccX9_makeD : am_CC yX9_makeD mX9_makeD 1 := ⟨tw_891, tw_11, ⟨by decide +kernel, by decide +kernel, by decide +kernel⟩, rfl, rfl⟩
abbrev mX9_weightOf : AMt := (cX9_weightOf, 2, some .int, RX9, false, am_rm 2 0 0, 0, 0, 99)
theorem ccX9_weightOf : am_CC yX9_weightOf mX9_weightOf 1 := ⟨tw_991, tw_11, ⟨by decide +kernel, by decide +kernel, by decide +kernel⟩, rfl, rfl⟩
abbrev mX9_print : AMt := (cX9_print, 4, some .long, RX9, false, am_rm 2 0 0, 0, 0, 99)
theorem ccX9_print : am_CC yX9_print mX9_print 0 := ⟨tw_883, tw_11, ⟨by decide +kernel, by decide +kernel, by decide +kernel⟩, rfl, rfl⟩
abbrev mX9_open : AMt := (cX9_open, 2, none, RX9, false, am_rm 1 0 0, 0, 0, 99)
theorem ccX9_open : am_CC yX9_open mX9_open 1 := ⟨tw_904, tw_11, ⟨by decide +kernel, by decide +kernel, by decide +kernel⟩, rfl, rfl⟩
abbrev mX9_patch : AMt := (cX9_patch, 4, none, RX9, false, am_rm 0 0 0, 0, 0, 99)
theorem ccX9_patch : am_CC yX9_patch mX9_patch 2 := ⟨tw_912, tw_11, ⟨by decide +kernel, by decide +kernel, by decide +kernel⟩, rfl, rfl⟩
abbrev mX9_close : AMt := (cX9_close, 2, none, RX9, false, am_rm 1 0 0, 0, 0, 99)
theorem ccX9_close : am_CC yX9_close mX9_close 0 := ⟨tw_908, tw_11, ⟨by decide +kernel, by decide +kernel, by decide +kernel⟩, rfl, rfl⟩
abbrev mX9_save : AMt := (cX9_save, 4, some .int, RX9, false, am_rm 2 0 0, 0, 0, 99)
theorem ccX9_save : am_CC yX9_save mX9_save 1 := ⟨tw_897, tw_11, ⟨by decide +kernel, by decide +kernel, by decide +kernel⟩, rfl, rfl⟩
abbrev mX9_wrong : AMt := (cX9_wrong, 3, some .boolean, RX9, false, am_rm 0 0 0, 0, 0, 98)
theorem ccX9_wrong : am_CC yX9_wrong mX9_wrong 2 := ⟨tw_931, tw_11, ⟨by decide +kernel, by decide +kernel, by decide +kernel⟩, rfl, rfl⟩
abbrev mX9_numberAt : AMt := (cX9_numberAt, 2, some .long, RX9, false, am_rm 0 0 0, 0, 0, 99)
theorem ccX9_numberAt : am_CC yX9_numberAt mX9_numberAt 1 := ⟨tw_935, tw_11, ⟨by decide +kernel, by decide +kernel, by decide +kernel⟩, rfl, rfl⟩
abbrev mX9_readA : AMt := (cX9_readA, 5, some .boolean, RX9, false, am_rm 1 0 0, 0, 0, 98)
theorem ccX9_readA : am_CC yX9_readA mX9_readA 3 := ⟨tw_942, tw_11, ⟨by decide +kernel, by decide +kernel, by decide +kernel⟩, rfl, rfl⟩
abbrev mX9_readB : AMt := (cX9_readB, 6, some .boolean, RX9, false, am_rm 1 0 0, 0, 0, 98)
theorem ccX9_readB : am_CC yX9_readB mX9_readB 2 := ⟨tw_946, tw_11, ⟨by decide +kernel, by decide +kernel, by decide +kernel⟩, rfl, rfl⟩
abbrev mX9_readC : AMt := (cX9_readC, 5, some .boolean, RX9, false, am_rm 1 0 0, 0, 0, 98)
theorem ccX9_readC : am_CC yX9_readC mX9_readC 3 := ⟨tw_950, tw_11, ⟨by decide +kernel, by decide +kernel, by decide +kernel⟩, rfl, rfl⟩
abbrev mX9_readD : AMt := (cX9_readD, 11, some .boolean, RX9, false, am_rm 1 0 0, 0, 0, 98)
theorem ccX9_readD : am_CC yX9_readD mX9_readD 2 := ⟨tw_954, tw_11, ⟨by decide +kernel, by decide +kernel, by decide +kernel⟩, rfl, rfl⟩
abbrev mX9_readFile : AMt := (cX9_readFile, 12, some .boolean, RX9, false, am_rm 2 0 0, 0, 0, 98)
theorem ccX9_readFile : am_CC yX9_readFile mX9_readFile 0 := ⟨tw_927, tw_11, ⟨by decide +kernel, by decide +kernel, by decide +kernel⟩, rfl, rfl⟩
abbrev mX9_restore : AMt := (cX9_restore, 3, some .int, RX9, false, am_rm 3 0 0, 0, 0, 99)
theorem ccX9_restore : am_CC yX9_restore mX9_restore 0 := ⟨tw_923, tw_11, ⟨by decide +kernel, by decide +kernel, by decide +kernel⟩, rfl, rfl⟩
abbrev mX9_why : AMt := (cX9_why, 2, some .int, RX9, false, am_rm 0 0 0, 0, 0, 99)
theorem ccX9_why : am_CC yX9_why mX9_why 1 := ⟨tw_967, tw_11, ⟨by decide +kernel, by decide +kernel, by decide +kernel⟩, rfl, rfl⟩
abbrev mX9_chunk : AMt := (cX9_chunk, 3, some .int, RX9, false, am_rm 1 0 0, 0, 0, 99)
theorem ccX9_chunk : am_CC yX9_chunk mX9_chunk 2 := ⟨tw_971, tw_11, ⟨by decide +kernel, by decide +kernel, by decide +kernel⟩, rfl, rfl⟩
abbrev mX9_write : AMt := (cX9_write, 3, some .int, RX9, false, am_rm 0 0 0, 0, 0, 99)
theorem ccX9_write : am_CC yX9_write mX9_write 0 := ⟨tw_975, tw_11, ⟨by decide +kernel, by decide +kernel, by decide +kernel⟩, rfl, rfl⟩
abbrev mX9_cut : AMt := (cX9_cut, 2, some .int, RX9, false, am_rm 0 0 0, 0, 0, 99)
theorem ccX9_cut : am_CC yX9_cut mX9_cut 1 := ⟨tw_979, tw_11, ⟨by decide +kernel, by decide +kernel, by decide +kernel⟩, rfl, rfl⟩
abbrev mX9_load : AMt := (cX9_load, 2, some .int, RX9, false, am_rm 0 0 0, 0, 0, 99)
theorem ccX9_load : am_CC yX9_load mX9_load 0 := ⟨tw_983, tw_11, ⟨by decide +kernel, by decide +kernel, by decide +kernel⟩, rfl, rfl⟩
abbrev mX9_sum : AMt := (cX9_sum, 3, some .int, RX9, false, am_rm 0 0 0, 0, 0, 99)
theorem ccX9_sum : am_CC yX9_sum mX9_sum 0 := ⟨tw_999, tw_11, ⟨by decide +kernel, by decide +kernel, by decide +kernel⟩, rfl, rfl⟩
abbrev mX9_eldestGo : AMt := (cX9_eldestGo, 3, none, RX9, false, am_rm 1 0 0, 0, 0, 99)
theorem ccX9_eldestGo : am_CC yX9_eldestGo mX9_eldestGo 0 := ⟨tw_995, tw_11, ⟨by decide +kernel, by decide +kernel, by decide +kernel⟩, rfl, rfl⟩
abbrev mX9_keep : AMt := (cX9_keep, 3, some .int, RX9, false, am_rm 3 0 0, 0, 0, 99)
theorem ccX9_keep : am_CC yX9_keep mX9_keep 0 := ⟨tw_987, tw_11, ⟨by decide +kernel, by decide +kernel, by decide +kernel⟩, rfl, rfl⟩
abbrev mX9_undo : AMt := (cX9_undo, 3, some .int, RX9, false, am_rm 1 0 0, 0, 0, 99)
theorem ccX9_undo : am_CC yX9_undo mX9_undo 0 := ⟨tw_1003, tw_11, ⟨by decide +kernel, by decide +kernel, by decide +kernel⟩, rfl, rfl⟩
abbrev mX9_bound : AMt := (cX9_bound, 3, some .int, RX9, false, am_rm 2 0 0, 0, 0, 99)
theorem ccX9_bound : am_CC yX9_bound mX9_bound 1 := ⟨tw_1007, tw_11, ⟨by decide +kernel, by decide +kernel, by decide +kernel⟩, rfl, rfl⟩
abbrev mX9_restart : AMt := (cX9_restart, 2, some .int, RX9, false, am_rm 1 0 0, 0, 0, 99)
theorem ccX9_restart : am_CC yX9_restart mX9_restart 0 := ⟨tw_1011, tw_11, ⟨by decide +kernel, by decide +kernel, by decide +kernel⟩, rfl, rfl⟩
abbrev mX9_told : AMt := (cX9_told, 2, some .int, RX9, false, am_rm 3 0 0, 0, 0, 99)
theorem ccX9_told : am_CC yX9_told mX9_told 1 := ⟨tw_1015, tw_11, ⟨by decide +kernel, by decide +kernel, by decide +kernel⟩, rfl, rfl⟩
def fX0_room (Γ : Gm) (v0 : Nat) (h : AH) : Option (Int32 × AH) :=
  (h.2 v0 0).bind fun b1 =>
  some ((nI (am_len Γ b1)) - (h.1 v0 1), h)
def fX0_at (Γ : Gm) (v0 : Nat) (v1 : Int32) (h : AH) : Option (Int32 × AH) :=
  if v1 < 0 then
    some (nI 0, h)
  else
  if (h.1 v0 1) ≤ v1 then
    some (nI 0, h)
  else
  (h.2 v0 0).bind fun b14 =>
  if (nI (am_len Γ b14)) ≤ v1 then
    some (nI 0, h)
  else
  (h.2 v0 0).bind fun b22 =>
  if am_ok v1 (am_len Γ b22) then
  some (h.1 b22 v1.toNatClampNeg, h)
  else none
def fX0_number_5 (Γ : Gm) : Nat → Nat → Int32 → Int32 → Int32 → Int32 → AH → Option (Int32 × AH)
  | 0, _, _, _, _, _, _ => none
  | z + 1, v0, v1, v2, v3, v4, h =>
    if v2 ≤ v4 then
      some (v3, h)
    else
    am_bind (fX0_at Γ v0 (v1 + v4) h) fun r20 h20 =>
    am_let ((am_shl v3 (nI 8)) ||| r20) fun x24 =>
    fX0_number_5 Γ z v0 v1 v2 x24 (v4 + nI 1) h20
def fX0_number (Γ : Gm) (v0 : Nat) (v1 : Int32) (v2 : Int32) (h : AH) : Option (Int32 × AH) :=
  fX0_number_5 Γ am_fuel v0 v1 v2 (nI 0) (nI 0) h
def fX0_add (Γ : Gm) (v0 : Nat) (v1 : Int32) (h : AH) : Option (Unit × AH) :=
  if (h.1 v0 1) < 0 then
    some ((), h)
  else
  (h.2 v0 0).bind fun b12 =>
  if (nI (am_len Γ b12)) ≤ (h.1 v0 1) then
    some ((), h)
  else
  (h.2 v0 0).bind fun b20 =>
  if am_ok (h.1 v0 1) (am_len Γ b20) then am_let (am_setI h b20 (h.1 v0 1).toNatClampNeg (v1 &&& (nI 255))) fun h32 =>
  am_let (am_setI h32 v0 1 ((h32.1 v0 1) + (nI 1))) fun h40 =>
  some ((), h40)
  else none
def fX0_addNumber_4 (Γ : Gm) : Nat → Nat → Int32 → Int32 → AH → Option (Unit × AH)
  | 0, _, _, _, _ => none
  | z + 1, v0, v1, v3, h =>
    if v3 < 0 then
      some ((), h)
    else
    am_bind (fX0_add Γ v0 (am_ushr v1 ((nI 8) * v3)) h) fun r15 h15 =>
    fX0_addNumber_4 Γ z v0 v1 (v3 + (-1 : Int32)) h15
def fX0_addNumber (Γ : Gm) (v0 : Nat) (v1 : Int32) (v2 : Int32) (h : AH) : Option (Unit × AH) :=
  am_let (v2 - (nI 1)) fun x3 =>
  fX0_addNumber_4 Γ am_fuel v0 v1 x3 h
def fX0_addPart (Γ : Gm) (v0 : Nat) (v1 : Nat) (v2 : Int32) (v3 : Int32) (h : AH) : Option (Unit × AH) :=
  if v2 < 0 then
    some ((), h)
  else
  if v3 < 0 then
    some ((), h)
  else
  if ((h.1 v1 1) - v2) < v3 then
    some ((), h)
  else
  am_bind (fX0_room Γ v0 h) fun r20 h20 =>
  if r20 < v3 then
    some ((), h20)
  else
  (h20.2 v1 0).bind fun b27 =>
  (h20.2 v0 0).bind fun b32 =>
  if am_okc v2 (h20.1 v0 1) v3 (am_len Γ b27) (am_len Γ b32) then am_let (am_cpy h20 b27 b32 v2.toNatClampNeg (h20.1 v0 1).toNatClampNeg v3.toNatClampNeg) fun h40 =>
  am_let (am_setI h40 v0 1 ((h40.1 v0 1) + v3)) fun h50 =>
  some ((), h50)
  else none
def fX0_setNumber_16 (Γ : Gm) : Nat → Nat → Int32 → Int32 → Int32 → AH → Option (Unit × AH)
  | 0, _, _, _, _, _ => none
  | z + 1, v0, v1, v2, v3, h =>
    if (nI 4) ≤ v3 then
      some ((), h)
    else
    (h.2 v0 0).bind fun b22 =>
    if am_ok (v1 + v3) (am_len Γ b22) then am_let (am_setI h b22 (v1 + v3).toNatClampNeg ((am_ushr v2 ((nI 24) - ((nI 8) * v3))) &&& (nI 255))) fun h41 =>
    fX0_setNumber_16 Γ z v0 v1 v2 (v3 + nI 1) h41
    else none
def fX0_setNumber (Γ : Gm) (v0 : Nat) (v1 : Int32) (v2 : Int32) (h : AH) : Option (Unit × AH) :=
  if v1 < 0 then
    some ((), h)
  else
  if ((h.1 v0 1) - (nI 4)) < v1 then
    some ((), h)
  else
  fX0_setNumber_16 Γ am_fuel v0 v1 v2 (nI 0) h
def fX0_clear (Γ : Gm) (v0 : Nat) (h : AH) : Option (Unit × AH) :=
  am_let (am_setI h v0 1 (nI 0)) fun h2 =>
  some ((), h2)
def fX0_copyOf (Γ : Gm) (v0 : Nat) (v1 : Nat) (h : AH) : Option (Unit × AH) :=
  am_bind (fX0_clear Γ v0 h) fun r1 h1 =>
  am_bind (fX0_addPart Γ v0 v1 (nI 0) (h1.1 v1 1) h1) fun r11 h11 =>
  some ((), h11)
def fX0_keepFirst (Γ : Gm) (v0 : Nat) (v1 : Int32) (h : AH) : Option (Unit × AH) :=
  if v1 < 0 then
    some ((), h)
  else
  if (h.1 v0 1) ≤ v1 then
    some ((), h)
  else
  am_let (am_setI h v0 1 v1) fun h14 =>
  some ((), h14)
def fX0_dropFirst (Γ : Gm) (v0 : Nat) (v1 : Int32) (h : AH) : Option (Unit × AH) :=
  if v1 < 0 then
    some ((), h)
  else
  if (h.1 v0 1) < v1 then
    some ((), h)
  else
  (h.2 v0 0).bind fun b13 =>
  (h.2 v0 0).bind fun b18 =>
  if am_okc v1 (nI 0) ((h.1 v0 1) - v1) (am_len Γ b13) (am_len Γ b18) then am_let (am_cpy h b13 b18 v1.toNatClampNeg (nI 0).toNatClampNeg ((h.1 v0 1) - v1).toNatClampNeg) fun h28 =>
  am_let (am_setI h28 v0 1 ((h28.1 v0 1) - v1)) fun h38 =>
  some ((), h38)
  else none
def fX1_begin_29 (Γ : Gm) : Nat → Nat → Int32 → AH → Option (Unit × AH)
  | 0, _, _, _ => none
  | z + 1, v0, v5, h =>
    if (nI 15) ≤ v5 then
      some ((), h)
    else
    (h.2 v0 0).bind fun b37 =>
    if am_ok v5 (am_len Γ b37) then am_let (am_setI h b37 v5.toNatClampNeg (nI 0)) fun h43 =>
    fX1_begin_29 Γ z v0 (v5 + nI 1) h43
    else none
def fX1_begin (Γ : Gm) (v0 : Nat) (v1 : Int32) (v2 : Int32) (v3 : Int32) (v4 : Int32) (h : AH) : Option (Unit × AH) :=
  am_let (am_setI h v0 1 v1) fun h2 =>
  am_let (am_setI h2 v0 2 v2) fun h7 =>
  am_let (am_setI h7 v0 3 v3) fun h12 =>
  am_let (am_setI h12 v0 4 v4) fun h18 =>
  am_let (am_setI h18 v0 5 (nI 0)) fun h23 =>
  fX1_begin_29 Γ am_fuel v0 (nI 0) h23
def fX1_words (Γ : Gm) (v0 : Nat) (h : AH) : Option (Int32 × AH) :=
  some ((h.1 v0 4) + (h.1 v0 5), h)
def fX1_wordAt (Γ : Gm) (v0 : Nat) (v1 : Int32) (h : AH) : Option (Int32 × AH) :=
  if v1 < 0 then
    some (nI 0, h)
  else
  (h.2 v0 0).bind fun b6 =>
  if (nI (am_len Γ b6)) ≤ v1 then
    some (nI 0, h)
  else
  (h.2 v0 0).bind fun b14 =>
  if am_ok v1 (am_len Γ b14) then
  some (h.1 b14 v1.toNatClampNeg, h)
  else none
def fX1_setWord (Γ : Gm) (v0 : Nat) (v1 : Int32) (v2 : Int32) (h : AH) : Option (Unit × AH) :=
  if v1 < 0 then
    some ((), h)
  else
  (h.2 v0 0).bind fun b6 =>
  if (nI (am_len Γ b6)) ≤ v1 then
    some ((), h)
  else
  (h.2 v0 0).bind fun b14 =>
  if am_ok v1 (am_len Γ b14) then am_let (am_setI h b14 v1.toNatClampNeg v2) fun h19 =>
  some ((), h19)
  else none
def fX1_stackWord (Γ : Gm) (v0 : Nat) (v1 : Int32) (h : AH) : Option (Unit × AH) :=
  if (nI 40) ≤ (h.1 v0 5) then
    some ((), h)
  else
  am_bind (fX1_setWord Γ v0 ((h.1 v0 4) + (h.1 v0 5)) v1 h) fun r20 h20 =>
  am_let (am_setI h20 v0 5 ((h20.1 v0 5) + (nI 1))) fun h30 =>
  some ((), h30)
def fX1_tell_85 (Γ : Gm) : Nat → Nat → Nat → Int32 → AH → Option (Unit × AH)
  | 0, _, _, _, _ => none
  | z + 1, v0, v1, v3, h =>
    am_bind (fX1_words Γ v0 h) fun r87 h87 =>
    if r87 ≤ v3 then
      some ((), h87)
    else
    am_bind (fX1_wordAt Γ v0 v3 h87) fun r96 h96 =>
    am_bind (fX0_addNumber Γ v1 r96 (nI 2) h96) fun r100 h100 =>
    fX1_tell_85 Γ z v0 v1 (v3 + nI 1) h100
def fX1_tell_59 (Γ : Gm) (v0 : Nat) (v1 : Nat) (s0 : Nat) (s1 : Int32) (h : AH) : Option (Unit × AH) :=
  am_bind (fX0_add Γ s0 s1 h) fun r59 h59 =>
  am_bind (fX0_add Γ v1 ((am_shl (nI 1) (h59.1 v0 3)) - (nI 1)) h59) fun r71 h71 =>
  am_bind (fX0_addNumber Γ v1 (h71.1 v0 5) (nI 2) h71) fun r80 h80 =>
  fX1_tell_85 Γ am_fuel v0 v1 (nI 0) h80
def fX1_tell_43 (Γ : Gm) (v0 : Nat) (v1 : Nat) (v2 : Int32) (s0 : Nat) (s1 : Int32) (h : AH) : Option (Unit × AH) :=
  am_bind (fX0_add Γ s0 s1 h) fun r43 h43 =>
  if v2 = 0 then
    fX1_tell_59 Γ v0 v1 v1 (h43.1 v0 2) h43
  else
  fX1_tell_59 Γ v0 v1 v1 (nI 0) h43
def fX1_tell_14 (Γ : Gm) (v0 : Nat) (v1 : Nat) (s0 : Int32) (h : AH) : Option (Unit × AH) :=
  am_bind (fX0_addNumber Γ v1 (h.1 v0 1) (nI 3) h) fun r21 h21 =>
  if s0 = 0 then
    fX1_tell_43 Γ v0 v1 s0 v1 (h21.1 v0 4) h21
  else
  fX1_tell_43 Γ v0 v1 s0 v1 ((h21.1 v0 4) + (nI 16)) h21
def fX1_tell (Γ : Gm) (v0 : Nat) (v1 : Nat) (h : AH) : Option (Unit × AH) :=
  if (h.1 v0 2) = ((-2 : Int32)) then
    fX1_tell_14 Γ v0 v1 (nI 1) h
  else
  fX1_tell_14 Γ v0 v1 (nI 0) h
def fX2_clear (Γ : Gm) (v0 : Nat) (h : AH) : Option (Unit × AH) :=
  (h.2 v0 0).bind fun b1 =>
  am_bind (fX0_clear Γ b1 h) fun r4 h4 =>
  am_let (am_setI h4 v0 4 (nI 0)) fun h9 =>
  some ((), h9)
def fX2_dropEldest_32 (Γ : Gm) : Nat → Nat → Int32 → AH → Option (Unit × AH)
  | 0, _, _, _ => none
  | z + 1, v0, v1, h =>
    if (h.1 v0 4) ≤ v1 then
      some ((), h)
    else
    if (nI 7) ≤ v1 then
      some ((), h)
    else
    (h.2 v0 1).bind fun b47 =>
    (h.2 v0 1).bind fun b52 =>
    if am_ok (v1 + (nI 1)) (am_len Γ b52) then
    if am_ok v1 (am_len Γ b47) then am_let (am_setI h b47 v1.toNatClampNeg (h.1 b52 (v1 + (nI 1)).toNatClampNeg)) fun h59 =>
    (h59.2 v0 2).bind fun b61 =>
    (h59.2 v0 2).bind fun b66 =>
    if am_ok (v1 + (nI 1)) (am_len Γ b66) then
    if am_ok v1 (am_len Γ b61) then am_let (am_setI h59 b61 v1.toNatClampNeg (h59.1 b66 (v1 + (nI 1)).toNatClampNeg)) fun h73 =>
    (h73.2 v0 3).bind fun b75 =>
    (h73.2 v0 3).bind fun b80 =>
    if am_ok (v1 + (nI 1)) (am_len Γ b80) then
    if am_ok v1 (am_len Γ b75) then am_let (am_setI h73 b75 v1.toNatClampNeg (h73.1 b80 (v1 + (nI 1)).toNatClampNeg)) fun h87 =>
    fX2_dropEldest_32 Γ z v0 (v1 + nI 1) h87
    else none
    else none
    else none
    else none
    else none
    else none
def fX2_dropEldest (Γ : Gm) (v0 : Nat) (h : AH) : Option (Unit × AH) :=
  if (h.1 v0 4) ≤ 0 then
    some ((), h)
  else
  (h.2 v0 0).bind fun b8 =>
  (h.2 v0 2).bind fun b12 =>
  if am_ok (nI 0) (am_len Γ b12) then
  am_bind (fX0_dropFirst Γ b8 (h.1 b12 (nI 0).toNatClampNeg) h) fun r17 h17 =>
  am_let (am_setI h17 v0 4 ((h17.1 v0 4) - (nI 1))) fun h27 =>
  fX2_dropEldest_32 Γ am_fuel v0 (nI 0) h27
  else none
def fX2_shrink_27 (Γ : Gm) (k2 : Nat → Int32 → Int32 → Int32 → AH → Option (Unit × AH)) (v0 : Nat) (v1 : Int32) (v2 : Int32) (v3 : Int32) (h : AH) : Option (Unit × AH) :=
  am_bind (fX2_dropEldest Γ v0 h) fun r28 h28 =>
  k2 v0 v1 v2 (v3 + nI 1) h28
def fX2_shrink_2 (Γ : Gm) : Nat → Nat → Int32 → Int32 → Int32 → AH → Option (Unit × AH)
  | 0, _, _, _, _, _ => none
  | z + 1, v0, v1, v2, v3, h =>
    if (nI 8) ≤ v3 then
      some ((), h)
    else
    if v1 < (h.1 v0 4) then
      fX2_shrink_27 Γ (fX2_shrink_2 Γ z) v0 v1 v2 v3 h
    else
    (h.2 v0 0).bind fun b17 =>
    if (h.1 b17 1) ≤ v2 then
      some ((), h)
    else
    fX2_shrink_27 Γ (fX2_shrink_2 Γ z) v0 v1 v2 v3 h
def fX2_shrink (Γ : Gm) (v0 : Nat) (v1 : Int32) (v2 : Int32) (h : AH) : Option (Unit × AH) :=
  fX2_shrink_2 Γ am_fuel v0 v1 v2 (nI 0) h
def fX2_add (Γ : Gm) (v0 : Nat) (v1 : Nat) (v2 : Int32) (v3 : Int32) (h : AH) : Option (Unit × AH) :=
  am_bind (fX2_shrink Γ v0 (nI 7) ((h.1 v0 5) - (h.1 v1 1)) h) fun r12 h12 =>
  if (h12.1 v0 4) < 0 then
    some ((), h12)
  else
  if (nI 8) ≤ (h12.1 v0 4) then
    some ((), h12)
  else
  (h12.2 v0 0).bind fun b32 =>
  am_bind (fX0_addPart Γ b32 v1 (nI 0) (h12.1 v1 1) h12) fun r41 h41 =>
  (h41.2 v0 1).bind fun b45 =>
  if am_ok (h41.1 v0 4) (am_len Γ b45) then am_let (am_setI h41 b45 (h41.1 v0 4).toNatClampNeg v2) fun h53 =>
  (h53.2 v0 2).bind fun b55 =>
  if am_ok (h53.1 v0 4) (am_len Γ b55) then am_let (am_setI h53 b55 (h53.1 v0 4).toNatClampNeg (h53.1 v1 1)) fun h66 =>
  (h66.2 v0 3).bind fun b68 =>
  if am_ok (h66.1 v0 4) (am_len Γ b68) then am_let (am_setI h66 b68 (h66.1 v0 4).toNatClampNeg v3) fun h76 =>
  am_let (am_setI h76 v0 4 ((h76.1 v0 4) + (nI 1))) fun h84 =>
  some ((), h84)
  else none
  else none
  else none
def fX4_addFrame_31 (Γ : Gm) (v0 : Nat) (v1 : Int32) (v2 : Int32) (v3 : Int32) (v4 : Int32) (h : AH) : Option (Unit × AH) :=
  some ((), h)
def fX4_addFrame (Γ : Gm) (v0 : Nat) (v1 : Int32) (v2 : Int32) (v3 : Int32) (v4 : Int32) (h : AH) : Option (Unit × AH) :=
  if (h.1 v0 4) < 0 then
    fX4_addFrame_31 Γ v0 v1 v2 v3 v4 h
  else
  (h.2 v0 1).bind fun b12 =>
  if (nI (am_len Γ b12)) ≤ (h.1 v0 4) then
    fX4_addFrame_31 Γ v0 v1 v2 v3 v4 h
  else
  (h.2 v0 1).bind fun b20 =>
  if am_ok (h.1 v0 4) (am_len Γ b20) then (h.2 b20 (h.1 v0 4).toNatClampNeg).elim
    (some ((), h))
    (fun b27 =>
      am_bind (fX1_begin Γ b27 v1 v2 v3 v4 h) fun r46 h46 =>
      am_let (am_setI h46 v0 4 ((h46.1 v0 4) + (nI 1))) fun h56 =>
      some ((), h56)) else none
def fX4_setByte (Γ : Gm) (v0 : Nat) (v1 : Int32) (v2 : Int32) (h : AH) : Option (Unit × AH) :=
  if v1 < 0 then
    some ((), h)
  else
  if (h.1 v0 2) ≤ v1 then
    some ((), h)
  else
  (h.2 v0 0).bind fun b14 =>
  if (nI (am_len Γ b14)) ≤ v1 then
    some ((), h)
  else
  (h.2 v0 0).bind fun b22 =>
  if am_ok v1 (am_len Γ b22) then am_let (am_setI h b22 v1.toNatClampNeg v2) fun h27 =>
  some ((), h27)
  else none
def fX5_byteAt (Γ : Gm) (v0 : Nat) (v1 : Int32) (h : AH) : Option (Int32 × AH) :=
  if v1 < 0 then
    some (nI 0, h)
  else
  if (h.1 v0 2) ≤ v1 then
    some (nI 0, h)
  else
  (h.2 v0 1).bind fun b14 =>
  if (nI (am_len Γ b14)) ≤ v1 then
    some (nI 0, h)
  else
  (h.2 v0 1).bind fun b22 =>
  if am_ok v1 (am_len Γ b22) then
  some (h.1 b22 v1.toNatClampNeg, h)
  else none
def fX4_begin_10 (Γ : Gm) : Nat → Nat → Nat → Int32 → AH → Option (Unit × AH)
  | 0, _, _, _, _ => none
  | z + 1, v0, v1, v2, h =>
    if (h.1 v0 2) ≤ v2 then
      am_let (am_setI h v0 3 (nI 0)) fun h36 =>
      am_let (am_setI h36 v0 4 (nI 0)) fun h41 =>
      am_bind (fX4_addFrame Γ v0 (nI 0) (nI 0) (nI 0) (nI 0) h41) fun r49 h49 =>
      some ((), h49)
    else
    am_bind (fX5_byteAt Γ v1 v2 h) fun r22 h22 =>
    am_bind (fX4_setByte Γ v0 v2 r22 h22) fun r25 h25 =>
    fX4_begin_10 Γ z v0 v1 (v2 + nI 1) h25
def fX4_begin (Γ : Gm) (v0 : Nat) (v1 : Nat) (h : AH) : Option (Unit × AH) :=
  am_let (am_setI h v0 2 (h.1 v1 2)) fun h5 =>
  fX4_begin_10 Γ am_fuel v0 v1 (nI 0) h5
def fX8_fault (Γ : Gm) (v0 : Int32) (v1 : Int32) (h : AH) : Option (Int32 × AH) :=
  some ((am_shl v0 (nI 16)) ||| v1, h)
def fX4_wrongInFirst_2 (Γ : Gm) : Nat → Nat → Int32 → Int32 → AH → Option (Int32 × AH)
  | 0, _, _, _, _ => none
  | z + 1, v0, v1, v2, h =>
    if (nI 6) ≤ v2 then
      some ((-2 : Int32), h)
    else
    am_bind (fX0_at Γ v0 (v1 + v2) h) fun r12 h12 =>
    if r12 = 0 then
      fX4_wrongInFirst_2 Γ z v0 v1 (v2 + nI 1) h12
    else
    some (v2, h12)
def fX4_wrongInFirst (Γ : Gm) (v0 : Nat) (v1 : Int32) (h : AH) : Option (Int32 × AH) :=
  fX4_wrongInFirst_2 Γ am_fuel v0 v1 (nI 0) h
def fX4_wrongInLater_55 (Γ : Gm) (v3 : Int32) (s0 : Int32) (h : AH) : Option (Int32 × AH) :=
  if s0 = 0 then
    some (nI 5, h)
  else
  if (nI 128) ≤ v3 then
    some (nI 5, h)
  else
  some ((-2 : Int32), h)
def fX4_wrongInLater_34 (Γ : Gm) (v0 : Nat) (v1 : Int32) (h : AH) : Option (Int32 × AH) :=
  am_bind (fX0_at Γ v0 (v1 + (nI 5)) h) fun r38 h38 =>
  if (r38 &&& (r38 + (nI 1))) = 0 then
    fX4_wrongInLater_55 Γ r38 (nI 1) h38
  else
  fX4_wrongInLater_55 Γ r38 (nI 0) h38
def fX4_wrongInLater (Γ : Gm) (v0 : Nat) (v1 : Int32) (h : AH) : Option (Int32 × AH) :=
  am_bind (fX0_at Γ v0 (v1 + (nI 3)) h) fun r4 h4 =>
  if r4 ≤ (nI 31) then
    if r4 < (nI 16) then
      fX4_wrongInLater_34 Γ v0 v1 h4
    else
    am_bind (fX0_at Γ v0 (v1 + (nI 4)) h4) fun r26 h26 =>
    if r26 = 0 then
      fX4_wrongInLater_34 Γ v0 v1 h26
    else
    some (nI 4, h26)
  else
  some (nI 3, h4)
def fX4_frameFault_35 (Γ : Gm) (v1 : Nat) (v2 : Int32) (v3 : Int32) (s0 : Int32) (h : AH) : Option (Int32 × AH) :=
  if s0 = ((-2 : Int32)) then
    am_bind (fX0_number Γ v1 (v2 + (nI 6)) (nI 2) h) fun r60 h60 =>
    if r60 ≤ (nI 40) then
      am_bind (fX0_at Γ v1 (v2 + (nI 3)) h60) fun r86 h86 =>
      am_let ((r86 &&& (nI 15)) + r60) fun x95 =>
      if ((nI 2) * x95) ≤ ((v3 - v2) - (nI 8)) then
        some (nI 0, h86)
      else
      am_bind (fX8_fault Γ (nI 8) v3 h86) fun r113 h113 =>
      some (r113, h113)
    else
    am_bind (fX8_fault Γ (nI 9) (v2 + (nI 6)) h60) fun r78 h78 =>
    some (r78, h78)
  else
  am_bind (fX8_fault Γ (nI 8) (v2 + s0) h) fun r50 h50 =>
  some (r50, h50)
def fX4_frameFault (Γ : Gm) (v0 : Nat) (v1 : Nat) (v2 : Int32) (v3 : Int32) (h : AH) : Option (Int32 × AH) :=
  if (nI 8) ≤ (v3 - v2) then
    if (h.1 v0 4) = 0 then
      am_bind (fX4_wrongInFirst Γ v1 v2 h) fun r24 h24 =>
      fX4_frameFault_35 Γ v1 v2 v3 r24 h24
    else
    am_bind (fX4_wrongInLater Γ v1 v2 h) fun r32 h32 =>
    fX4_frameFault_35 Γ v1 v2 v3 r32 h32
  else
  am_bind (fX8_fault Γ (nI 8) v3 h) fun r11 h11 =>
  some (r11, h11)
def fX4_frameAt (Γ : Gm) (v0 : Nat) (v1 : Int32) (h : AH) : Option (Option Nat × AH) :=
  if v1 < 0 then
    some (none, h)
  else
  if (h.1 v0 4) ≤ v1 then
    some (none, h)
  else
  (h.2 v0 1).bind fun b14 =>
  if (nI (am_len Γ b14)) ≤ v1 then
    some (none, h)
  else
  (h.2 v0 1).bind fun b22 =>
  if am_ok v1 (am_len Γ b22) then (h.2 b22 v1.toNatClampNeg).elim
    (some (none, h))
    (fun b26 =>
      some (some b26, h)) else none
def fX4_newest (Γ : Gm) (v0 : Nat) (h : AH) : Option (Option Nat × AH) :=
  am_bind (fX4_frameAt Γ v0 ((h.1 v0 4) - (nI 1)) h) fun r7 h7 =>
  r7.elim
    (some (none, h7))
    (fun b7 =>
      some (some b7, h7))
def fJ6_bitCount_0f7a4 (Γ : Gm) (v0 : Int32) (h : AH) : Option (Int32 × AH) :=
  am_let (v0 - ((am_ushr v0 (nI 1)) &&& (nI 1431655765))) fun x9 =>
  am_let ((x9 &&& (nI 858993459)) + ((am_ushr x9 (nI 2)) &&& (nI 858993459))) fun x23 =>
  am_let ((x23 + (am_ushr x23 (nI 4))) &&& (nI 252645135)) fun x33 =>
  am_let (x33 + (am_ushr x33 (nI 8))) fun x40 =>
  am_let (x40 + (am_ushr x40 (nI 16))) fun x47 =>
  some (x47 &&& (nI 63), h)
def fX4_takeFrame_145 (Γ : Gm) (v4 : Int32) (v6 : Int32) (v7 : Int32) (h : AH) : Option (Int32 × AH) :=
  some (v7 + ((nI 2) * (v4 + v6)), h)
def fX4_takeFrame_139 (Γ : Gm) (k84 : Nat → Int32 → Int32 → Int32 → Nat → Int32 → AH → Option (Int32 × AH)) (v1 : Nat) (v4 : Int32) (v6 : Int32) (v7 : Int32) (v8 : Nat) (v9 : Int32) (h : AH) : Option (Int32 × AH) :=
  k84 v1 v4 v6 v7 v8 (v9 + nI 1) h
def fX4_takeFrame_84 (Γ : Gm) : Nat → Nat → Int32 → Int32 → Int32 → Nat → Int32 → AH → Option (Int32 × AH)
  | 0, _, _, _, _, _, _, _ => none
  | z + 1, v1, v4, v6, v7, v8, v9, h =>
    if (v4 + v6) ≤ v9 then
      fX4_takeFrame_145 Γ v4 v6 v7 h
    else
    am_bind (fX0_number Γ v1 (v7 + ((nI 2) * v9)) (nI 2) h) fun r108 h108 =>
    if v4 ≤ v9 then
      am_bind (fX1_stackWord Γ v8 r108 h108) fun r136 h136 =>
      fX4_takeFrame_139 Γ (fX4_takeFrame_84 Γ z) v1 v4 v6 v7 v8 v9 h136
    else
    am_bind (fX1_setWord Γ v8 v9 r108 h108) fun r126 h126 =>
    fX4_takeFrame_139 Γ (fX4_takeFrame_84 Γ z) v1 v4 v6 v7 v8 v9 h126
def fX4_takeFrame_32 (Γ : Gm) (v0 : Nat) (v1 : Nat) (v2 : Int32) (v4 : Int32) (s0 : Int32) (h : AH) : Option (Int32 × AH) :=
  am_bind (fX0_number Γ v1 (v2 + (nI 6)) (nI 2) h) fun r40 h40 =>
  am_bind (fX0_number Γ v1 v2 (nI 3) h40) fun r49 h49 =>
  am_bind (fX0_at Γ v1 (v2 + (nI 5)) h49) fun r58 h58 =>
  am_bind (fJ6_bitCount_0f7a4 Γ r58 h58) fun r61 h61 =>
  am_bind (fX4_addFrame Γ v0 r49 s0 r61 v4 h61) fun r66 h66 =>
  am_let (v2 + (nI 8)) fun x73 =>
  am_bind (fX4_newest Γ v0 h66) fun r76 h76 =>
  r76.elim
    (none)
    (fun b76 =>
      fX4_takeFrame_84 Γ am_fuel v1 v4 r40 x73 b76 (nI 0) h76)
def fX4_takeFrame (Γ : Gm) (v0 : Nat) (v1 : Nat) (v2 : Int32) (h : AH) : Option (Int32 × AH) :=
  am_bind (fX0_at Γ v1 (v2 + (nI 3)) h) fun r4 h4 =>
  am_let (r4 &&& (nI 15)) fun x12 =>
  if r4 < (nI 16) then
    am_bind (fX0_at Γ v1 (v2 + (nI 4)) h4) fun r29 h29 =>
    fX4_takeFrame_32 Γ v0 v1 v2 x12 r29 h29
  else
  fX4_takeFrame_32 Γ v0 v1 v2 x12 ((-2 : Int32)) h4
def fX4_takeFrames_31 (Γ : Gm) (k11 : Nat → Nat → Int32 → Int32 → Int32 → AH → Option (Int32 × AH)) (v0 : Nat) (v1 : Nat) (v3 : Int32) (v4 : Int32) (v5 : Int32) (h : AH) : Option (Int32 × AH) :=
  am_bind (fX4_frameFault Γ v0 v1 v4 v3 h) fun r36 h36 =>
  if r36 = 0 then
    am_bind (fX4_takeFrame Γ v0 v1 v4 h36) fun r53 h53 =>
    k11 v0 v1 v3 r53 (v5 + nI 1) h53
  else
  some (r36, h36)
def fX4_takeFrames_11 (Γ : Gm) : Nat → Nat → Nat → Int32 → Int32 → Int32 → AH → Option (Int32 × AH)
  | 0, _, _, _, _, _, _ => none
  | z + 1, v0, v1, v3, v4, v5, h =>
    if (nI 20) ≤ v5 then
      if v3 ≤ v4 then
        some (nI 0, h)
      else
      am_bind (fX8_fault Γ (nI 9) v4 h) fun r74 h74 =>
      some (r74, h74)
    else
    if v5 ≤ 0 then
      fX4_takeFrames_31 Γ (fX4_takeFrames_11 Γ z) v0 v1 v3 v4 v5 h
    else
    if v4 < v3 then
      fX4_takeFrames_31 Γ (fX4_takeFrames_11 Γ z) v0 v1 v3 v4 v5 h
    else
    some (nI 0, h)
def fX4_takeFrames (Γ : Gm) (v0 : Nat) (v1 : Nat) (v2 : Int32) (v3 : Int32) (h : AH) : Option (Int32 × AH) :=
  am_let (am_setI h v0 4 (nI 0)) fun h2 =>
  fX4_takeFrames_11 Γ am_fuel v0 v1 v3 v2 (nI 0) h2
def fX4_byteAt (Γ : Gm) (v0 : Nat) (v1 : Int32) (h : AH) : Option (Int32 × AH) :=
  if v1 < 0 then
    some (nI 0, h)
  else
  if (h.1 v0 2) ≤ v1 then
    some (nI 0, h)
  else
  (h.2 v0 0).bind fun b14 =>
  if (nI (am_len Γ b14)) ≤ v1 then
    some (nI 0, h)
  else
  (h.2 v0 0).bind fun b22 =>
  if am_ok v1 (am_len Γ b22) then
  some (h.1 b22 v1.toNatClampNeg, h)
  else none
def fX4_takeRuns_110 (Γ : Gm) (k6 : Nat → Nat → Int32 → Int32 → Int32 → AH → Option (Int32 × AH)) (v0 : Nat) (v1 : Nat) (v3 : Int32) (v4 : Int32) (v5 : Int32) (v7 : Int32) (h : AH) : Option (Int32 × AH) :=
  am_let (v4 + v7) fun x115 =>
  k6 v0 v1 v3 x115 (v5 + nI 1) h
def fX4_takeRuns_62 (Γ : Gm) (k6 : Nat → Nat → Int32 → Int32 → Int32 → AH → Option (Int32 × AH)) (v0 : Nat) (v1 : Nat) (v3 : Int32) (v4 : Int32) (v5 : Int32) (v6 : Int32) (s0 : Int32) (h : AH) : Option (Int32 × AH) :=
  if (v4 + s0) ≤ (h.1 v0 2) then
    if v6 = 0 then
      fX4_takeRuns_110 Γ k6 v0 v1 v3 v4 (v5 + nI 1) s0 h
    else
    am_bind (fX4_byteAt Γ v0 v4 h) fun r101 h101 =>
    am_bind (fX4_setByte Γ v0 v4 (r101 ^^^ v6) h101) fun r107 h107 =>
    fX4_takeRuns_110 Γ k6 v0 v1 v3 v4 v5 s0 h107
  else
  am_bind (fX8_fault Γ (nI 7) v5 h) fun r80 h80 =>
  some (r80, h80)
def fX4_takeRuns_43 (Γ : Gm) (k6 : Nat → Nat → Int32 → Int32 → Int32 → AH → Option (Int32 × AH)) (v0 : Nat) (v1 : Nat) (v3 : Int32) (v4 : Int32) (v5 : Int32) (v6 : Int32) (h : AH) : Option (Int32 × AH) :=
  if v6 = 0 then
    am_bind (fX0_at Γ v1 (v5 + (nI 1)) h) fun r53 h53 =>
    fX4_takeRuns_62 Γ k6 v0 v1 v3 v4 v5 v6 (r53 + (nI 1)) h53
  else
  fX4_takeRuns_62 Γ k6 v0 v1 v3 v4 v5 v6 (nI 1) h
def fX4_takeRuns_6 (Γ : Gm) : Nat → Nat → Nat → Int32 → Int32 → Int32 → AH → Option (Int32 × AH)
  | 0, _, _, _, _, _, _ => none
  | z + 1, v0, v1, v3, v4, v5, h =>
    if v3 ≤ v5 then
      some (nI 0, h)
    else
    am_bind (fX0_at Γ v1 v5 h) fun r15 h15 =>
    if r15 = 0 then
      if (v5 + (nI 1)) < v3 then
        fX4_takeRuns_43 Γ (fX4_takeRuns_6 Γ z) v0 v1 v3 v4 v5 r15 h15
      else
      am_bind (fX8_fault Γ (nI 7) (v5 + (nI 1)) h15) fun r39 h39 =>
      some (r39, h39)
    else
    fX4_takeRuns_43 Γ (fX4_takeRuns_6 Γ z) v0 v1 v3 v4 v5 r15 h15
def fX4_takeRuns (Γ : Gm) (v0 : Nat) (v1 : Nat) (v2 : Int32) (v3 : Int32) (h : AH) : Option (Int32 × AH) :=
  fX4_takeRuns_6 Γ am_fuel v0 v1 v3 (nI 0) v2 h
def fX2_takeLatest (Γ : Gm) (v0 : Nat) (v1 : Nat) (v2 : Nat) (h : AH) : Option (Unit × AH) :=
  am_let ((h.1 v0 4) - (nI 1)) fun x6 =>
  if x6 < 0 then
    some ((), h)
  else
  if (nI 8) ≤ x6 then
    some ((), h)
  else
  (h.2 v0 0).bind fun b18 =>
  (h.2 v0 2).bind fun b25 =>
  if am_ok x6 (am_len Γ b25) then
  am_let ((h.1 b18 1) - (h.1 b25 x6.toNatClampNeg)) fun x31 =>
  (h.2 v0 1).bind fun b36 =>
  if am_ok x6 (am_len Γ b36) then
  am_let (x31 + (h.1 b36 x6.toNatClampNeg)) fun x42 =>
  am_bind (fX4_begin Γ v2 v1 h) fun r46 h46 =>
  (h46.2 v0 0).bind fun b51 =>
  am_bind (fX4_takeRuns Γ v2 b51 x31 x42 h46) fun r58 h58 =>
  (h58.2 v0 0).bind fun b64 =>
  (h58.2 v0 0).bind fun b70 =>
  am_bind (fX4_takeFrames Γ v2 b64 x42 (h58.1 b70 1) h58) fun r76 h76 =>
  (h76.2 v0 3).bind fun b82 =>
  if am_ok x6 (am_len Γ b82) then
  am_let (am_setI h76 v2 3 (h76.1 b82 x6.toNatClampNeg)) fun h87 =>
  (h87.2 v0 0).bind fun b91 =>
  am_bind (fX0_keepFirst Γ b91 x31 h87) fun r96 h96 =>
  am_let (am_setI h96 v0 4 x6) fun h101 =>
  some ((), h101)
  else none
  else none
  else none
def fX3_frontFault (Γ : Gm) (v0 : Nat) (h : AH) : Option (Int32 × AH) :=
  (h.2 v0 0).bind fun b1 =>
  if (nI 12) ≤ (h.1 b1 1) then
    (h.2 v0 0).bind fun b25 =>
    am_bind (fX0_number Γ b25 (nI 0) (nI 4) h) fun r30 h30 =>
    if r30 = (nI 1179603533) then
      (h30.2 v0 0).bind fun b45 =>
      am_bind (fX0_number Γ b45 (nI 4) (nI 4) h30) fun r50 h50 =>
      (h50.2 v0 0).bind fun b54 =>
      if r50 = ((h50.1 b54 1) - (nI 8)) then
        (h50.2 v0 0).bind fun b73 =>
        am_bind (fX0_number Γ b73 (nI 8) (nI 4) h50) fun r79 h79 =>
        if r79 = (nI 1229347411) then
          some (nI 0, h79)
        else
        am_bind (fX8_fault Γ (nI 2) (nI 8) h79) fun r90 h90 =>
        some (r90, h90)
      else
      am_bind (fX8_fault Γ (nI 3) (nI 4) h50) fun r68 h68 =>
      some (r68, h68)
    else
    am_bind (fX8_fault Γ (nI 2) (nI 0) h30) fun r40 h40 =>
    some (r40, h40)
  else
  (h.2 v0 0).bind fun b14 =>
  am_bind (fX8_fault Γ (nI 1) (h.1 b14 1) h) fun r20 h20 =>
  some (r20, h20)
def fX5_headAt (Γ : Gm) (v0 : Nat) (v1 : Int32) (h : AH) : Option (Int32 × AH) :=
  if v1 < 0 then
    some (nI 0, h)
  else
  (h.2 v0 0).bind fun b6 =>
  if (nI (am_len Γ b6)) ≤ v1 then
    some (nI 0, h)
  else
  (h.2 v0 0).bind fun b14 =>
  if am_ok v1 (am_len Γ b14) then
  some (h.1 b14 v1.toNatClampNeg, h)
  else none
def fX3_readHead_30 (Γ : Gm) : Nat → Nat → Nat → Nat → Int32 → Int32 → AH → Option (Int32 × AH)
  | 0, _, _, _, _, _, _ => none
  | z + 1, v0, v2, v3, v4, v5, h =>
    if (nI 10) ≤ v5 then
      (h.2 v0 0).bind fun b77 =>
      am_bind (fX0_number Γ b77 (v4 + (nI 10)) (nI 3) h) fun r86 h86 =>
      am_let (am_setI h86 v3 3 r86) fun h89 =>
      am_let (am_setI h89 v0 1 (nI 1)) fun h94 =>
      some (nI 0, h94)
    else
    (h.2 v0 0).bind fun b38 =>
    am_bind (fX0_at Γ b38 (v4 + v5) h) fun r46 h46 =>
    am_bind (fX5_headAt Γ v2 v5 h46) fun r52 h52 =>
    if r46 = r52 then
      fX3_readHead_30 Γ z v0 v2 v3 v4 (v5 + nI 1) h52
    else
    am_bind (fX8_fault Γ (nI 6) (v4 + v5) h52) fun r65 h65 =>
    some (r65, h65)
def fX3_readHead (Γ : Gm) (v0 : Nat) (v1 : Int32) (v2 : Nat) (v3 : Nat) (h : AH) : Option (Int32 × AH) :=
  if v1 = (nI 13) then
    am_let ((h.1 v0 4) + (nI 8)) fun x25 =>
    fX3_readHead_30 Γ am_fuel v0 v2 v3 x25 (nI 0) h
  else
  am_bind (fX8_fault Γ (nI 6) ((h.1 v0 4) + (nI 4)) h) fun r14 h14 =>
  some (r14, h14)
def fX4_takeMemory_2 (Γ : Gm) : Nat → Nat → Nat → Int32 → Int32 → AH → Option (Unit × AH)
  | 0, _, _, _, _, _ => none
  | z + 1, v0, v1, v2, v3, h =>
    if (h.1 v0 2) ≤ v3 then
      some ((), h)
    else
    am_bind (fX0_at Γ v1 (v2 + v3) h) fun r16 h16 =>
    am_bind (fX4_setByte Γ v0 v3 r16 h16) fun r19 h19 =>
    fX4_takeMemory_2 Γ z v0 v1 v2 (v3 + nI 1) h19
def fX4_takeMemory (Γ : Gm) (v0 : Nat) (v1 : Nat) (v2 : Int32) (h : AH) : Option (Unit × AH) :=
  fX4_takeMemory_2 Γ am_fuel v0 v1 v2 (nI 0) h
def fX3_readMemory (Γ : Gm) (v0 : Nat) (v1 : Int32) (v2 : Int32) (v3 : Nat) (h : AH) : Option (Int32 × AH) :=
  if (h.1 v0 1) = 0 then
    am_bind (fX8_fault Γ (nI 5) (h.1 v0 4) h) fun r12 h12 =>
    some (r12, h12)
  else
  am_let (am_setI h v0 2 (nI 1)) fun h18 =>
  am_let ((h18.1 v0 4) + (nI 8)) fun x28 =>
  if v1 = (nI 1129145709) then
    (h18.2 v0 0).bind fun b38 =>
    am_bind (fX4_takeRuns Γ v3 b38 x28 (x28 + v2) h18) fun r47 h47 =>
    some (r47, h47)
  else
  if v2 = (h18.1 v3 2) then
    (h18.2 v0 0).bind fun b73 =>
    am_bind (fX4_takeMemory Γ v3 b73 x28 h18) fun r78 h78 =>
    some (nI 0, h78)
  else
  am_bind (fX8_fault Γ (nI 7) ((h18.1 v0 4) + (nI 4)) h18) fun r67 h67 =>
  some (r67, h67)
def fX6_add (Γ : Gm) (v0 : Nat) (v1 : Int32) (v2 : Nat) (v3 : Int32) (v4 : Int32) (h : AH) : Option (Int32 × AH) :=
  if (h.1 v0 3) < 0 then
    some (nI 0, h)
  else
  if (nI 8) ≤ (h.1 v0 3) then
    some (nI 0, h)
  else
  if v4 ≤ (nI 200) then
    (h.2 v0 1).bind fun b27 =>
    if am_ok (h.1 v0 3) (am_len Γ b27) then am_let (am_setI h b27 (h.1 v0 3).toNatClampNeg v1) fun h35 =>
    (h35.2 v0 2).bind fun b37 =>
    if am_ok (h35.1 v0 3) (am_len Γ b37) then am_let (am_setI h35 b37 (h35.1 v0 3).toNatClampNeg v4) fun h46 =>
    (h46.2 v0 0).bind fun b48 =>
    am_bind (fX0_addPart Γ b48 v2 v3 v4 h46) fun r55 h55 =>
    am_let (am_setI h55 v0 3 ((h55.1 v0 3) + (nI 1))) fun h65 =>
    some (nI 1, h65)
    else none
    else none
  else
  some (nI 0, h)
def fX3_readContents_87 (Γ : Gm) (v0 : Nat) (v1 : Int32) (v3 : Nat) (v5 : Int32) (h : AH) : Option (Int32 × AH) :=
  if (h.1 v0 2) = 0 then
    am_bind (fX3_readMemory Γ v0 v5 v1 v3 h) fun r103 h103 =>
    some (r103, h103)
  else
  some (nI 0, h)
def fX3_readContents (Γ : Gm) (v0 : Nat) (v1 : Int32) (v2 : Nat) (v3 : Nat) (v4 : Nat) (h : AH) : Option (Int32 × AH) :=
  (h.2 v0 0).bind fun b1 =>
  am_bind (fX0_number Γ b1 (h.1 v0 4) (nI 4) h) fun r9 h9 =>
  am_let ((h9.1 v0 4) + (nI 8)) fun x21 =>
  if r9 = nI 1129145709 then
    fX3_readContents_87 Γ v0 v1 v3 r9 h9
  else
  if r9 = nI 1229351012 then
    if (h9.1 v0 1) = 0 then
      am_bind (fX3_readHead Γ v0 v1 v2 v3 h9) fun r83 h83 =>
      some (r83, h83)
    else
    some (nI 0, h9)
  else
  if r9 = nI 1400138611 then
    if (h9.1 v0 3) = 0 then
      am_let (am_setI h9 v0 3 (nI 1)) fun h118 =>
      (h118.2 v0 0).bind fun b123 =>
      am_bind (fX4_takeFrames Γ v3 b123 x21 (x21 + v1) h118) fun r132 h132 =>
      some (r132, h132)
    else
    some (nI 0, h9)
  else
  if r9 = nI 1431135597 then
    fX3_readContents_87 Γ v0 v1 v3 r9 h9
  else
  (h9.2 v0 0).bind fun b141 =>
  am_bind (fX6_add Γ v4 r9 b141 x21 v1 h9) fun r147 h147 =>
  if r147 = 0 then
    am_bind (fX8_fault Γ (nI 9) (h147.1 v0 4) h147) fun r163 h163 =>
    some (r163, h163)
  else
  some (nI 0, h147)
def fX3_shapeFault_44 (Γ : Gm) (v0 : Nat) (h : AH) : Option (Int32 × AH) :=
  (h.2 v0 0).bind fun b46 =>
  am_bind (fX8_fault Γ (nI 1) (h.1 b46 1) h) fun r52 h52 =>
  some (r52, h52)
def fX3_shapeFault (Γ : Gm) (v0 : Nat) (h : AH) : Option (Int32 × AH) :=
  (h.2 v0 0).bind fun b1 =>
  am_let (((h.1 b1 1) - (h.1 v0 4)) - (nI 8)) fun x15 =>
  (h.2 v0 0).bind fun b17 =>
  am_bind (fX0_number Γ b17 ((h.1 v0 4) + (nI 4)) (nI 4) h) fun r27 h27 =>
  if x15 < 0 then
    fX3_shapeFault_44 Γ v0 h27
  else
  if r27 < 0 then
    fX3_shapeFault_44 Γ v0 h27
  else
  if r27 ≤ x15 then
    if (r27 &&& (nI 1)) = 0 then
      some (nI 0, h27)
    else
    if r27 = x15 then
      (h27.2 v0 0).bind fun b71 =>
      am_bind (fX8_fault Γ (nI 1) (h27.1 b71 1) h27) fun r77 h77 =>
      some (r77, h77)
    else
    am_let (((h27.1 v0 4) + (nI 8)) + r27) fun x90 =>
    (h27.2 v0 0).bind fun b92 =>
    am_bind (fX0_at Γ b92 x90 h27) fun r96 h96 =>
    if r96 = 0 then
      some (nI 0, h96)
    else
    am_bind (fX8_fault Γ (nI 4) x90 h96) fun r104 h104 =>
    some (r104, h104)
  else
  fX3_shapeFault_44 Γ v0 h27
def fX6_clear (Γ : Gm) (v0 : Nat) (h : AH) : Option (Unit × AH) :=
  (h.2 v0 0).bind fun b1 =>
  am_bind (fX0_clear Γ b1 h) fun r4 h4 =>
  am_let (am_setI h4 v0 3 (nI 0)) fun h9 =>
  some ((), h9)
def fX3_readFor_155 (Γ : Gm) (v0 : Nat) (v4 : Int32) (s0 : Int32) (h : AH) : Option (Int32 × AH) :=
  if v4 = 0 then
    if s0 = 0 then
      (h.2 v0 0).bind fun b170 =>
      am_bind (fX8_fault Γ (nI 10) (h.1 b170 1) h) fun r176 h176 =>
      some (r176, h176)
    else
    some (v4, h)
  else
  some (v4, h)
def fX3_readFor_154 (Γ : Gm) (v0 : Nat) (v4 : Int32) (h : AH) : Option (Int32 × AH) :=
  fX3_readFor_155 Γ v0 v4 (nI 0) h
def fX3_readFor_129 (Γ : Gm) (v0 : Nat) (v4 : Int32) (h : AH) : Option (Int32 × AH) :=
  if (h.1 v0 1) = 0 then
    fX3_readFor_154 Γ v0 v4 h
  else
  if (h.1 v0 2) = 0 then
    fX3_readFor_154 Γ v0 v4 h
  else
  if (h.1 v0 3) = 0 then
    fX3_readFor_154 Γ v0 v4 h
  else
  fX3_readFor_155 Γ v0 v4 (nI 1) h
def fX3_readFor_123 (Γ : Gm) (k39 : Nat → Nat → Nat → Nat → Int32 → Int32 → AH → Option (Int32 × AH)) (v0 : Nat) (v1 : Nat) (v2 : Nat) (v3 : Nat) (v4 : Int32) (v5 : Int32) (h : AH) : Option (Int32 × AH) :=
  k39 v0 v1 v2 v3 v4 (v5 + nI 1) h
def fX3_readFor_39 (Γ : Gm) : Nat → Nat → Nat → Nat → Nat → Int32 → Int32 → AH → Option (Int32 × AH)
  | 0, _, _, _, _, _, _, _ => none
  | z + 1, v0, v1, v2, v3, v4, v5, h =>
    if (nI 250) ≤ v5 then
      fX3_readFor_129 Γ v0 v4 h
    else
    if v4 = 0 then
      (h.2 v0 0).bind fun b57 =>
      if (h.1 b57 1) ≤ (h.1 v0 4) then
        fX3_readFor_129 Γ v0 v4 h
      else
      am_bind (fX3_shapeFault Γ v0 h) fun r67 h67 =>
      if r67 = 0 then
        (h67.2 v0 0).bind fun b78 =>
        am_bind (fX0_number Γ b78 ((h67.1 v0 4) + (nI 4)) (nI 4) h67) fun r88 h88 =>
        am_bind (fX3_readContents Γ v0 r88 v1 v2 v3 h88) fun r99 h99 =>
        am_let (am_setI h99 v0 4 ((h99.1 v0 4) + (((nI 8) + r88) + (r88 &&& (nI 1))))) fun h120 =>
        fX3_readFor_123 Γ (fX3_readFor_39 Γ z) v0 v1 v2 v3 r99 v5 h120
      else
      fX3_readFor_123 Γ (fX3_readFor_39 Γ z) v0 v1 v2 v3 r67 v5 h67
    else
    fX3_readFor_129 Γ v0 v4 h
def fX3_readFor (Γ : Gm) (v0 : Nat) (v1 : Nat) (v2 : Nat) (v3 : Nat) (h : AH) : Option (Int32 × AH) :=
  am_bind (fX4_begin Γ v2 v1 h) fun r2 h2 =>
  am_bind (fX6_clear Γ v3 h2) fun r6 h6 =>
  am_let (am_setI h6 v0 1 (nI 0)) fun h11 =>
  am_let (am_setI h11 v0 2 (nI 0)) fun h16 =>
  am_let (am_setI h16 v0 3 (nI 0)) fun h21 =>
  am_let (am_setI h21 v0 4 (nI 12)) fun h27 =>
  am_bind (fX3_frontFault Γ v0 h27) fun r31 h31 =>
  fX3_readFor_39 Γ am_fuel v0 v1 v2 v3 r31 (nI 0) h31
def fX4_bits (Γ : Gm) (v0 : Nat) (h : AH) : Option (Int32 × AH) :=
  am_bind (fX4_byteAt Γ v0 (nI 17) h) fun r3 h3 =>
  some (r3 &&& (nI 3), h3)
def fX4_setBits (Γ : Gm) (v0 : Nat) (v1 : Int32) (h : AH) : Option (Unit × AH) :=
  am_bind (fX4_byteAt Γ v0 (nI 17) h) fun r6 h6 =>
  am_bind (fX4_setByte Γ v0 (nI 17) ((r6 &&& ((-4 : Int32))) ||| (v1 &&& (nI 3))) h6) fun r16 h16 =>
  some ((), h16)
def fX4_tellMemory_2 (Γ : Gm) : Nat → Nat → Nat → Int32 → AH → Option (Unit × AH)
  | 0, _, _, _, _ => none
  | z + 1, v0, v1, v2, h =>
    if (h.1 v0 2) ≤ v2 then
      some ((), h)
    else
    am_bind (fX4_byteAt Γ v0 v2 h) fun r13 h13 =>
    am_bind (fX0_add Γ v1 r13 h13) fun r16 h16 =>
    fX4_tellMemory_2 Γ z v0 v1 (v2 + nI 1) h16
def fX4_tellMemory (Γ : Gm) (v0 : Nat) (v1 : Nat) (h : AH) : Option (Unit × AH) :=
  fX4_tellMemory_2 Γ am_fuel v0 v1 (nI 0) h
def fX4_tellZeros_2 (Γ : Gm) : Nat → Nat → Int32 → AH → Option (Unit × AH)
  | 0, _, _, _ => none
  | z + 1, v1, v2, h =>
    if v2 ≤ 0 then
      some ((), h)
    else
    am_bind (fX0_add Γ v1 (nI 0) h) fun r8 h8 =>
    am_bind (fX0_add Γ v1 ((am_min v2 (nI 256)) - (nI 1)) h8) fun r21 h21 =>
    fX4_tellZeros_2 Γ z v1 (v2 + (-256 : Int32)) h21
def fX4_tellZeros (Γ : Gm) (v0 : Int32) (v1 : Nat) (h : AH) : Option (Unit × AH) :=
  fX4_tellZeros_2 Γ am_fuel v1 v0 h
def fX4_tellRuns_53 (Γ : Gm) (k5 : Nat → Nat → Nat → Int32 → Int32 → AH → Option (Unit × AH)) (v0 : Nat) (v1 : Nat) (v2 : Nat) (v3 : Int32) (v4 : Int32) (h : AH) : Option (Unit × AH) :=
  k5 v0 v1 v2 v3 (v4 + nI 1) h
def fX4_tellRuns_5 (Γ : Gm) : Nat → Nat → Nat → Nat → Int32 → Int32 → AH → Option (Unit × AH)
  | 0, _, _, _, _, _, _ => none
  | z + 1, v0, v1, v2, v3, v4, h =>
    if (h.1 v0 2) ≤ v4 then
      some ((), h)
    else
    am_bind (fX4_byteAt Γ v0 v4 h) fun r17 h17 =>
    am_bind (fX5_byteAt Γ v1 v4 h17) fun r23 h23 =>
    am_let (r17 ^^^ r23) fun x27 =>
    if x27 = 0 then
      fX4_tellRuns_53 Γ (fX4_tellRuns_5 Γ z) v0 v1 v2 (v3 + nI 1) v4 h23
    else
    am_bind (fX4_tellZeros Γ v3 v2 h23) fun r42 h42 =>
    am_bind (fX0_add Γ v2 x27 h42) fun r48 h48 =>
    fX4_tellRuns_53 Γ (fX4_tellRuns_5 Γ z) v0 v1 v2 (nI 0) v4 h48
def fX4_tellRuns (Γ : Gm) (v0 : Nat) (v1 : Nat) (v2 : Nat) (h : AH) : Option (Unit × AH) :=
  fX4_tellRuns_5 Γ am_fuel v0 v1 v2 (nI 0) (nI 0) h
def fX4_tellFrames_25 (Γ : Gm) (k2 : Nat → Nat → Int32 → AH → Option (Unit × AH)) (v0 : Nat) (v1 : Nat) (v2 : Int32) (h : AH) : Option (Unit × AH) :=
  k2 v0 v1 (v2 + nI 1) h
def fX4_tellFrames_2 (Γ : Gm) : Nat → Nat → Nat → Int32 → AH → Option (Unit × AH)
  | 0, _, _, _, _ => none
  | z + 1, v0, v1, v2, h =>
    if (h.1 v0 4) ≤ v2 then
      some ((), h)
    else
    am_bind (fX4_frameAt Γ v0 v2 h) fun r12 h12 =>
    r12.elim
      (fX4_tellFrames_25 Γ (fX4_tellFrames_2 Γ z) v0 v1 v2 h12)
      (fun b12 =>
        am_bind (fX1_tell Γ b12 v1 h12) fun r22 h22 =>
        fX4_tellFrames_25 Γ (fX4_tellFrames_2 Γ z) v0 v1 v2 h22)
def fX4_tellFrames (Γ : Gm) (v0 : Nat) (v1 : Nat) (h : AH) : Option (Unit × AH) :=
  fX4_tellFrames_2 Γ am_fuel v0 v1 (nI 0) h
def fX5_takeFrom_48 (Γ : Gm) : Nat → Nat → Nat → Int32 → AH → Option (Unit × AH)
  | 0, _, _, _, _ => none
  | z + 1, v0, v1, v2, h =>
    if (h.1 v0 2) ≤ v2 then
      some ((), h)
    else
    (h.2 v0 1).bind fun b57 =>
    am_bind (fX0_at Γ v1 ((nI 10) + v2) h) fun r66 h66 =>
    if am_ok v2 (am_len Γ b57) then am_let (am_setI h66 b57 v2.toNatClampNeg r66) fun h69 =>
    fX5_takeFrom_48 Γ z v0 v1 (v2 + nI 1) h69
    else none
def fX5_takeFrom_2 (Γ : Gm) : Nat → Nat → Nat → Int32 → AH → Option (Unit × AH)
  | 0, _, _, _, _ => none
  | z + 1, v0, v1, v2, h =>
    if (nI 10) ≤ v2 then
      am_let (am_setI h v0 2 (am_max (nI 0) (am_min ((h.1 v1 1) - (nI 10)) (nI 1000)))) fun h43 =>
      fX5_takeFrom_48 Γ am_fuel v0 v1 (nI 0) h43
    else
    (h.2 v0 0).bind fun b9 =>
    am_bind (fX0_at Γ v1 v2 h) fun r15 h15 =>
    if am_ok v2 (am_len Γ b9) then am_let (am_setI h15 b9 v2.toNatClampNeg r15) fun h18 =>
    fX5_takeFrom_2 Γ z v0 v1 (v2 + nI 1) h18
    else none
def fX5_takeFrom (Γ : Gm) (v0 : Nat) (v1 : Nat) (h : AH) : Option (Unit × AH) :=
  fX5_takeFrom_2 Γ am_fuel v0 v1 (nI 0) h
def fX5_tellHead_2 (Γ : Gm) : Nat → Nat → Nat → Int32 → AH → Option (Unit × AH)
  | 0, _, _, _, _ => none
  | z + 1, v0, v1, v2, h =>
    if (nI 10) ≤ v2 then
      some ((), h)
    else
    (h.2 v0 0).bind fun b10 =>
    if am_ok v2 (am_len Γ b10) then
    am_bind (fX0_add Γ v1 (h.1 b10 v2.toNatClampNeg) h) fun r15 h15 =>
    fX5_tellHead_2 Γ z v0 v1 (v2 + nI 1) h15
    else none
def fX5_tellHead (Γ : Gm) (v0 : Nat) (v1 : Nat) (h : AH) : Option (Unit × AH) :=
  fX5_tellHead_2 Γ am_fuel v0 v1 (nI 0) h
def fX7_startFile (Γ : Gm) (v0 : Nat) (h : AH) : Option (Unit × AH) :=
  am_let (am_setI h v0 4 (nI 0)) fun h2 =>
  (h2.2 v0 0).bind fun b6 =>
  am_bind (fX0_clear Γ b6 h2) fun r9 h9 =>
  (h9.2 v0 0).bind fun b13 =>
  am_bind (fX0_addNumber Γ b13 (nI 1179603533) (nI 4) h9) fun r19 h19 =>
  (h19.2 v0 0).bind fun b23 =>
  am_bind (fX0_addNumber Γ b23 (nI 0) (nI 4) h19) fun r28 h28 =>
  (h28.2 v0 0).bind fun b32 =>
  am_bind (fX0_addNumber Γ b32 (nI 1229347411) (nI 4) h28) fun r38 h38 =>
  some ((), h38)
def fX7_openChunk (Γ : Gm) (v0 : Nat) (v1 : Int32) (h : AH) : Option (Unit × AH) :=
  (h.2 v0 0).bind fun b1 =>
  am_bind (fX0_addNumber Γ b1 v1 (nI 4) h) fun r6 h6 =>
  (h6.2 v0 0).bind fun b10 =>
  am_bind (fX0_addNumber Γ b10 (nI 0) (nI 4) h6) fun r15 h15 =>
  if (h15.1 v0 4) < 0 then
    some ((), h15)
  else
  (h15.2 v0 1).bind fun b30 =>
  if (nI (am_len Γ b30)) ≤ (h15.1 v0 4) then
    some ((), h15)
  else
  (h15.2 v0 1).bind fun b38 =>
  if am_ok (h15.1 v0 4) (am_len Γ b38) then am_let (am_setI h15 b38 (h15.1 v0 4).toNatClampNeg v1) fun h46 =>
  (h46.2 v0 2).bind fun b48 =>
  (h46.2 v0 0).bind fun b56 =>
  if am_ok (h46.1 v0 4) (am_len Γ b48) then am_let (am_setI h46 b48 (h46.1 v0 4).toNatClampNeg (h46.1 b56 1)) fun h62 =>
  some ((), h62)
  else none
  else none
def fX7_closeChunk_81 (Γ : Gm) (v0 : Nat) (h : AH) : Option (Unit × AH) :=
  am_let (am_setI h v0 4 ((h.1 v0 4) + (nI 1))) fun h88 =>
  some ((), h88)
def fX7_closeChunk (Γ : Gm) (v0 : Nat) (h : AH) : Option (Unit × AH) :=
  if (h.1 v0 4) < 0 then
    some ((), h)
  else
  (h.2 v0 1).bind fun b12 =>
  if (nI (am_len Γ b12)) ≤ (h.1 v0 4) then
    some ((), h)
  else
  (h.2 v0 0).bind fun b20 =>
  (h.2 v0 2).bind fun b27 =>
  if am_ok (h.1 v0 4) (am_len Γ b27) then
  am_let ((h.1 b20 1) - (h.1 b27 (h.1 v0 4).toNatClampNeg)) fun x36 =>
  (h.2 v0 3).bind fun b38 =>
  if am_ok (h.1 v0 4) (am_len Γ b38) then am_let (am_setI h b38 (h.1 v0 4).toNatClampNeg x36) fun h46 =>
  (h46.2 v0 0).bind fun b48 =>
  (h46.2 v0 2).bind fun b52 =>
  if am_ok (h46.1 v0 4) (am_len Γ b52) then
  am_bind (fX0_setNumber Γ b48 ((h46.1 b52 (h46.1 v0 4).toNatClampNeg) - (nI 4)) x36 h46) fun r63 h63 =>
  if (x36 &&& (nI 1)) = (nI 1) then
    (h63.2 v0 0).bind fun b74 =>
    am_bind (fX0_add Γ b74 (nI 0) h63) fun r78 h78 =>
    fX7_closeChunk_81 Γ v0 h78
  else
  fX7_closeChunk_81 Γ v0 h63
  else none
  else none
  else none
def fX7_addStrangers_4 (Γ : Gm) : Nat → Nat → Nat → Int32 → Int32 → AH → Option (Unit × AH)
  | 0, _, _, _, _, _ => none
  | z + 1, v0, v1, v2, v3, h =>
    if (h.1 v1 3) ≤ v3 then
      some ((), h)
    else
    if (nI 8) ≤ v3 then
      some ((), h)
    else
    (h.2 v1 1).bind fun b20 =>
    if am_ok v3 (am_len Γ b20) then
    am_bind (fX7_openChunk Γ v0 (h.1 b20 v3.toNatClampNeg) h) fun r25 h25 =>
    (h25.2 v0 0).bind fun b29 =>
    (h25.2 v1 0).bind fun b33 =>
    (h25.2 v1 2).bind fun b38 =>
    if am_ok v3 (am_len Γ b38) then
    am_bind (fX0_addPart Γ b29 b33 v2 (h25.1 b38 v3.toNatClampNeg) h25) fun r43 h43 =>
    am_bind (fX7_closeChunk Γ v0 h43) fun r47 h47 =>
    (h47.2 v1 2).bind fun b52 =>
    if am_ok v3 (am_len Γ b52) then
    am_let (v2 + (h47.1 b52 v3.toNatClampNeg)) fun x58 =>
    fX7_addStrangers_4 Γ z v0 v1 x58 (v3 + nI 1) h47
    else none
    else none
    else none
def fX7_addStrangers (Γ : Gm) (v0 : Nat) (v1 : Nat) (h : AH) : Option (Unit × AH) :=
  fX7_addStrangers_4 Γ am_fuel v0 v1 (nI 0) (nI 0) h
def fX7_endFile (Γ : Gm) (v0 : Nat) (h : AH) : Option (Unit × AH) :=
  (h.2 v0 0).bind fun b1 =>
  (h.2 v0 0).bind fun b6 =>
  am_bind (fX0_setNumber Γ b1 (nI 4) ((h.1 b6 1) - (nI 8)) h) fun r15 h15 =>
  some ((), h15)
def fX7_tellChunk (Γ : Gm) (v0 : Nat) (v1 : Int32) (v2 : Int32) (h : AH) : Option (Int32 × AH) :=
  if v1 < 0 then
    some ((-2 : Int32), h)
  else
  if (h.1 v0 4) ≤ v1 then
    some ((-2 : Int32), h)
  else
  (h.2 v0 1).bind fun b14 =>
  if v1 < (nI (am_len Γ b14)) then
    if v2 = nI 0 then
      (h.2 v0 1).bind fun b53 =>
      if am_ok v1 (am_len Γ b53) then
      some (h.1 b53 v1.toNatClampNeg, h)
      else none
    else
    if v2 = nI 1 then
      (h.2 v0 2).bind fun b60 =>
      if am_ok v1 (am_len Γ b60) then
      some (h.1 b60 v1.toNatClampNeg, h)
      else none
    else
    (h.2 v0 3).bind fun b67 =>
    if am_ok v1 (am_len Γ b67) then
    some (h.1 b67 v1.toNatClampNeg, h)
    else none
  else
  some ((-2 : Int32), h)
def fX8_feed (Γ : Gm) (v0 : Nat) (v1 : Int32) (v2 : Int32) (v3 : Int32) (v4 : Int32) (v5 : Int32) (h : AH) : Option (Int32 × AH) :=
  (h.2 v0 2).bind fun b1 =>
  am_bind (fX0_room Γ b1 h) fun r4 h4 =>
  if (nI 20) ≤ r4 then
    (h4.2 v0 2).bind fun b16 =>
    am_bind (fX0_addNumber Γ b16 v1 (nI 4) h4) fun r21 h21 =>
    (h21.2 v0 2).bind fun b25 =>
    am_bind (fX0_addNumber Γ b25 v2 (nI 4) h21) fun r30 h30 =>
    (h30.2 v0 2).bind fun b34 =>
    am_bind (fX0_addNumber Γ b34 v3 (nI 4) h30) fun r39 h39 =>
    (h39.2 v0 2).bind fun b43 =>
    am_bind (fX0_addNumber Γ b43 v4 (nI 4) h39) fun r49 h49 =>
    (h49.2 v0 2).bind fun b53 =>
    am_bind (fX0_addNumber Γ b53 v5 (nI 4) h49) fun r59 h59 =>
    (h59.2 v0 2).bind fun b63 =>
    some (h59.1 b63 1, h59)
  else
  some ((-3 : Int32), h4)
def fX8_within (Γ : Gm) (v0 : Int32) (v1 : Int32) (h : AH) : Option (Int32 × AH) :=
  if v0 < 0 then
    some (nI 0, h)
  else
  if v1 < v0 then
    some (nI 0, h)
  else
  some (nI 1, h)
def fX8_end (Γ : Gm) (v0 : Nat) (v1 : Int32) (h : AH) : Option (Int32 × AH) :=
  (h.2 v0 2).bind fun b2 =>
  am_bind (fX8_within Γ v1 (h.1 b2 1) h) fun r8 h8 =>
  if r8 = 0 then
    some ((-1 : Int32), h8)
  else
  (h8.2 v0 2).bind fun b17 =>
  am_let ((h8.1 b17 1) - v1) fun x25 =>
  (h8.2 v0 2).bind fun b27 =>
  am_bind (fX0_keepFirst Γ b27 v1 h8) fun r31 h31 =>
  some (x25, h31)
def fX8_out (Γ : Gm) (v0 : Nat) (v1 : Int32) (h : AH) : Option (Int32 × AH) :=
  (h.2 v0 3).bind fun b2 =>
  am_bind (fX8_within Γ v1 ((h.1 b2 1) - (nI 1)) h) fun r10 h10 =>
  if r10 = 0 then
    some ((-1 : Int32), h10)
  else
  (h10.2 v0 3).bind fun b17 =>
  am_bind (fX0_at Γ b17 v1 h10) fun r21 h21 =>
  some (r21, h21)
def fX8_fillTape (Γ : Gm) (v0 : Nat) (v1 : Nat) (h : AH) : Option (Int32 × AH) :=
  if (h.1 v1 1) ≤ (nI 2000) then
    (h.2 v0 2).bind fun b14 =>
    am_bind (fX0_copyOf Γ b14 v1 h) fun r18 h18 =>
    (h18.2 v0 2).bind fun b22 =>
    some (h18.1 b22 1, h18)
  else
  some ((-3 : Int32), h)
def fX8_back (Γ : Gm) (v0 : Nat) (h : AH) : Option (Int32 × AH) :=
  (h.2 v0 3).bind fun b2 =>
  am_bind (fX8_fillTape Γ v0 b2 h) fun r5 h5 =>
  some (r5, h5)
def fX8_story_69 (Γ : Gm) (v0 : Nat) (v1 : Int32) (v2 : Int32) (h : AH) : Option (Int32 × AH) :=
  (h.2 v0 2).bind fun b70 =>
  am_bind (fX0_clear Γ b70 h) fun r73 h73 =>
  if v2 = 0 then
    some ((-1 : Int32), h73)
  else
  some (v1, h73)
def fX8_story_28 (Γ : Gm) (v0 : Nat) (v1 : Int32) (s0 : Int32) (h : AH) : Option (Int32 × AH) :=
  if s0 = 0 then
    fX8_story_69 Γ v0 v1 s0 h
  else
  (h.2 v0 6).bind fun b34 =>
  (h.2 v0 2).bind fun b38 =>
  am_bind (fX5_takeFrom Γ b34 b38 h) fun r41 h41 =>
  (h41.2 v0 8).bind fun b45 =>
  (h41.2 v0 6).bind fun b49 =>
  am_bind (fX4_begin Γ b45 b49 h41) fun r52 h52 =>
  (h52.2 v0 10).bind fun b56 =>
  am_bind (fX6_clear Γ b56 h52) fun r59 h59 =>
  (h59.2 v0 7).bind fun b63 =>
  am_bind (fX2_clear Γ b63 h59) fun r66 h66 =>
  fX8_story_69 Γ v0 v1 s0 h66
def fX8_story_27 (Γ : Gm) (v0 : Nat) (v1 : Int32) (h : AH) : Option (Int32 × AH) :=
  fX8_story_28 Γ v0 v1 (nI 0) h
def fX8_story (Γ : Gm) (v0 : Nat) (h : AH) : Option (Int32 × AH) :=
  (h.2 v0 2).bind fun b1 =>
  am_let ((h.1 b1 1) - (nI 10)) fun x10 =>
  if x10 < (nI 1) then
    fX8_story_27 Γ v0 x10 h
  else
  if (nI 1000) < x10 then
    fX8_story_27 Γ v0 x10 h
  else
  fX8_story_28 Γ v0 x10 (nI 1) h
def fX8_noStory (Γ : Gm) (v0 : Nat) (h : AH) : Option (Int32 × AH) :=
  (h.2 v0 6).bind fun b1 =>
  if (h.1 b1 2) = 0 then
    some (nI 1, h)
  else
  some (nI 0, h)
def fX8_poke (Γ : Gm) (v0 : Nat) (v1 : Int32) (v2 : Int32) (h : AH) : Option (Int32 × AH) :=
  am_bind (fX8_noStory Γ v0 h) fun r1 h1 =>
  if r1 = 0 then
    (h1.2 v0 8).bind fun b12 =>
    am_bind (fX8_within Γ v1 ((h1.1 b12 2) - (nI 1)) h1) fun r20 h20 =>
    if r20 = 0 then
      some ((-1 : Int32), h20)
    else
    am_bind (fX8_within Γ v2 (nI 255) h20) fun r30 h30 =>
    if r30 = 0 then
      some ((-1 : Int32), h30)
    else
    (h30.2 v0 8).bind fun b39 =>
    am_bind (fX4_byteAt Γ b39 v1 h30) fun r43 h43 =>
    (h43.2 v0 8).bind fun b48 =>
    am_bind (fX4_setByte Γ b48 v1 v2 h43) fun r53 h53 =>
    some (r43, h53)
  else
  some ((-4 : Int32), h1)
def fX8_peek (Γ : Gm) (v0 : Nat) (v1 : Int32) (h : AH) : Option (Int32 × AH) :=
  am_bind (fX8_noStory Γ v0 h) fun r1 h1 =>
  if r1 = 0 then
    (h1.2 v0 8).bind fun b12 =>
    am_bind (fX8_within Γ v1 ((h1.1 b12 2) - (nI 1)) h1) fun r20 h20 =>
    if r20 = 0 then
      some ((-1 : Int32), h20)
    else
    (h20.2 v0 8).bind fun b27 =>
    am_bind (fX4_byteAt Γ b27 v1 h20) fun r31 h31 =>
    some (r31, h31)
  else
  some ((-4 : Int32), h1)
def fX8_jump (Γ : Gm) (v0 : Nat) (v1 : Int32) (h : AH) : Option (Int32 × AH) :=
  am_bind (fX8_noStory Γ v0 h) fun r1 h1 =>
  if r1 = 0 then
    am_bind (fX8_within Γ v1 (nI 16777215) h1) fun r13 h13 =>
    if r13 = 0 then
      some ((-1 : Int32), h13)
    else
    (h13.2 v0 8).bind fun b22 =>
    am_let (h13.1 b22 3) fun x28 =>
    (h13.2 v0 8).bind fun b30 =>
    am_let (am_setI h13 b30 3 v1) fun h34 =>
    some (x28, h34)
  else
  some ((-4 : Int32), h1)
def fX8_call_31 (Γ : Gm) (v0 : Nat) (v1 : Int32) (v2 : Int32) (v3 : Int32) (v4 : Int32) (s0 : Int32) (h : AH) : Option (Int32 × AH) :=
  am_bind (fX8_within Γ v1 (nI 16777215) h) fun r36 h36 =>
  if r36 = 0 then
    some ((-1 : Int32), h36)
  else
  if s0 = 0 then
    some ((-1 : Int32), h36)
  else
  am_bind (fX8_within Γ v3 (nI 7) h36) fun r50 h50 =>
  if r50 = 0 then
    some ((-1 : Int32), h50)
  else
  am_bind (fX8_within Γ v4 (nI 15) h50) fun r60 h60 =>
  if r60 = 0 then
    some ((-1 : Int32), h60)
  else
  (h60.2 v0 8).bind fun b69 =>
  if (h60.1 b69 4) < (nI 20) then
    (h60.2 v0 8).bind fun b84 =>
    (h60.2 v0 8).bind fun b88 =>
    am_bind (fX4_addFrame Γ b84 (h60.1 b88 3) v2 v3 v4 h60) fun r98 h98 =>
    (h98.2 v0 8).bind fun b102 =>
    am_let (am_setI h98 b102 3 v1) fun h106 =>
    (h106.2 v0 8).bind fun b110 =>
    some (h106.1 b110 4, h106)
  else
  some ((-3 : Int32), h60)
def fX8_call_26 (Γ : Gm) (v0 : Nat) (v1 : Int32) (v2 : Int32) (v3 : Int32) (v4 : Int32) (h : AH) : Option (Int32 × AH) :=
  fX8_call_31 Γ v0 v1 v2 v3 v4 (nI 1) h
def fX8_call (Γ : Gm) (v0 : Nat) (v1 : Int32) (v2 : Int32) (v3 : Int32) (v4 : Int32) (h : AH) : Option (Int32 × AH) :=
  am_bind (fX8_noStory Γ v0 h) fun r1 h1 =>
  if r1 = 0 then
    if v2 = ((-2 : Int32)) then
      fX8_call_26 Γ v0 v1 v2 v3 v4 h1
    else
    am_bind (fX8_within Γ v2 (nI 255) h1) fun r20 h20 =>
    if r20 = 0 then
      fX8_call_31 Γ v0 v1 v2 v3 v4 (nI 0) h20
    else
    fX8_call_26 Γ v0 v1 v2 v3 v4 h20
  else
  some ((-4 : Int32), h1)
def fX8_leave (Γ : Gm) (v0 : Nat) (h : AH) : Option (Int32 × AH) :=
  am_bind (fX8_noStory Γ v0 h) fun r1 h1 =>
  if r1 = 0 then
    (h1.2 v0 8).bind fun b11 =>
    am_bind (fX4_newest Γ b11 h1) fun r14 h14 =>
    r14.elim
      (some ((-2 : Int32), h14))
      (fun b14 =>
        (h14.2 v0 8).bind fun b23 =>
        if (nI 1) < (h14.1 b23 4) then
          (h14.2 v0 8).bind fun b37 =>
          am_let (am_setI h14 b37 3 (h14.1 b14 1)) fun h44 =>
          (h44.2 v0 8).bind fun b48 =>
          am_let (am_setI h44 b48 4 ((h44.1 b48 4) - (nI 1))) fun h57 =>
          (h57.2 v0 8).bind fun b61 =>
          some (h57.1 b61 3, h57)
        else
        some ((-2 : Int32), h14))
  else
  some ((-4 : Int32), h1)
def fX8_local (Γ : Gm) (v0 : Nat) (v1 : Int32) (v2 : Int32) (h : AH) : Option (Int32 × AH) :=
  am_bind (fX8_noStory Γ v0 h) fun r1 h1 =>
  if r1 = 0 then
    (h1.2 v0 8).bind fun b11 =>
    am_bind (fX4_newest Γ b11 h1) fun r14 h14 =>
    r14.elim
      (some ((-1 : Int32), h14))
      (fun b14 =>
        am_bind (fX8_within Γ v1 ((h14.1 b14 4) - (nI 1)) h14) fun r29 h29 =>
        if r29 = 0 then
          some ((-1 : Int32), h29)
        else
        am_bind (fX8_within Γ v2 (nI 65535) h29) fun r38 h38 =>
        if r38 = 0 then
          some ((-1 : Int32), h38)
        else
        am_bind (fX1_wordAt Γ b14 v1 h38) fun r48 h48 =>
        am_bind (fX1_setWord Γ b14 v1 v2 h48) fun r56 h56 =>
        some (r48, h56))
  else
  some ((-4 : Int32), h1)
def fX8_push (Γ : Gm) (v0 : Nat) (v1 : Int32) (h : AH) : Option (Int32 × AH) :=
  am_bind (fX8_noStory Γ v0 h) fun r1 h1 =>
  if r1 = 0 then
    am_bind (fX8_within Γ v1 (nI 65535) h1) fun r13 h13 =>
    if r13 = 0 then
      some ((-1 : Int32), h13)
    else
    (h13.2 v0 8).bind fun b22 =>
    am_bind (fX4_newest Γ b22 h13) fun r25 h25 =>
    r25.elim
      (some ((-3 : Int32), h25))
      (fun b25 =>
        if (h25.1 b25 5) < (nI 40) then
          am_bind (fX1_stackWord Γ b25 v1 h25) fun r47 h47 =>
          some (h47.1 b25 5, h47)
        else
        some ((-3 : Int32), h25))
  else
  some ((-4 : Int32), h1)
def fX8_pop (Γ : Gm) (v0 : Nat) (h : AH) : Option (Int32 × AH) :=
  am_bind (fX8_noStory Γ v0 h) fun r1 h1 =>
  if r1 = 0 then
    (h1.2 v0 8).bind fun b11 =>
    am_bind (fX4_newest Γ b11 h1) fun r14 h14 =>
    r14.elim
      (some ((-2 : Int32), h14))
      (fun b14 =>
        if 0 < (h14.1 b14 5) then
          am_bind (fX1_words Γ b14 h14) fun r34 h34 =>
          am_bind (fX1_wordAt Γ b14 (r34 - (nI 1)) h34) fun r39 h39 =>
          am_let (am_setI h39 b14 5 ((h39.1 b14 5) - (nI 1))) fun h50 =>
          some (r39, h50)
        else
        some ((-2 : Int32), h14))
  else
  some ((-4 : Int32), h1)
def fX8_frame (Γ : Gm) (v0 : Nat) (v1 : Int32) (v2 : Int32) (h : AH) : Option (Int32 × AH) :=
  am_bind (fX8_noStory Γ v0 h) fun r1 h1 =>
  if r1 = 0 then
    (h1.2 v0 8).bind fun b11 =>
    am_bind (fX4_frameAt Γ b11 v1 h1) fun r15 h15 =>
    r15.elim
      (some ((-2 : Int32), h15))
      (fun b15 =>
        if v2 < (nI 10) then
          if v2 = nI 0 then
            some (h15.1 b15 1, h15)
          else
          if v2 = nI 1 then
            some (h15.1 b15 2, h15)
          else
          if v2 = nI 2 then
            some (h15.1 b15 3, h15)
          else
          if v2 = nI 3 then
            some (h15.1 b15 4, h15)
          else
          if v2 = nI 4 then
            some (h15.1 b15 5, h15)
          else
          some ((-1 : Int32), h15)
        else
        am_bind (fX1_words Γ b15 h15) fun r37 h37 =>
        if r37 ≤ (v2 - (nI 10)) then
          some ((-2 : Int32), h37)
        else
        am_bind (fX1_wordAt Γ b15 (v2 - (nI 10)) h37) fun r48 h48 =>
        some (r48, h48))
  else
  some ((-4 : Int32), h1)
def fX8_printed (Γ : Gm) (v0 : Int64) (v2 : Int32) (h : AH) : Option (Int64 × AH) :=
  some ((v0 ^^^ v2.toInt64) * ((1099511628211 : Int64)), h)
def fX8_print_80 (Γ : Gm) : Nat → Nat → Int64 → Int32 → AH → Option (Int64 × AH)
  | 0, _, _, _, _ => none
  | z + 1, v0, v1, v3, h =>
    (h.2 v0 5).bind fun b82 =>
    if (h.1 b82 1) ≤ v3 then
      some (v1, h)
    else
    (h.2 v0 5).bind fun b93 =>
    am_bind (fX0_at Γ b93 v3 h) fun r97 h97 =>
    am_bind (fX8_printed Γ v1 r97 h97) fun r100 h100 =>
    fX8_print_80 Γ z v0 r100 (v3 + nI 1) h100
def fX8_print_15 (Γ : Gm) : Nat → Nat → Int64 → Int32 → AH → Option (Int64 × AH)
  | 0, _, _, _, _ => none
  | z + 1, v0, v1, v3, h =>
    (h.2 v0 8).bind fun b17 =>
    if (h.1 b17 2) ≤ v3 then
      (h.2 v0 5).bind fun b46 =>
      am_bind (fX0_clear Γ b46 h) fun r49 h49 =>
      (h49.2 v0 5).bind fun b53 =>
      (h49.2 v0 8).bind fun b57 =>
      am_bind (fX0_addNumber Γ b53 (h49.1 b57 3) (nI 3) h49) fun r64 h64 =>
      (h64.2 v0 8).bind fun b68 =>
      (h64.2 v0 5).bind fun b72 =>
      am_bind (fX4_tellFrames Γ b68 b72 h64) fun r75 h75 =>
      fX8_print_80 Γ am_fuel v0 v1 (nI 0) h75
    else
    (h.2 v0 8).bind fun b28 =>
    am_bind (fX4_byteAt Γ b28 v3 h) fun r32 h32 =>
    am_bind (fX8_printed Γ v1 r32 h32) fun r35 h35 =>
    fX8_print_15 Γ z v0 r35 (v3 + nI 1) h35
def fX8_print (Γ : Gm) (v0 : Nat) (h : AH) : Option (Int64 × AH) :=
  am_bind (fX8_noStory Γ v0 h) fun r1 h1 =>
  if r1 = 0 then
    fX8_print_15 Γ am_fuel v0 ((-3750763034362895579 : Int64)) (nI 0) h1
  else
  some ((0 : Int64), h1)
def fX8_save_110 (Γ : Gm) (v0 : Nat) (h : AH) : Option (Int32 × AH) :=
  (h.2 v0 1).bind fun b111 =>
  am_bind (fX7_closeChunk Γ b111 h) fun r114 h114 =>
  (h114.2 v0 1).bind fun b118 =>
  am_bind (fX7_openChunk Γ b118 (nI 1400138611) h114) fun r123 h123 =>
  (h123.2 v0 8).bind fun b127 =>
  (h123.2 v0 3).bind fun b131 =>
  am_bind (fX4_tellFrames Γ b127 b131 h123) fun r134 h134 =>
  (h134.2 v0 1).bind fun b138 =>
  am_bind (fX7_closeChunk Γ b138 h134) fun r141 h141 =>
  (h141.2 v0 1).bind fun b145 =>
  (h141.2 v0 10).bind fun b149 =>
  am_bind (fX7_addStrangers Γ b145 b149 h141) fun r152 h152 =>
  (h152.2 v0 1).bind fun b156 =>
  am_bind (fX7_endFile Γ b156 h152) fun r159 h159 =>
  (h159.2 v0 3).bind fun b163 =>
  some (h159.1 b163 1, h159)
def fX8_save_74 (Γ : Gm) (v0 : Nat) (v1 : Int32) (s0 : Nat) (s1 : Int32) (h : AH) : Option (Int32 × AH) :=
  am_bind (fX7_openChunk Γ s0 s1 h) fun r74 h74 =>
  if v1 = 0 then
    (h74.2 v0 8).bind fun b96 =>
    (h74.2 v0 6).bind fun b100 =>
    (h74.2 v0 3).bind fun b104 =>
    am_bind (fX4_tellRuns Γ b96 b100 b104 h74) fun r107 h107 =>
    fX8_save_110 Γ v0 h107
  else
  (h74.2 v0 8).bind fun b82 =>
  (h74.2 v0 3).bind fun b86 =>
  am_bind (fX4_tellMemory Γ b82 b86 h74) fun r89 h89 =>
  fX8_save_110 Γ v0 h89
def fX8_save (Γ : Gm) (v0 : Nat) (v1 : Int32) (h : AH) : Option (Int32 × AH) :=
  am_bind (fX8_noStory Γ v0 h) fun r1 h1 =>
  if r1 = 0 then
    (h1.2 v0 1).bind fun b11 =>
    am_bind (fX7_startFile Γ b11 h1) fun r14 h14 =>
    (h14.2 v0 1).bind fun b18 =>
    am_bind (fX7_openChunk Γ b18 (nI 1229351012) h14) fun r23 h23 =>
    (h23.2 v0 6).bind fun b27 =>
    (h23.2 v0 3).bind fun b31 =>
    am_bind (fX5_tellHead Γ b27 b31 h23) fun r34 h34 =>
    (h34.2 v0 3).bind fun b38 =>
    (h34.2 v0 8).bind fun b42 =>
    am_bind (fX0_addNumber Γ b38 (h34.1 b42 3) (nI 3) h34) fun r49 h49 =>
    (h49.2 v0 1).bind fun b53 =>
    am_bind (fX7_closeChunk Γ b53 h49) fun r56 h56 =>
    (h56.2 v0 1).bind fun b60 =>
    if v1 = 0 then
      fX8_save_74 Γ v0 v1 b60 (nI 1129145709) h56
    else
    fX8_save_74 Γ v0 v1 b60 (nI 1431135597) h56
  else
  some ((-4 : Int32), h1)
def fX8_turnToComing (Γ : Gm) (v0 : Nat) (h : AH) : Option (Unit × AH) :=
  (h.2 v0 10).bind fun b1 =>
  (h.2 v0 11).bind fun b7 =>
  am_let (am_setR h v0 10 (some b7)) fun h10 =>
  am_let (am_setR h10 v0 11 (some b1)) fun h15 =>
  some ((), h15)
def fX8_turnToSpare (Γ : Gm) (v0 : Nat) (h : AH) : Option (Unit × AH) :=
  (h.2 v0 8).bind fun b1 =>
  (h.2 v0 9).bind fun b6 =>
  am_bind (fX4_bits Γ b1 h) fun r10 h10 =>
  am_bind (fX4_setBits Γ b6 r10 h10) fun r13 h13 =>
  (h13.2 v0 9).bind fun b18 =>
  am_let (am_setR h13 v0 8 (some b18)) fun h21 =>
  am_let (am_setR h21 v0 9 (some b1)) fun h26 =>
  some ((), h26)
def fX8_restore_66 (Γ : Gm) (v0 : Nat) (v1 : Int32) (s0 : Nat) (s1 : Int32) (h : AH) : Option (Int32 × AH) :=
  am_let (am_setI h s0 15 s1) fun h66 =>
  if v1 = 0 then
    am_bind (fX8_turnToSpare Γ v0 h66) fun r82 h82 =>
    am_bind (fX8_turnToComing Γ v0 h82) fun r86 h86 =>
    some (nI 1, h86)
  else
  some (((-10 : Int32)) - (h66.1 v0 14), h66)
def fX8_restore (Γ : Gm) (v0 : Nat) (h : AH) : Option (Int32 × AH) :=
  am_bind (fX8_noStory Γ v0 h) fun r1 h1 =>
  if r1 = 0 then
    (h1.2 v0 0).bind fun b18 =>
    (h1.2 v0 6).bind fun b22 =>
    (h1.2 v0 9).bind fun b26 =>
    (h1.2 v0 11).bind fun b30 =>
    am_bind (fX3_readFor Γ b18 b22 b26 b30 h1) fun r33 h33 =>
    (h33.2 v0 2).bind fun b38 =>
    am_bind (fX0_clear Γ b38 h33) fun r41 h41 =>
    am_let (am_setI h41 v0 14 (am_ushr r33 (nI 16))) fun h49 =>
    if r33 = 0 then
      fX8_restore_66 Γ v0 r33 v0 ((-2 : Int32)) h49
    else
    fX8_restore_66 Γ v0 r33 v0 (r33 &&& (nI 65535)) h49
  else
  (h1.2 v0 2).bind fun b8 =>
  am_bind (fX0_clear Γ b8 h1) fun r11 h11 =>
  some ((-4 : Int32), h11)
def fX8_why (Γ : Gm) (v0 : Nat) (v1 : Int32) (h : AH) : Option (Int32 × AH) :=
  if v1 = nI 0 then
    some (h.1 v0 14, h)
  else
  if v1 = nI 1 then
    some (h.1 v0 15, h)
  else
  some ((-1 : Int32), h)
def fX8_chunk (Γ : Gm) (v0 : Nat) (v1 : Int32) (v2 : Int32) (h : AH) : Option (Int32 × AH) :=
  am_bind (fX8_within Γ v2 (nI 2) h) fun r2 h2 =>
  if r2 = 0 then
    some ((-1 : Int32), h2)
  else
  (h2.2 v0 1).bind fun b12 =>
  am_bind (fX8_within Γ v1 ((h2.1 b12 4) - (nI 1)) h2) fun r20 h20 =>
  if r20 = 0 then
    some ((-2 : Int32), h20)
  else
  (h20.2 v0 1).bind fun b27 =>
  am_bind (fX7_tellChunk Γ b27 v1 v2 h20) fun r32 h32 =>
  some (r32, h32)
def fX8_write_28 (Γ : Gm) (v0 : Nat) (s0 : Int32) (h : AH) : Option (Int32 × AH) :=
  am_let (am_setI h v0 13 ((-2 : Int32))) fun h32 =>
  if s0 = 0 then
    (h32.2 v0 4).bind fun b42 =>
    (h32.2 v0 3).bind fun b46 =>
    am_bind (fX0_copyOf Γ b42 b46 h32) fun r49 h49 =>
    am_let (am_setI h49 v0 12 (nI 1)) fun h54 =>
    some (nI 1, h54)
  else
  some (nI 0, h32)
def fX8_write_27 (Γ : Gm) (v0 : Nat) (h : AH) : Option (Int32 × AH) :=
  fX8_write_28 Γ v0 (nI 0) h
def fX8_write (Γ : Gm) (v0 : Nat) (h : AH) : Option (Int32 × AH) :=
  if (h.1 v0 13) = ((-2 : Int32)) then
    fX8_write_27 Γ v0 h
  else
  (h.2 v0 3).bind fun b10 =>
  if (h.1 b10 1) ≤ (h.1 v0 13) then
    fX8_write_27 Γ v0 h
  else
  fX8_write_28 Γ v0 (nI 1) h
def fX8_cut (Γ : Gm) (v0 : Nat) (v1 : Int32) (h : AH) : Option (Int32 × AH) :=
  if 0 ≤ v1 then
    am_let (am_setI h v0 13 v1) fun h14 =>
    some (nI 1, h14)
  else
  if v1 = ((-2 : Int32)) then
    am_let (am_setI h v0 13 v1) fun h14 =>
    some (nI 1, h14)
  else
  some ((-1 : Int32), h)
def fX8_load (Γ : Gm) (v0 : Nat) (h : AH) : Option (Int32 × AH) :=
  if (h.1 v0 12) = 0 then
    some ((-2 : Int32), h)
  else
  (h.2 v0 4).bind fun b9 =>
  am_bind (fX8_fillTape Γ v0 b9 h) fun r12 h12 =>
  some (r12, h12)
def fX8_weighNow (Γ : Gm) (v0 : Nat) (h : AH) : Option (Int32 × AH) :=
  (h.2 v0 5).bind fun b1 =>
  am_bind (fX0_clear Γ b1 h) fun r4 h4 =>
  (h4.2 v0 8).bind fun b8 =>
  (h4.2 v0 6).bind fun b12 =>
  (h4.2 v0 5).bind fun b16 =>
  am_bind (fX4_tellRuns Γ b8 b12 b16 h4) fun r19 h19 =>
  (h19.2 v0 5).bind fun b23 =>
  am_let (h19.1 b23 1) fun x29 =>
  (h19.2 v0 8).bind fun b31 =>
  (h19.2 v0 5).bind fun b35 =>
  am_bind (fX4_tellFrames Γ b31 b35 h19) fun r38 h38 =>
  some (x29, h38)
def fX8_keep (Γ : Gm) (v0 : Nat) (h : AH) : Option (Int32 × AH) :=
  am_bind (fX8_noStory Γ v0 h) fun r1 h1 =>
  if r1 = 0 then
    am_bind (fX8_weighNow Γ v0 h1) fun r11 h11 =>
    (h11.2 v0 5).bind fun b16 =>
    (h11.2 v0 7).bind fun b23 =>
    if (h11.1 b16 1) ≤ (h11.1 b23 5) then
      (h11.2 v0 7).bind fun b36 =>
      (h11.2 v0 5).bind fun b40 =>
      (h11.2 v0 8).bind fun b45 =>
      am_bind (fX2_add Γ b36 b40 r11 (h11.1 b45 3) h11) fun r51 h51 =>
      (h51.2 v0 7).bind fun b55 =>
      some (h51.1 b55 4, h51)
    else
    some ((-3 : Int32), h11)
  else
  some ((-4 : Int32), h1)
def fX8_undo (Γ : Gm) (v0 : Nat) (h : AH) : Option (Int32 × AH) :=
  am_bind (fX8_noStory Γ v0 h) fun r1 h1 =>
  if r1 = 0 then
    (h1.2 v0 7).bind fun b11 =>
    if 0 < (h1.1 b11 4) then
      (h1.2 v0 7).bind fun b24 =>
      (h1.2 v0 6).bind fun b28 =>
      (h1.2 v0 9).bind fun b32 =>
      am_bind (fX2_takeLatest Γ b24 b28 b32 h1) fun r35 h35 =>
      am_bind (fX8_turnToSpare Γ v0 h35) fun r39 h39 =>
      (h39.2 v0 7).bind fun b43 =>
      some (h39.1 b43 4, h39)
    else
    some ((-2 : Int32), h1)
  else
  some ((-4 : Int32), h1)
def fX8_bound (Γ : Gm) (v0 : Nat) (v1 : Int32) (h : AH) : Option (Int32 × AH) :=
  am_bind (fX8_within Γ v1 (nI 10000) h) fun r4 h4 =>
  if r4 = 0 then
    some ((-1 : Int32), h4)
  else
  (h4.2 v0 7).bind fun b13 =>
  am_let (h4.1 b13 5) fun x19 =>
  (h4.2 v0 7).bind fun b21 =>
  am_let (am_setI h4 b21 5 v1) fun h25 =>
  (h25.2 v0 7).bind fun b29 =>
  am_bind (fX2_shrink Γ b29 (nI 8) v1 h25) fun r35 h35 =>
  some (x19, h35)
def fX8_restart (Γ : Gm) (v0 : Nat) (h : AH) : Option (Int32 × AH) :=
  am_bind (fX8_noStory Γ v0 h) fun r1 h1 =>
  if r1 = 0 then
    (h1.2 v0 9).bind fun b11 =>
    (h1.2 v0 6).bind fun b15 =>
    am_bind (fX4_begin Γ b11 b15 h1) fun r18 h18 =>
    am_bind (fX8_turnToSpare Γ v0 h18) fun r22 h22 =>
    some (nI 1, h22)
  else
  some ((-4 : Int32), h1)
def fX8_told (Γ : Gm) (v0 : Nat) (v1 : Int32) (h : AH) : Option (Int32 × AH) :=
  if v1 = nI 0 then
    (h.2 v0 8).bind fun b57 =>
    some (h.1 b57 2, h)
  else
  if v1 = nI 1 then
    (h.2 v0 8).bind fun b65 =>
    some (h.1 b65 3, h)
  else
  if v1 = nI 2 then
    (h.2 v0 8).bind fun b73 =>
    some (h.1 b73 4, h)
  else
  if v1 = nI 3 then
    (h.2 v0 7).bind fun b81 =>
    some (h.1 b81 4, h)
  else
  if v1 = nI 4 then
    (h.2 v0 7).bind fun b89 =>
    (h.2 b89 0).bind fun b92 =>
    some (h.1 b92 1, h)
  else
  if v1 = nI 5 then
    am_bind (fX8_weighNow Γ v0 h) fun r100 h100 =>
    (h100.2 v0 5).bind fun b105 =>
    some (h100.1 b105 1, h100)
  else
  if v1 = nI 6 then
    (h.2 v0 10).bind fun b113 =>
    some (h.1 b113 3, h)
  else
  if v1 = nI 7 then
    (h.2 v0 2).bind fun b121 =>
    some (h.1 b121 1, h)
  else
  if v1 = nI 8 then
    (h.2 v0 3).bind fun b129 =>
    some (h.1 b129 1, h)
  else
  if v1 = nI 9 then
    if (h.1 v0 12) = 0 then
      some ((-2 : Int32), h)
    else
    (h.2 v0 4).bind fun b144 =>
    some (h.1 b144 1, h)
  else
  some ((-1 : Int32), h)
def fX9_outside_10 (Γ : Gm) (h : AH) : Option (Int32 × AH) :=
  some (nI 1, h)
def fX9_outside (Γ : Gm) (v0 : Int32) (v1 : Int32) (v2 : Int32) (h : AH) : Option (Int32 × AH) :=
  if v0 < v1 then
    fX9_outside_10 Γ h
  else
  if v0 ≤ v2 then
    some (nI 0, h)
  else
  fX9_outside_10 Γ h
def fX9_four_2 (Γ : Gm) : Nat → Nat → Int32 → Int32 → Int32 → AH → Option (Unit × AH)
  | 0, _, _, _, _, _ => none
  | z + 1, v0, v1, v2, v3, h =>
    if (nI 4) ≤ v3 then
      some ((), h)
    else
    (h.2 v0 0).bind fun b8 =>
    if am_ok (v2 + v3) (am_len Γ b8) then am_let (am_setI h b8 (v2 + v3).toNatClampNeg ((am_shr v1 ((nI 24) - ((nI 8) * v3))) &&& (nI 255))) fun h27 =>
    fX9_four_2 Γ z v0 v1 v2 (v3 + nI 1) h27
    else none
def fX9_four (Γ : Gm) (v0 : Nat) (v1 : Int32) (v2 : Int32) (h : AH) : Option (Unit × AH) :=
  fX9_four_2 Γ am_fuel v0 v1 v2 (nI 0) h
def fX9_feed (Γ : Gm) (v0 : Nat) (v1 : Int32) (v2 : Int32) (v3 : Int32) (v4 : Int32) (v5 : Int32) (h : AH) : Option (Int32 × AH) :=
  if (h.1 v0 1) ≤ (nI 1980) then
    am_bind (fX9_four Γ v0 v1 (h.1 v0 1) h) fun r19 h19 =>
    am_bind (fX9_four Γ v0 v2 ((h19.1 v0 1) + (nI 4)) h19) fun r30 h30 =>
    am_bind (fX9_four Γ v0 v3 ((h30.1 v0 1) + (nI 8)) h30) fun r42 h42 =>
    am_bind (fX9_four Γ v0 v4 ((h42.1 v0 1) + (nI 12)) h42) fun r55 h55 =>
    am_bind (fX9_four Γ v0 v5 ((h55.1 v0 1) + (nI 16)) h55) fun r68 h68 =>
    am_let (am_setI h68 v0 1 ((h68.1 v0 1) + (nI 20))) fun h79 =>
    some (h79.1 v0 1, h79)
  else
  some ((-3 : Int32), h)
def fX9_end (Γ : Gm) (v0 : Nat) (v1 : Int32) (h : AH) : Option (Int32 × AH) :=
  am_bind (fX9_outside Γ v1 (nI 0) (h.1 v0 1) h) fun r6 h6 =>
  if r6 = 0 then
    am_let ((h6.1 v0 1) - v1) fun x20 =>
    am_let (am_setI h6 v0 1 v1) fun h23 =>
    some (x20, h23)
  else
  some ((-1 : Int32), h6)
def fX9_out (Γ : Gm) (v0 : Nat) (v1 : Int32) (h : AH) : Option (Int32 × AH) :=
  am_bind (fX9_outside Γ v1 (nI 0) ((h.1 v0 3) - (nI 1)) h) fun r8 h8 =>
  if r8 = 0 then
    (h8.2 v0 2).bind fun b19 =>
    if am_ok v1 (am_len Γ b19) then
    some (h8.1 b19 v1.toNatClampNeg, h8)
    else none
  else
  some ((-1 : Int32), h8)
def fX9_back_15 (Γ : Gm) : Nat → Nat → Int32 → AH → Option (Int32 × AH)
  | 0, _, _, _ => none
  | z + 1, v0, v1, h =>
    if (h.1 v0 3) ≤ v1 then
      am_let (am_setI h v0 1 (h.1 v0 3)) fun h46 =>
      some (h46.1 v0 1, h46)
    else
    (h.2 v0 0).bind fun b24 =>
    (h.2 v0 2).bind fun b29 =>
    if am_ok v1 (am_len Γ b29) then
    if am_ok v1 (am_len Γ b24) then am_let (am_setI h b24 v1.toNatClampNeg (h.1 b29 v1.toNatClampNeg)) fun h34 =>
    fX9_back_15 Γ z v0 (v1 + nI 1) h34
    else none
    else none
def fX9_back (Γ : Gm) (v0 : Nat) (h : AH) : Option (Int32 × AH) :=
  if (h.1 v0 3) ≤ (nI 2000) then
    fX9_back_15 Γ am_fuel v0 (nI 0) h
  else
  some ((-3 : Int32), h)
def fX9_begin_32 (Γ : Gm) (k2 : Nat → Int32 → AH → Option (Unit × AH)) (v0 : Nat) (v1 : Int32) (s0 : Nat) (s1 : Int32) (s2 : Int32) (h : AH) : Option (Unit × AH) :=
  if am_ok s1 (am_len Γ s0) then am_let (am_setI h s0 s1.toNatClampNeg s2) fun h32 =>
  k2 v0 (v1 + nI 1) h32
  else none
def fX9_begin_2 (Γ : Gm) : Nat → Nat → Int32 → AH → Option (Unit × AH)
  | 0, _, _, _ => none
  | z + 1, v0, v1, h =>
    if (nI 2202) ≤ v1 then
      (h.2 v0 10).bind fun b40 =>
      if am_ok (nI 1001) (am_len Γ b40) then am_let (am_setI h b40 (nI 1001).toNatClampNeg (nI 1)) fun h47 =>
      some ((), h47)
      else none
    else
    (h.2 v0 10).bind fun b10 =>
    if (h.1 v0 9) ≤ v1 then
      fX9_begin_32 Γ (fX9_begin_2 Γ z) v0 v1 b10 v1 (nI 0) h
    else
    (h.2 v0 8).bind fun b23 =>
    if am_ok v1 (am_len Γ b23) then
    fX9_begin_32 Γ (fX9_begin_2 Γ z) v0 v1 b10 v1 (h.1 b23 v1.toNatClampNeg) h
    else none
def fX9_begin (Γ : Gm) (v0 : Nat) (h : AH) : Option (Unit × AH) :=
  fX9_begin_2 Γ am_fuel v0 (nI 0) h
def fX9_story_60 (Γ : Gm) : Nat → Nat → Int32 → AH → Option (Int32 × AH)
  | 0, _, _, _ => none
  | z + 1, v0, v2, h =>
    if (h.1 v0 9) ≤ v2 then
      am_bind (fX9_begin Γ v0 h) fun r90 h90 =>
      am_let (am_setI h90 v0 17 (nI 0)) fun h95 =>
      am_let (am_setI h95 v0 14 (nI 0)) fun h100 =>
      some (h100.1 v0 9, h100)
    else
    (h.2 v0 8).bind fun b69 =>
    (h.2 v0 0).bind fun b74 =>
    if am_ok ((nI 10) + v2) (am_len Γ b74) then
    if am_ok v2 (am_len Γ b69) then am_let (am_setI h b69 v2.toNatClampNeg (h.1 b74 ((nI 10) + v2).toNatClampNeg)) fun h82 =>
    fX9_story_60 Γ z v0 (v2 + nI 1) h82
    else none
    else none
def fX9_story_26 (Γ : Gm) : Nat → Nat → Int32 → Int32 → AH → Option (Int32 × AH)
  | 0, _, _, _, _ => none
  | z + 1, v0, v1, v2, h =>
    if (nI 10) ≤ v2 then
      am_let (am_setI h v0 9 (v1 - (nI 10))) fun h55 =>
      fX9_story_60 Γ am_fuel v0 (nI 0) h55
    else
    (h.2 v0 7).bind fun b33 =>
    (h.2 v0 0).bind fun b38 =>
    if am_ok v2 (am_len Γ b38) then
    if am_ok v2 (am_len Γ b33) then am_let (am_setI h b33 v2.toNatClampNeg (h.1 b38 v2.toNatClampNeg)) fun h43 =>
    fX9_story_26 Γ z v0 v1 (v2 + nI 1) h43
    else none
    else none
def fX9_story (Γ : Gm) (v0 : Nat) (h : AH) : Option (Int32 × AH) :=
  am_let (h.1 v0 1) fun x4 =>
  am_let (am_setI h v0 1 (nI 0)) fun h7 =>
  am_bind (fX9_outside Γ x4 (nI 11) (nI 1010) h7) fun r16 h16 =>
  if r16 = 0 then
    fX9_story_26 Γ am_fuel v0 x4 (nI 0) h16
  else
  some ((-1 : Int32), h16)
def fX9_bits (Γ : Gm) (v0 : Nat) (h : AH) : Option (Int32 × AH) :=
  if (h.1 v0 9) ≤ (nI 17) then
    some (nI 0, h)
  else
  (h.2 v0 10).bind fun b10 =>
  if am_ok (nI 17) (am_len Γ b10) then
  some ((h.1 b10 (nI 17).toNatClampNeg) &&& (nI 3), h)
  else none
def fX9_stay (Γ : Gm) (v0 : Nat) (v1 : Int32) (h : AH) : Option (Unit × AH) :=
  if (h.1 v0 9) ≤ (nI 17) then
    some ((), h)
  else
  (h.2 v0 10).bind fun b10 =>
  (h.2 v0 10).bind fun b16 =>
  if am_ok (nI 17) (am_len Γ b16) then
  if am_ok (nI 17) (am_len Γ b10) then am_let (am_setI h b10 (nI 17).toNatClampNeg (((h.1 b16 (nI 17).toNatClampNeg) &&& (nI 252)) ||| v1)) fun h28 =>
  some ((), h28)
  else none
  else none
def fX9_poke (Γ : Gm) (v0 : Nat) (v1 : Int32) (v2 : Int32) (h : AH) : Option (Int32 × AH) :=
  if (h.1 v0 9) = 0 then
    some ((-4 : Int32), h)
  else
  am_bind (fX9_outside Γ v1 (nI 0) ((h.1 v0 9) - (nI 1)) h) fun r18 h18 =>
  if r18 = 0 then
    am_bind (fX9_outside Γ v2 (nI 0) (nI 255) h18) fun r29 h29 =>
    if r29 = 0 then
      (h29.2 v0 10).bind fun b38 =>
      if am_ok v1 (am_len Γ b38) then
      am_let (h29.1 b38 v1.toNatClampNeg) fun x43 =>
      (h29.2 v0 10).bind fun b45 =>
      if am_ok v1 (am_len Γ b45) then am_let (am_setI h29 b45 v1.toNatClampNeg v2) fun h50 =>
      some (x43, h50)
      else none
      else none
    else
    some ((-1 : Int32), h29)
  else
  some ((-1 : Int32), h18)
def fX9_peek (Γ : Gm) (v0 : Nat) (v1 : Int32) (h : AH) : Option (Int32 × AH) :=
  if (h.1 v0 9) = 0 then
    some ((-4 : Int32), h)
  else
  am_bind (fX9_outside Γ v1 (nI 0) ((h.1 v0 9) - (nI 1)) h) fun r20 h20 =>
  if r20 = 0 then
    (h20.2 v0 10).bind fun b31 =>
    if am_ok v1 (am_len Γ b31) then
    some (h20.1 b31 v1.toNatClampNeg, h20)
    else none
  else
  some ((-1 : Int32), h20)
def fX9_jump (Γ : Gm) (v0 : Nat) (v1 : Int32) (h : AH) : Option (Int32 × AH) :=
  if (h.1 v0 9) = 0 then
    some ((-4 : Int32), h)
  else
  am_bind (fX9_outside Γ v1 (nI 0) (nI 16777215) h) fun r14 h14 =>
  if r14 = 0 then
    (h14.2 v0 10).bind fun b23 =>
    if am_ok (nI 1000) (am_len Γ b23) then
    am_let (h14.1 b23 (nI 1000).toNatClampNeg) fun x30 =>
    (h14.2 v0 10).bind fun b32 =>
    if am_ok (nI 1000) (am_len Γ b32) then am_let (am_setI h14 b32 (nI 1000).toNatClampNeg v1) fun h39 =>
    some (x30, h39)
    else none
    else none
  else
  some ((-1 : Int32), h14)
def fX9_newest (Γ : Gm) (v0 : Nat) (h : AH) : Option (Int32 × AH) :=
  (h.2 v0 10).bind fun b4 =>
  if am_ok (nI 1001) (am_len Γ b4) then
  some ((nI 1002) + (((h.1 b4 (nI 1001).toNatClampNeg) - (nI 1)) * (nI 60)), h)
  else none
def fX9_call_97 (Γ : Gm) : Nat → Nat → Int32 → Int32 → Int32 → Int32 → Int32 → Int32 → AH → Option (Int32 × AH)
  | 0, _, _, _, _, _, _, _, _ => none
  | z + 1, v0, v1, v2, v3, v4, v5, v6, h =>
    if (nI 60) ≤ v6 then
      (h.2 v0 10).bind fun b122 =>
      (h.2 v0 10).bind fun b128 =>
      if am_ok (nI 1000) (am_len Γ b128) then
      if am_ok v5 (am_len Γ b122) then am_let (am_setI h b122 v5.toNatClampNeg (h.1 b128 (nI 1000).toNatClampNeg)) fun h135 =>
      (h135.2 v0 10).bind fun b137 =>
      if am_ok (v5 + (nI 1)) (am_len Γ b137) then am_let (am_setI h135 b137 (v5 + (nI 1)).toNatClampNeg v2) fun h145 =>
      (h145.2 v0 10).bind fun b147 =>
      if am_ok (v5 + (nI 2)) (am_len Γ b147) then am_let (am_setI h145 b147 (v5 + (nI 2)).toNatClampNeg v3) fun h155 =>
      (h155.2 v0 10).bind fun b157 =>
      if am_ok (v5 + (nI 3)) (am_len Γ b157) then am_let (am_setI h155 b157 (v5 + (nI 3)).toNatClampNeg v4) fun h166 =>
      (h166.2 v0 10).bind fun b168 =>
      if am_ok (nI 1000) (am_len Γ b168) then am_let (am_setI h166 b168 (nI 1000).toNatClampNeg v1) fun h175 =>
      (h175.2 v0 10).bind fun b177 =>
      if am_ok (nI 1001) (am_len Γ b177) then
      some (h175.1 b177 (nI 1001).toNatClampNeg, h175)
      else none
      else none
      else none
      else none
      else none
      else none
      else none
    else
    (h.2 v0 10).bind fun b105 =>
    if am_ok (v5 + v6) (am_len Γ b105) then am_let (am_setI h b105 (v5 + v6).toNatClampNeg (nI 0)) fun h114 =>
    fX9_call_97 Γ z v0 v1 v2 v3 v4 v5 (v6 + nI 1) h114
    else none
def fX9_call_37 (Γ : Gm) (v0 : Nat) (v1 : Int32) (v2 : Int32) (v3 : Int32) (v4 : Int32) (h : AH) : Option (Int32 × AH) :=
  am_bind (fX9_outside Γ v3 (nI 0) (nI 7) h) fun r41 h41 =>
  if r41 = 0 then
    am_bind (fX9_outside Γ v4 (nI 0) (nI 15) h41) fun r52 h52 =>
    if r52 = 0 then
      (h52.2 v0 10).bind fun b61 =>
      if am_ok (nI 1001) (am_len Γ b61) then
      if (h52.1 b61 (nI 1001).toNatClampNeg) = (nI 20) then
        some ((-3 : Int32), h52)
      else
      (h52.2 v0 10).bind fun b77 =>
      if am_ok (nI 1001) (am_len Γ b77) then
      if am_ok (nI 1001) (am_len Γ b77) then am_let (am_setI h52 b77 (nI 1001).toNatClampNeg ((h52.1 b77 (nI 1001).toNatClampNeg) + (nI 1))) fun h87 =>
      am_bind (fX9_newest Γ v0 h87) fun r89 h89 =>
      fX9_call_97 Γ am_fuel v0 v1 v2 v3 v4 r89 (nI 0) h89
      else none
      else none
      else none
    else
    some ((-1 : Int32), h52)
  else
  some ((-1 : Int32), h41)
def fX9_call (Γ : Gm) (v0 : Nat) (v1 : Int32) (v2 : Int32) (v3 : Int32) (v4 : Int32) (h : AH) : Option (Int32 × AH) :=
  if (h.1 v0 9) = 0 then
    some ((-4 : Int32), h)
  else
  am_bind (fX9_outside Γ v1 (nI 0) (nI 16777215) h) fun r14 h14 =>
  if r14 = 0 then
    if v2 = ((-2 : Int32)) then
      fX9_call_37 Γ v0 v1 v2 v3 v4 h14
    else
    am_bind (fX9_outside Γ v2 (nI 0) (nI 255) h14) fun r31 h31 =>
    if r31 = 0 then
      fX9_call_37 Γ v0 v1 v2 v3 v4 h31
    else
    some ((-1 : Int32), h31)
  else
  some ((-1 : Int32), h14)
def fX9_leave (Γ : Gm) (v0 : Nat) (h : AH) : Option (Int32 × AH) :=
  if (h.1 v0 9) = 0 then
    some ((-4 : Int32), h)
  else
  (h.2 v0 10).bind fun b11 =>
  if am_ok (nI 1001) (am_len Γ b11) then
  if (h.1 b11 (nI 1001).toNatClampNeg) = (nI 1) then
    some ((-2 : Int32), h)
  else
  (h.2 v0 10).bind fun b26 =>
  (h.2 v0 10).bind fun b33 =>
  am_bind (fX9_newest Γ v0 h) fun r37 h37 =>
  if am_ok r37 (am_len Γ b33) then
  if am_ok (nI 1000) (am_len Γ b26) then am_let (am_setI h37 b26 (nI 1000).toNatClampNeg (h37.1 b33 r37.toNatClampNeg)) fun h41 =>
  (h41.2 v0 10).bind fun b43 =>
  if am_ok (nI 1001) (am_len Γ b43) then
  if am_ok (nI 1001) (am_len Γ b43) then am_let (am_setI h41 b43 (nI 1001).toNatClampNeg ((h41.1 b43 (nI 1001).toNatClampNeg) - (nI 1))) fun h53 =>
  (h53.2 v0 10).bind fun b55 =>
  if am_ok (nI 1000) (am_len Γ b55) then
  some (h53.1 b55 (nI 1000).toNatClampNeg, h53)
  else none
  else none
  else none
  else none
  else none
  else none
def fX9_local (Γ : Gm) (v0 : Nat) (v1 : Int32) (v2 : Int32) (h : AH) : Option (Int32 × AH) :=
  if (h.1 v0 9) = 0 then
    some ((-4 : Int32), h)
  else
  am_bind (fX9_newest Γ v0 h) fun r11 h11 =>
  (h11.2 v0 10).bind fun b18 =>
  if am_ok (r11 + (nI 3)) (am_len Γ b18) then
  am_bind (fX9_outside Γ v1 (nI 0) ((h11.1 b18 (r11 + (nI 3)).toNatClampNeg) - (nI 1)) h11) fun r27 h27 =>
  if r27 = 0 then
    am_bind (fX9_outside Γ v2 (nI 0) (nI 65535) h27) fun r37 h37 =>
    if r37 = 0 then
      (h37.2 v0 10).bind fun b46 =>
      if am_ok ((r11 + (nI 5)) + v1) (am_len Γ b46) then
      am_let (h37.1 b46 ((r11 + (nI 5)) + v1).toNatClampNeg) fun x55 =>
      (h37.2 v0 10).bind fun b58 =>
      if am_ok ((r11 + (nI 5)) + v1) (am_len Γ b58) then am_let (am_setI h37 b58 ((r11 + (nI 5)) + v1).toNatClampNeg v2) fun h67 =>
      some (x55, h67)
      else none
      else none
    else
    some ((-1 : Int32), h37)
  else
  some ((-1 : Int32), h27)
  else none
def fX9_push (Γ : Gm) (v0 : Nat) (v1 : Int32) (h : AH) : Option (Int32 × AH) :=
  if (h.1 v0 9) = 0 then
    some ((-4 : Int32), h)
  else
  am_bind (fX9_outside Γ v1 (nI 0) (nI 65535) h) fun r14 h14 =>
  if r14 = 0 then
    am_bind (fX9_newest Γ v0 h14) fun r23 h23 =>
    (h23.2 v0 10).bind fun b28 =>
    if am_ok (r23 + (nI 4)) (am_len Γ b28) then
    if (h23.1 b28 (r23 + (nI 4)).toNatClampNeg) = (nI 40) then
      some ((-3 : Int32), h23)
    else
    (h23.2 v0 10).bind fun b44 =>
    (h23.2 v0 10).bind fun b51 =>
    if am_ok (r23 + (nI 3)) (am_len Γ b51) then
    (h23.2 v0 10).bind fun b60 =>
    if am_ok (r23 + (nI 4)) (am_len Γ b60) then
    if am_ok (((r23 + (nI 5)) + (h23.1 b51 (r23 + (nI 3)).toNatClampNeg)) + (h23.1 b60 (r23 + (nI 4)).toNatClampNeg)) (am_len Γ b44) then am_let (am_setI h23 b44 (((r23 + (nI 5)) + (h23.1 b51 (r23 + (nI 3)).toNatClampNeg)) + (h23.1 b60 (r23 + (nI 4)).toNatClampNeg)).toNatClampNeg v1) fun h69 =>
    (h69.2 v0 10).bind fun b71 =>
    if am_ok (r23 + (nI 4)) (am_len Γ b71) then
    if am_ok (r23 + (nI 4)) (am_len Γ b71) then am_let (am_setI h69 b71 (r23 + (nI 4)).toNatClampNeg ((h69.1 b71 (r23 + (nI 4)).toNatClampNeg) + (nI 1))) fun h81 =>
    (h81.2 v0 10).bind fun b83 =>
    if am_ok (r23 + (nI 4)) (am_len Γ b83) then
    some (h81.1 b83 (r23 + (nI 4)).toNatClampNeg, h81)
    else none
    else none
    else none
    else none
    else none
    else none
    else none
  else
  some ((-1 : Int32), h14)
def fX9_pop (Γ : Gm) (v0 : Nat) (h : AH) : Option (Int32 × AH) :=
  if (h.1 v0 9) = 0 then
    some ((-4 : Int32), h)
  else
  am_bind (fX9_newest Γ v0 h) fun r11 h11 =>
  (h11.2 v0 10).bind fun b16 =>
  if am_ok (r11 + (nI 4)) (am_len Γ b16) then
  if (h11.1 b16 (r11 + (nI 4)).toNatClampNeg) = 0 then
    some ((-2 : Int32), h11)
  else
  (h11.2 v0 10).bind fun b30 =>
  if am_ok (r11 + (nI 4)) (am_len Γ b30) then
  if am_ok (r11 + (nI 4)) (am_len Γ b30) then am_let (am_setI h11 b30 (r11 + (nI 4)).toNatClampNeg ((h11.1 b30 (r11 + (nI 4)).toNatClampNeg) - (nI 1))) fun h40 =>
  (h40.2 v0 10).bind fun b42 =>
  (h40.2 v0 10).bind fun b49 =>
  if am_ok (r11 + (nI 3)) (am_len Γ b49) then
  (h40.2 v0 10).bind fun b58 =>
  if am_ok (r11 + (nI 4)) (am_len Γ b58) then
  if am_ok (((r11 + (nI 5)) + (h40.1 b49 (r11 + (nI 3)).toNatClampNeg)) + (h40.1 b58 (r11 + (nI 4)).toNatClampNeg)) (am_len Γ b42) then
  some (h40.1 b42 (((r11 + (nI 5)) + (h40.1 b49 (r11 + (nI 3)).toNatClampNeg)) + (h40.1 b58 (r11 + (nI 4)).toNatClampNeg)).toNatClampNeg, h40)
  else none
  else none
  else none
  else none
  else none
  else none
def fX9_frame_58 (Γ : Gm) (v0 : Nat) (v2 : Int32) (v3 : Int32) (h : AH) : Option (Int32 × AH) :=
  if (nI 10) ≤ v2 then
    (h.2 v0 10).bind fun b71 =>
    if am_ok (v3 + (nI 3)) (am_len Γ b71) then
    (h.2 v0 10).bind fun b79 =>
    if am_ok (v3 + (nI 4)) (am_len Γ b79) then
    if ((h.1 b71 (v3 + (nI 3)).toNatClampNeg) + (h.1 b79 (v3 + (nI 4)).toNatClampNeg)) ≤ (v2 - (nI 10)) then
      some ((-2 : Int32), h)
    else
    (h.2 v0 10).bind fun b91 =>
    if am_ok (((v3 + (nI 5)) + v2) - (nI 10)) (am_len Γ b91) then
    some (h.1 b91 (((v3 + (nI 5)) + v2) - (nI 10)).toNatClampNeg, h)
    else none
    else none
    else none
  else
  some ((-1 : Int32), h)
def fX9_frame (Γ : Gm) (v0 : Nat) (v1 : Int32) (v2 : Int32) (h : AH) : Option (Int32 × AH) :=
  if (h.1 v0 9) = 0 then
    some ((-4 : Int32), h)
  else
  (h.2 v0 10).bind fun b13 =>
  if am_ok (nI 1001) (am_len Γ b13) then
  am_bind (fX9_outside Γ v1 (nI 0) ((h.1 b13 (nI 1001).toNatClampNeg) - (nI 1)) h) fun r22 h22 =>
  if r22 = 0 then
    am_let ((nI 1002) + (v1 * (nI 60))) fun x39 =>
    if v2 < 0 then
      fX9_frame_58 Γ v0 v2 x39 h22
    else
    if (nI 4) < v2 then
      fX9_frame_58 Γ v0 v2 x39 h22
    else
    (h22.2 v0 10).bind fun b50 =>
    if am_ok (x39 + v2) (am_len Γ b50) then
    some (h22.1 b50 (x39 + v2).toNatClampNeg, h22)
    else none
  else
  some ((-2 : Int32), h22)
  else none
def fX9_number_4 (Γ : Gm) : Nat → Nat → Int32 → Int32 → AH → Option (Unit × AH)
  | 0, _, _, _, _ => none
  | z + 1, v0, v1, v3, h =>
    if v3 < 0 then
      some ((), h)
    else
    (h.2 v0 26).bind fun b9 =>
    if am_ok (h.1 v0 27) (am_len Γ b9) then am_let (am_setI h b9 (h.1 v0 27).toNatClampNeg ((am_shr v1 ((nI 8) * v3)) &&& (nI 255))) fun h26 =>
    am_let (am_setI h26 v0 27 ((h26.1 v0 27) + (nI 1))) fun h34 =>
    fX9_number_4 Γ z v0 v1 (v3 + (-1 : Int32)) h34
    else none
def fX9_number (Γ : Gm) (v0 : Nat) (v1 : Int32) (v2 : Int32) (h : AH) : Option (Unit × AH) :=
  am_let (v2 - (nI 1)) fun x3 =>
  fX9_number_4 Γ am_fuel v0 v1 x3 h
def fX9_makeB_85 (Γ : Gm) (k4 : Nat → Nat → Int32 → Int32 → AH → Option (Unit × AH)) (v0 : Nat) (v1 : Nat) (v2 : Int32) (v3 : Int32) (h : AH) : Option (Unit × AH) :=
  k4 v0 v1 v2 (v3 + nI 1) h
def fX9_makeB_53 (Γ : Gm) (k4 : Nat → Nat → Int32 → Int32 → AH → Option (Unit × AH)) (k35 : Nat → Nat → Int32 → Int32 → Int32 → AH → Option (Unit × AH)) (v0 : Nat) (v1 : Nat) (v2 : Int32) (v3 : Int32) (v4 : Int32) (s0 : Int32) (h : AH) : Option (Unit × AH) :=
  am_bind (fX9_number Γ v0 (nI 0) (nI 1) h) fun r58 h58 =>
  am_bind (fX9_number Γ v0 (s0 - (nI 1)) (nI 1) h58) fun r67 h67 =>
  am_let (v2 - s0) fun x74 =>
  k35 v0 v1 x74 v3 v4 h67
def fX9_makeB_35 (Γ : Gm) (k4 : Nat → Nat → Int32 → Int32 → AH → Option (Unit × AH)) : Nat → Nat → Nat → Int32 → Int32 → Int32 → AH → Option (Unit × AH)
  | 0, _, _, _, _, _, _ => none
  | z + 1, v0, v1, v2, v3, v4, h =>
    if v2 ≤ 0 then
      am_bind (fX9_number Γ v0 v4 (nI 1) h) fun r82 h82 =>
      fX9_makeB_85 Γ k4 v0 v1 v2 v3 h82
    else
    if v2 ≤ (nI 256) then
      fX9_makeB_53 Γ k4 (fX9_makeB_35 Γ k4 z) v0 v1 v2 v3 v4 v2 h
    else
    fX9_makeB_53 Γ k4 (fX9_makeB_35 Γ k4 z) v0 v1 v2 v3 v4 (nI 256) h
def fX9_makeB_4 (Γ : Gm) : Nat → Nat → Nat → Int32 → Int32 → AH → Option (Unit × AH)
  | 0, _, _, _, _, _ => none
  | z + 1, v0, v1, v2, v3, h =>
    if (h.1 v0 9) ≤ v3 then
      some ((), h)
    else
    if am_ok v3 (am_len Γ v1) then
    (h.2 v0 8).bind fun b16 =>
    if am_ok v3 (am_len Γ b16) then
    am_let ((h.1 v1 v3.toNatClampNeg) ^^^ (h.1 b16 v3.toNatClampNeg)) fun x22 =>
    if x22 = 0 then
      fX9_makeB_85 Γ (fX9_makeB_4 Γ z) v0 v1 (v2 + nI 1) v3 h
    else
    fX9_makeB_35 Γ (fX9_makeB_4 Γ z) am_fuel v0 v1 v2 v3 x22 h
    else none
    else none
def fX9_makeB (Γ : Gm) (v0 : Nat) (v1 : Nat) (h : AH) : Option (Unit × AH) :=
  fX9_makeB_4 Γ am_fuel v0 v1 (nI 0) (nI 0) h
def fX9_makeD_113 (Γ : Gm) (k2 : Nat → Nat → Int32 → AH → Option (Unit × AH)) : Nat → Nat → Nat → Int32 → Int32 → Int32 → AH → Option (Unit × AH)
  | 0, _, _, _, _, _, _ => none
  | z + 1, v0, v1, v2, v3, v5, h =>
    if am_ok (v3 + (nI 3)) (am_len Γ v1) then
    if am_ok (v3 + (nI 4)) (am_len Γ v1) then
    if ((h.1 v1 (v3 + (nI 3)).toNatClampNeg) + (h.1 v1 (v3 + (nI 4)).toNatClampNeg)) ≤ v5 then
      k2 v0 v1 (v2 + nI 1) h
    else
    if am_ok ((v3 + (nI 5)) + v5) (am_len Γ v1) then
    am_bind (fX9_number Γ v0 (h.1 v1 ((v3 + (nI 5)) + v5).toNatClampNeg) (nI 2) h) fun r139 h139 =>
    fX9_makeD_113 Γ k2 z v0 v1 v2 v3 (v5 + nI 1) h139
    else none
    else none
    else none
def fX9_makeD_82 (Γ : Gm) (k2 : Nat → Nat → Int32 → AH → Option (Unit × AH)) (v0 : Nat) (v1 : Nat) (v2 : Int32) (v3 : Int32) (s0 : Nat) (s1 : Int32) (h : AH) : Option (Unit × AH) :=
  am_bind (fX9_number Γ s0 s1 (nI 1) h) fun r83 h83 =>
  if am_ok (v3 + (nI 2)) (am_len Γ v1) then
  am_bind (fX9_number Γ v0 ((am_shl (nI 1) (h83.1 v1 (v3 + (nI 2)).toNatClampNeg)) - (nI 1)) (nI 1) h83) fun r97 h97 =>
  if am_ok (v3 + (nI 4)) (am_len Γ v1) then
  am_bind (fX9_number Γ v0 (h97.1 v1 (v3 + (nI 4)).toNatClampNeg) (nI 2) h97) fun r107 h107 =>
  fX9_makeD_113 Γ k2 am_fuel v0 v1 v2 v3 (nI 0) h107
  else none
  else none
def fX9_makeD_62 (Γ : Gm) (k2 : Nat → Nat → Int32 → AH → Option (Unit × AH)) (v0 : Nat) (v1 : Nat) (v2 : Int32) (v3 : Int32) (v4 : Int32) (s0 : Nat) (s1 : Int32) (s2 : Int32) (h : AH) : Option (Unit × AH) :=
  am_bind (fX9_number Γ s0 (s1 + s2) (nI 1) h) fun r64 h64 =>
  if v4 = 0 then
    if am_ok (v3 + (nI 1)) (am_len Γ v1) then
    fX9_makeD_82 Γ k2 v0 v1 v2 v3 v0 (h64.1 v1 (v3 + (nI 1)).toNatClampNeg) h64
    else none
  else
  fX9_makeD_82 Γ k2 v0 v1 v2 v3 v0 (nI 0) h64
def fX9_makeD_35 (Γ : Gm) (k2 : Nat → Nat → Int32 → AH → Option (Unit × AH)) (v0 : Nat) (v1 : Nat) (v2 : Int32) (v3 : Int32) (s0 : Int32) (h : AH) : Option (Unit × AH) :=
  if am_ok v3 (am_len Γ v1) then
  am_bind (fX9_number Γ v0 (h.1 v1 v3.toNatClampNeg) (nI 3) h) fun r42 h42 =>
  if am_ok (v3 + (nI 3)) (am_len Γ v1) then
  if s0 = 0 then
    fX9_makeD_62 Γ k2 v0 v1 v2 v3 s0 v0 (h42.1 v1 (v3 + (nI 3)).toNatClampNeg) (nI 0) h42
  else
  fX9_makeD_62 Γ k2 v0 v1 v2 v3 s0 v0 (h42.1 v1 (v3 + (nI 3)).toNatClampNeg) (nI 16) h42
  else none
  else none
def fX9_makeD_2 (Γ : Gm) : Nat → Nat → Nat → Int32 → AH → Option (Unit × AH)
  | 0, _, _, _, _ => none
  | z + 1, v0, v1, v2, h =>
    if am_ok (nI 1001) (am_len Γ v1) then
    if (h.1 v1 (nI 1001).toNatClampNeg) ≤ v2 then
      some ((), h)
    else
    am_let ((nI 1002) + (v2 * (nI 60))) fun x19 =>
    if am_ok (x19 + (nI 1)) (am_len Γ v1) then
    if (h.1 v1 (x19 + (nI 1)).toNatClampNeg) = ((-2 : Int32)) then
      fX9_makeD_35 Γ (fX9_makeD_2 Γ z) v0 v1 v2 x19 (nI 1) h
    else
    fX9_makeD_35 Γ (fX9_makeD_2 Γ z) v0 v1 v2 x19 (nI 0) h
    else none
    else none
def fX9_makeD (Γ : Gm) (v0 : Nat) (v1 : Nat) (h : AH) : Option (Unit × AH) :=
  fX9_makeD_2 Γ am_fuel v0 v1 (nI 0) h
def fX9_weightOf (Γ : Gm) (v0 : Nat) (v1 : Nat) (h : AH) : Option (Int32 × AH) :=
  am_let (am_setI h v0 27 (nI 0)) fun h2 =>
  am_bind (fX9_makeB Γ v0 v1 h2) fun r7 h7 =>
  am_bind (fX9_makeD Γ v0 v1 h7) fun r12 h12 =>
  some (h12.1 v0 27, h12)
def fX9_print_68 (Γ : Gm) : Nat → Nat → Int64 → Int32 → AH → Option (Int64 × AH)
  | 0, _, _, _, _ => none
  | z + 1, v0, v1, v3, h =>
    if (h.1 v0 27) ≤ v3 then
      some (v1, h)
    else
    (h.2 v0 26).bind fun b78 =>
    if am_ok v3 (am_len Γ b78) then
    am_let ((v1 ^^^ ((h.1 b78 v3.toNatClampNeg).toInt64)) * ((1099511628211 : Int64))) fun x89 =>
    fX9_print_68 Γ z v0 x89 (v3 + nI 1) h
    else none
def fX9_print_16 (Γ : Gm) : Nat → Nat → Int32 → AH → Option (Int64 × AH)
  | 0, _, _, _ => none
  | z + 1, v0, v1, h =>
    if (h.1 v0 9) ≤ v1 then
      (h.2 v0 10).bind fun b43 =>
      if am_ok (nI 1000) (am_len Γ b43) then
      am_bind (fX9_number Γ v0 (h.1 b43 (nI 1000).toNatClampNeg) (nI 3) h) fun r51 h51 =>
      (h51.2 v0 10).bind fun b56 =>
      am_bind (fX9_makeD Γ v0 b56 h51) fun r59 h59 =>
      fX9_print_68 Γ am_fuel v0 ((-3750763034362895579 : Int64)) (nI 0) h59
      else none
    else
    (h.2 v0 10).bind fun b26 =>
    if am_ok v1 (am_len Γ b26) then
    am_bind (fX9_number Γ v0 (h.1 b26 v1.toNatClampNeg) (nI 1) h) fun r32 h32 =>
    fX9_print_16 Γ z v0 (v1 + nI 1) h32
    else none
def fX9_print (Γ : Gm) (v0 : Nat) (h : AH) : Option (Int64 × AH) :=
  if (h.1 v0 9) = 0 then
    some ((0 : Int64), h)
  else
  am_let (am_setI h v0 27 (nI 0)) fun h11 =>
  fX9_print_16 Γ am_fuel v0 (nI 0) h11
def fX9_open (Γ : Gm) (v0 : Nat) (v1 : Int32) (h : AH) : Option (Unit × AH) :=
  am_bind (fX9_number Γ v0 v1 (nI 4) h) fun r3 h3 =>
  am_bind (fX9_number Γ v0 (nI 0) (nI 4) h3) fun r9 h9 =>
  (h9.2 v0 22).bind fun b13 =>
  if am_ok (h9.1 v0 25) (am_len Γ b13) then am_let (am_setI h9 b13 (h9.1 v0 25).toNatClampNeg v1) fun h21 =>
  (h21.2 v0 23).bind fun b23 =>
  if am_ok (h21.1 v0 25) (am_len Γ b23) then am_let (am_setI h21 b23 (h21.1 v0 25).toNatClampNeg (h21.1 v0 27)) fun h34 =>
  some ((), h34)
  else none
  else none
def fX9_patch_2 (Γ : Gm) : Nat → Nat → Int32 → Int32 → Int32 → AH → Option (Unit × AH)
  | 0, _, _, _, _, _ => none
  | z + 1, v0, v1, v2, v3, h =>
    if (nI 4) ≤ v3 then
      some ((), h)
    else
    (h.2 v0 26).bind fun b8 =>
    if am_ok (v1 + v3) (am_len Γ b8) then am_let (am_setI h b8 (v1 + v3).toNatClampNeg ((am_shr v2 ((nI 24) - ((nI 8) * v3))) &&& (nI 255))) fun h27 =>
    fX9_patch_2 Γ z v0 v1 v2 (v3 + nI 1) h27
    else none
def fX9_patch (Γ : Gm) (v0 : Nat) (v1 : Int32) (v2 : Int32) (h : AH) : Option (Unit × AH) :=
  fX9_patch_2 Γ am_fuel v0 v1 v2 (nI 0) h
def fX9_close_54 (Γ : Gm) (v0 : Nat) (h : AH) : Option (Unit × AH) :=
  am_let (am_setI h v0 25 ((h.1 v0 25) + (nI 1))) fun h61 =>
  some ((), h61)
def fX9_close (Γ : Gm) (v0 : Nat) (h : AH) : Option (Unit × AH) :=
  (h.2 v0 23).bind fun b5 =>
  if am_ok (h.1 v0 25) (am_len Γ b5) then
  am_let ((h.1 v0 27) - (h.1 b5 (h.1 v0 25).toNatClampNeg)) fun x14 =>
  (h.2 v0 24).bind fun b16 =>
  if am_ok (h.1 v0 25) (am_len Γ b16) then am_let (am_setI h b16 (h.1 v0 25).toNatClampNeg x14) fun h24 =>
  (h24.2 v0 23).bind fun b27 =>
  if am_ok (h24.1 v0 25) (am_len Γ b27) then
  am_bind (fX9_patch Γ v0 ((h24.1 b27 (h24.1 v0 25).toNatClampNeg) - (nI 4)) x14 h24) fun r38 h38 =>
  if (am_irem x14 (nI 2)) = (nI 1) then
    am_bind (fX9_number Γ v0 (nI 0) (nI 1) h38) fun r51 h51 =>
    fX9_close_54 Γ v0 h51
  else
  fX9_close_54 Γ v0 h38
  else none
  else none
  else none
def fX9_save_258 (Γ : Gm) : Nat → Nat → Int32 → AH → Option (Int32 × AH)
  | 0, _, _, _ => none
  | z + 1, v0, v2, h =>
    if (h.1 v0 27) ≤ v2 then
      am_let (am_setI h v0 3 (h.1 v0 27)) fun h289 =>
      some (h289.1 v0 3, h289)
    else
    (h.2 v0 2).bind fun b267 =>
    (h.2 v0 26).bind fun b272 =>
    if am_ok v2 (am_len Γ b272) then
    if am_ok v2 (am_len Γ b267) then am_let (am_setI h b267 v2.toNatClampNeg (h.1 b272 v2.toNatClampNeg)) fun h277 =>
    fX9_save_258 Γ z v0 (v2 + nI 1) h277
    else none
    else none
def fX9_save_193 (Γ : Gm) (k169 : Nat → Int32 → AH → Option (Int32 × AH)) : Nat → Nat → Int32 → Int32 → AH → Option (Int32 × AH)
  | 0, _, _, _, _ => none
  | z + 1, v0, v2, v3, h =>
    (h.2 v0 16).bind fun b195 =>
    if am_ok (((nI 202) * v2) + (nI 1)) (am_len Γ b195) then
    if (h.1 b195 (((nI 202) * v2) + (nI 1)).toNatClampNeg) ≤ v3 then
      am_bind (fX9_close Γ v0 h) fun r235 h235 =>
      k169 v0 (v2 + nI 1) h235
    else
    (h.2 v0 16).bind fun b211 =>
    if am_ok ((((nI 202) * v2) + (nI 2)) + v3) (am_len Γ b211) then
    am_bind (fX9_number Γ v0 (h.1 b211 ((((nI 202) * v2) + (nI 2)) + v3).toNatClampNeg) (nI 1) h) fun r225 h225 =>
    fX9_save_193 Γ k169 z v0 v2 (v3 + nI 1) h225
    else none
    else none
def fX9_save_169 (Γ : Gm) : Nat → Nat → Int32 → AH → Option (Int32 × AH)
  | 0, _, _, _ => none
  | z + 1, v0, v2, h =>
    if (h.1 v0 17) ≤ v2 then
      am_bind (fX9_patch Γ v0 (nI 4) ((h.1 v0 27) - (nI 8)) h) fun r253 h253 =>
      fX9_save_258 Γ am_fuel v0 (nI 0) h253
    else
    (h.2 v0 16).bind fun b179 =>
    if am_ok ((nI 202) * v2) (am_len Γ b179) then
    am_bind (fX9_open Γ v0 (h.1 b179 ((nI 202) * v2).toNatClampNeg) h) fun r188 h188 =>
    fX9_save_193 Γ (fX9_save_169 Γ z) am_fuel v0 v2 (nI 0) h188
    else none
def fX9_save_145 (Γ : Gm) (v0 : Nat) (h : AH) : Option (Int32 × AH) :=
  am_bind (fX9_close Γ v0 h) fun r146 h146 =>
  am_bind (fX9_open Γ v0 (nI 1400138611) h146) fun r152 h152 =>
  (h152.2 v0 10).bind fun b157 =>
  am_bind (fX9_makeD Γ v0 b157 h152) fun r160 h160 =>
  am_bind (fX9_close Γ v0 h160) fun r164 h164 =>
  fX9_save_169 Γ am_fuel v0 (nI 0) h164
def fX9_save_109 (Γ : Gm) : Nat → Nat → Int32 → AH → Option (Int32 × AH)
  | 0, _, _, _ => none
  | z + 1, v0, v2, h =>
    if (h.1 v0 9) ≤ v2 then
      fX9_save_145 Γ v0 h
    else
    (h.2 v0 10).bind fun b119 =>
    if am_ok v2 (am_len Γ b119) then
    am_bind (fX9_number Γ v0 (h.1 b119 v2.toNatClampNeg) (nI 1) h) fun r125 h125 =>
    fX9_save_109 Γ z v0 (v2 + nI 1) h125
    else none
def fX9_save_100 (Γ : Gm) (v0 : Nat) (v1 : Int32) (s0 : Nat) (s1 : Int32) (h : AH) : Option (Int32 × AH) :=
  am_bind (fX9_open Γ s0 s1 h) fun r100 h100 =>
  if v1 = 0 then
    (h100.2 v0 10).bind fun b139 =>
    am_bind (fX9_makeB Γ v0 b139 h100) fun r142 h142 =>
    fX9_save_145 Γ v0 h142
  else
  fX9_save_109 Γ am_fuel v0 (nI 0) h100
def fX9_save_48 (Γ : Gm) : Nat → Nat → Int32 → Int32 → AH → Option (Int32 × AH)
  | 0, _, _, _, _ => none
  | z + 1, v0, v1, v2, h =>
    if (nI 10) ≤ v2 then
      (h.2 v0 10).bind fun b73 =>
      if am_ok (nI 1000) (am_len Γ b73) then
      am_bind (fX9_number Γ v0 (h.1 b73 (nI 1000).toNatClampNeg) (nI 3) h) fun r81 h81 =>
      am_bind (fX9_close Γ v0 h81) fun r85 h85 =>
      if v1 = 0 then
        fX9_save_100 Γ v0 v1 v0 (nI 1129145709) h85
      else
      fX9_save_100 Γ v0 v1 v0 (nI 1431135597) h85
      else none
    else
    (h.2 v0 7).bind fun b56 =>
    if am_ok v2 (am_len Γ b56) then
    am_bind (fX9_number Γ v0 (h.1 b56 v2.toNatClampNeg) (nI 1) h) fun r62 h62 =>
    fX9_save_48 Γ z v0 v1 (v2 + nI 1) h62
    else none
def fX9_save (Γ : Gm) (v0 : Nat) (v1 : Int32) (h : AH) : Option (Int32 × AH) :=
  if (h.1 v0 9) = 0 then
    some ((-4 : Int32), h)
  else
  am_let (am_setI h v0 27 (nI 0)) fun h12 =>
  am_let (am_setI h12 v0 25 (nI 0)) fun h17 =>
  am_bind (fX9_number Γ v0 (nI 1179603533) (nI 4) h17) fun r24 h24 =>
  am_bind (fX9_number Γ v0 (nI 0) (nI 4) h24) fun r30 h30 =>
  am_bind (fX9_number Γ v0 (nI 1229347411) (nI 4) h30) fun r37 h37 =>
  am_bind (fX9_open Γ v0 (nI 1229351012) h37) fun r43 h43 =>
  fX9_save_48 Γ am_fuel v0 v1 (nI 0) h43
def fX9_wrong (Γ : Gm) (v0 : Nat) (v1 : Int32) (v2 : Int32) (h : AH) : Option (Int32 × AH) :=
  am_let (am_setI h v0 20 v1) fun h2 =>
  am_let (am_setI h2 v0 21 v2) fun h7 =>
  some (nI 0, h7)
def fX9_numberAt (Γ : Gm) (v0 : Nat) (v1 : Int32) (h : AH) : Option (Int64 × AH) :=
  (h.2 v0 0).bind fun b1 =>
  if am_ok v1 (am_len Γ b1) then
  (h.2 v0 0).bind fun b11 =>
  if am_ok (v1 + (nI 1)) (am_len Γ b11) then
  (h.2 v0 0).bind fun b24 =>
  if am_ok (v1 + (nI 2)) (am_len Γ b24) then
  (h.2 v0 0).bind fun b37 =>
  if am_ok (v1 + (nI 3)) (am_len Γ b37) then
  some ((((am_lshl ((h.1 b1 v1.toNatClampNeg).toInt64) (nI 24)) ||| ((am_shl (h.1 b11 (v1 + (nI 1)).toNatClampNeg) (nI 16)).toInt64)) ||| ((am_shl (h.1 b24 (v1 + (nI 2)).toNatClampNeg) (nI 8)).toInt64)) ||| ((h.1 b37 (v1 + (nI 3)).toNatClampNeg).toInt64), h)
  else none
  else none
  else none
  else none
def fX9_readA_19 (Γ : Gm) : Nat → Nat → Int32 → Int32 → AH → Option (Int32 × AH)
  | 0, _, _, _, _ => none
  | z + 1, v0, v2, v4, h =>
    if (nI 10) ≤ v4 then
      (h.2 v0 11).bind fun b63 =>
      (h.2 v0 0).bind fun b70 =>
      if am_ok (v2 + (nI 10)) (am_len Γ b70) then
      (h.2 v0 0).bind fun b82 =>
      if am_ok (v2 + (nI 11)) (am_len Γ b82) then
      (h.2 v0 0).bind fun b95 =>
      if am_ok (v2 + (nI 12)) (am_len Γ b95) then
      if am_ok (nI 1000) (am_len Γ b63) then am_let (am_setI h b63 (nI 1000).toNatClampNeg (((am_shl (h.1 b70 (v2 + (nI 10)).toNatClampNeg) (nI 16)) ||| (am_shl (h.1 b82 (v2 + (nI 11)).toNatClampNeg) (nI 8))) ||| (h.1 b95 (v2 + (nI 12)).toNatClampNeg))) fun h104 =>
      some (nI 1, h104)
      else none
      else none
      else none
      else none
    else
    (h.2 v0 0).bind fun b27 =>
    if am_ok (v2 + v4) (am_len Γ b27) then
    (h.2 v0 7).bind fun b36 =>
    if am_ok v4 (am_len Γ b36) then
    if (h.1 b27 (v2 + v4).toNatClampNeg) = (h.1 b36 v4.toNatClampNeg) then
      fX9_readA_19 Γ z v0 v2 (v4 + nI 1) h
    else
    am_bind (fX9_wrong Γ v0 (nI 6) (v2 + v4) h) fun r52 h52 =>
    some (r52, h52)
    else none
    else none
def fX9_readA (Γ : Gm) (v0 : Nat) (v1 : Int32) (v2 : Int32) (v3 : Int32) (h : AH) : Option (Int32 × AH) :=
  if v3 = (nI 13) then
    fX9_readA_19 Γ am_fuel v0 v2 (nI 0) h
  else
  am_bind (fX9_wrong Γ v0 (nI 6) (v1 + (nI 4)) h) fun r12 h12 =>
  some (r12, h12)
def fX9_readB_44 (Γ : Gm) : Nat → Nat → Int32 → Int32 → Int32 → AH → Option (Int32 × AH)
  | 0, _, _, _, _, _ => none
  | z + 1, v0, v2, v3, v4, h =>
    if v2 ≤ v4 then
      some (nI 1, h)
    else
    (h.2 v0 0).bind fun b51 =>
    if am_ok v4 (am_len Γ b51) then
    if (h.1 b51 v4.toNatClampNeg) = 0 then
      if (v4 + (nI 1)) = v2 then
        am_bind (fX9_wrong Γ v0 (nI 7) v2 h) fun r118 h118 =>
        some (r118, h118)
      else
      (h.2 v0 0).bind fun b123 =>
      if am_ok (v4 + (nI 1)) (am_len Γ b123) then
      am_let ((h.1 b123 (v4 + (nI 1)).toNatClampNeg) + (nI 1)) fun x133 =>
      if (v3 + x133) ≤ (h.1 v0 9) then
        am_let (v3 + x133) fun x159 =>
        fX9_readB_44 Γ z v0 v2 x159 (v4 + nI 2) h
      else
      am_bind (fX9_wrong Γ v0 (nI 7) v4 h) fun r151 h151 =>
      some (r151, h151)
      else none
    else
    if v3 = (h.1 v0 9) then
      am_bind (fX9_wrong Γ v0 (nI 7) v4 h) fun r73 h73 =>
      some (r73, h73)
    else
    (h.2 v0 11).bind fun b78 =>
    (h.2 v0 8).bind fun b83 =>
    if am_ok v3 (am_len Γ b83) then
    (h.2 v0 0).bind fun b89 =>
    if am_ok v4 (am_len Γ b89) then
    if am_ok v3 (am_len Γ b78) then am_let (am_setI h b78 v3.toNatClampNeg ((h.1 b83 v3.toNatClampNeg) ^^^ (h.1 b89 v4.toNatClampNeg))) fun h96 =>
    fX9_readB_44 Γ z v0 v2 (v3 + nI 1) (v4 + nI 1) h96
    else none
    else none
    else none
    else none
def fX9_readB_32 (Γ : Gm) (k2 : Nat → Int32 → Int32 → Int32 → AH → Option (Int32 × AH)) (v0 : Nat) (v1 : Int32) (v2 : Int32) (v3 : Int32) (s0 : Nat) (s1 : Int32) (s2 : Int32) (h : AH) : Option (Int32 × AH) :=
  if am_ok s1 (am_len Γ s0) then am_let (am_setI h s0 s1.toNatClampNeg s2) fun h32 =>
  k2 v0 v1 v2 (v3 + nI 1) h32
  else none
def fX9_readB_2 (Γ : Gm) : Nat → Nat → Int32 → Int32 → Int32 → AH → Option (Int32 × AH)
  | 0, _, _, _, _, _ => none
  | z + 1, v0, v1, v2, v3, h =>
    if (nI 1000) ≤ v3 then
      fX9_readB_44 Γ am_fuel v0 v2 (nI 0) v1 h
    else
    (h.2 v0 11).bind fun b10 =>
    if (h.1 v0 9) ≤ v3 then
      fX9_readB_32 Γ (fX9_readB_2 Γ z) v0 v1 v2 v3 b10 v3 (nI 0) h
    else
    (h.2 v0 8).bind fun b23 =>
    if am_ok v3 (am_len Γ b23) then
    fX9_readB_32 Γ (fX9_readB_2 Γ z) v0 v1 v2 v3 b10 v3 (h.1 b23 v3.toNatClampNeg) h
    else none
def fX9_readB (Γ : Gm) (v0 : Nat) (v1 : Int32) (v2 : Int32) (h : AH) : Option (Int32 × AH) :=
  fX9_readB_2 Γ am_fuel v0 v1 v2 (nI 0) h
def fX9_readC_57 (Γ : Gm) (k21 : Nat → Int32 → Int32 → AH → Option (Int32 × AH)) (v0 : Nat) (v2 : Int32) (v4 : Int32) (s0 : Nat) (s1 : Int32) (s2 : Int32) (h : AH) : Option (Int32 × AH) :=
  if am_ok s1 (am_len Γ s0) then am_let (am_setI h s0 s1.toNatClampNeg s2) fun h57 =>
  k21 v0 v2 (v4 + nI 1) h57
  else none
def fX9_readC_21 (Γ : Gm) : Nat → Nat → Int32 → Int32 → AH → Option (Int32 × AH)
  | 0, _, _, _, _ => none
  | z + 1, v0, v2, v4, h =>
    if (nI 1000) ≤ v4 then
      some (nI 1, h)
    else
    (h.2 v0 11).bind fun b30 =>
    if (h.1 v0 9) ≤ v4 then
      fX9_readC_57 Γ (fX9_readC_21 Γ z) v0 v2 v4 b30 v4 (nI 0) h
    else
    (h.2 v0 0).bind fun b45 =>
    if am_ok (v2 + v4) (am_len Γ b45) then
    fX9_readC_57 Γ (fX9_readC_21 Γ z) v0 v2 v4 b30 v4 (h.1 b45 (v2 + v4).toNatClampNeg) h
    else none
def fX9_readC (Γ : Gm) (v0 : Nat) (v1 : Int32) (v2 : Int32) (v3 : Int32) (h : AH) : Option (Int32 × AH) :=
  if v3 = (h.1 v0 9) then
    fX9_readC_21 Γ am_fuel v0 v2 (nI 0) h
  else
  am_bind (fX9_wrong Γ v0 (nI 7) (v1 + (nI 4)) h) fun r14 h14 =>
  some (r14, h14)
def fX9_readD_463 (Γ : Gm) (k11 : Nat → Int32 → Int32 → AH → Option (Int32 × AH)) : Nat → Nat → Int32 → Int32 → Int32 → Int32 → Int32 → AH → Option (Int32 × AH)
  | 0, _, _, _, _, _, _, _ => none
  | z + 1, v0, v2, v3, v4, v9, v10, h =>
    if v9 ≤ v10 then
      (h.2 v0 11).bind fun b521 =>
      if am_ok (nI 1001) (am_len Γ b521) then
      if am_ok (nI 1001) (am_len Γ b521) then am_let (am_setI h b521 (nI 1001).toNatClampNeg ((h.1 b521 (nI 1001).toNatClampNeg) + (nI 1))) fun h531 =>
      am_let (v3 + ((nI 8) + ((nI 2) * v9))) fun x541 =>
      k11 v0 v2 x541 h531
      else none
      else none
    else
    (h.2 v0 11).bind fun b471 =>
    (h.2 v0 0).bind fun b482 =>
    if am_ok ((v3 + (nI 8)) + ((nI 2) * v10)) (am_len Γ b482) then
    (h.2 v0 0).bind fun b499 =>
    if am_ok ((v3 + (nI 9)) + ((nI 2) * v10)) (am_len Γ b499) then
    if am_ok ((v4 + (nI 5)) + v10) (am_len Γ b471) then am_let (am_setI h b471 ((v4 + (nI 5)) + v10).toNatClampNeg ((am_shl (h.1 b482 ((v3 + (nI 8)) + ((nI 2) * v10)).toNatClampNeg) (nI 8)) ||| (h.1 b499 ((v3 + (nI 9)) + ((nI 2) * v10)).toNatClampNeg))) fun h513 =>
    fX9_readD_463 Γ k11 z v0 v2 v3 v4 v9 (v10 + nI 1) h513
    else none
    else none
    else none
def fX9_readD_423 (Γ : Gm) (k11 : Nat → Int32 → Int32 → AH → Option (Int32 × AH)) (v0 : Nat) (v2 : Int32) (v3 : Int32) (v4 : Int32) (v6 : Int32) (v7 : Int32) (v8 : Int32) (v9 : Int32) (s0 : Nat) (s1 : Int32) (s2 : Int32) (h : AH) : Option (Int32 × AH) :=
  if am_ok s1 (am_len Γ s0) then am_let (am_setI h s0 s1.toNatClampNeg s2) fun h423 =>
  (h423.2 v0 11).bind fun b425 =>
  if am_ok (v4 + (nI 2)) (am_len Γ b425) then am_let (am_setI h423 b425 (v4 + (nI 2)).toNatClampNeg v7) fun h434 =>
  (h434.2 v0 11).bind fun b436 =>
  if am_ok (v4 + (nI 3)) (am_len Γ b436) then am_let (am_setI h434 b436 (v4 + (nI 3)).toNatClampNeg (v6 &&& (nI 15))) fun h448 =>
  (h448.2 v0 11).bind fun b450 =>
  if am_ok (v4 + (nI 4)) (am_len Γ b450) then am_let (am_setI h448 b450 (v4 + (nI 4)).toNatClampNeg v8) fun h459 =>
  fX9_readD_463 Γ k11 am_fuel v0 v2 v3 v4 v9 (nI 0) h459
  else none
  else none
  else none
  else none
def fX9_readD_334 (Γ : Gm) (k11 : Nat → Int32 → Int32 → AH → Option (Int32 × AH)) : Nat → Nat → Int32 → Int32 → Int32 → Int32 → Int32 → Int32 → Int32 → Int32 → AH → Option (Int32 × AH)
  | 0, _, _, _, _, _, _, _, _, _, _ => none
  | z + 1, v0, v2, v3, v4, v6, v7, v8, v9, v10, h =>
    if (nI 60) ≤ v10 then
      (h.2 v0 11).bind fun b359 =>
      (h.2 v0 0).bind fun b365 =>
      if am_ok v3 (am_len Γ b365) then
      (h.2 v0 0).bind fun b374 =>
      if am_ok (v3 + (nI 1)) (am_len Γ b374) then
      (h.2 v0 0).bind fun b386 =>
      if am_ok (v3 + (nI 2)) (am_len Γ b386) then
      if am_ok v4 (am_len Γ b359) then am_let (am_setI h b359 v4.toNatClampNeg (((am_shl (h.1 b365 v3.toNatClampNeg) (nI 16)) ||| (am_shl (h.1 b374 (v3 + (nI 1)).toNatClampNeg) (nI 8))) ||| (h.1 b386 (v3 + (nI 2)).toNatClampNeg))) fun h394 =>
      (h394.2 v0 11).bind fun b396 =>
      if v6 ≤ (nI 15) then
        (h394.2 v0 0).bind fun b416 =>
        if am_ok (v3 + (nI 4)) (am_len Γ b416) then
        fX9_readD_423 Γ k11 v0 v2 v3 v4 v6 v7 v8 v9 b396 (v4 + (nI 1)) (h394.1 b416 (v3 + (nI 4)).toNatClampNeg) h394
        else none
      else
      fX9_readD_423 Γ k11 v0 v2 v3 v4 v6 v7 v8 v9 b396 (v4 + (nI 1)) ((-2 : Int32)) h394
      else none
      else none
      else none
      else none
    else
    (h.2 v0 11).bind fun b342 =>
    if am_ok (v4 + v10) (am_len Γ b342) then am_let (am_setI h b342 (v4 + v10).toNatClampNeg (nI 0)) fun h351 =>
    fX9_readD_334 Γ k11 z v0 v2 v3 v4 v6 v7 v8 v9 (v10 + nI 1) h351
    else none
def fX9_readD_231 (Γ : Gm) (k11 : Nat → Int32 → Int32 → AH → Option (Int32 × AH)) (v0 : Nat) (v2 : Int32) (v3 : Int32) (v4 : Int32) (v6 : Int32) (v7 : Int32) (h : AH) : Option (Int32 × AH) :=
  (h.2 v0 0).bind fun b238 =>
  if am_ok (v3 + (nI 5)) (am_len Γ b238) then
  if ((am_shl (nI 1) v7) - (nI 1)) = (h.1 b238 (v3 + (nI 5)).toNatClampNeg) then
    (h.2 v0 0).bind fun b259 =>
    if am_ok (v3 + (nI 6)) (am_len Γ b259) then
    (h.2 v0 0).bind fun b271 =>
    if am_ok (v3 + (nI 7)) (am_len Γ b271) then
    am_let ((am_shl (h.1 b259 (v3 + (nI 6)).toNatClampNeg) (nI 8)) ||| (h.1 b271 (v3 + (nI 7)).toNatClampNeg)) fun x280 =>
    if x280 ≤ (nI 40) then
      am_let ((v6 &&& (nI 15)) + x280) fun x308 =>
      if ((nI 2) * x308) ≤ ((v2 - v3) - (nI 8)) then
        fX9_readD_334 Γ k11 am_fuel v0 v2 v3 v4 v6 v7 x280 x308 (nI 0) h
      else
      am_bind (fX9_wrong Γ v0 (nI 8) v2 h) fun r327 h327 =>
      some (r327, h327)
    else
    am_bind (fX9_wrong Γ v0 (nI 9) (v3 + (nI 6)) h) fun r296 h296 =>
    some (r296, h296)
    else none
    else none
  else
  am_bind (fX9_wrong Γ v0 (nI 8) (v3 + (nI 5)) h) fun r254 h254 =>
  some (r254, h254)
  else none
def fX9_readD_201 (Γ : Gm) (k11 : Nat → Int32 → Int32 → AH → Option (Int32 × AH)) : Nat → Nat → Int32 → Int32 → Int32 → Int32 → Int32 → AH → Option (Int32 × AH)
  | 0, _, _, _, _, _, _, _ => none
  | z + 1, v0, v2, v3, v4, v6, v7, h =>
    if (nI 7) ≤ v7 then
      fX9_readD_231 Γ k11 v0 v2 v3 v4 v6 v7 h
    else
    (h.2 v0 0).bind fun b215 =>
    if am_ok (v3 + (nI 5)) (am_len Γ b215) then
    if ((am_shl (nI 1) v7) - (nI 1)) = (h.1 b215 (v3 + (nI 5)).toNatClampNeg) then
      fX9_readD_231 Γ k11 v0 v2 v3 v4 v6 v7 h
    else
    fX9_readD_201 Γ k11 z v0 v2 v3 v4 v6 (v7 + nI 1) h
    else none
def fX9_readD_198 (Γ : Gm) (k11 : Nat → Int32 → Int32 → AH → Option (Int32 × AH)) (v0 : Nat) (v2 : Int32) (v3 : Int32) (v4 : Int32) (v6 : Int32) (h : AH) : Option (Int32 × AH) :=
  fX9_readD_201 Γ k11 am_fuel v0 v2 v3 v4 v6 (nI 0) h
def fX9_readD_143 (Γ : Gm) (k11 : Nat → Int32 → Int32 → AH → Option (Int32 × AH)) (v0 : Nat) (v2 : Int32) (v3 : Int32) (v4 : Int32) (h : AH) : Option (Int32 × AH) :=
  (h.2 v0 0).bind fun b144 =>
  if am_ok (v3 + (nI 3)) (am_len Γ b144) then
  am_let (h.1 b144 (v3 + (nI 3)).toNatClampNeg) fun x151 =>
  if x151 ≤ (nI 31) then
    if x151 ≤ (nI 15) then
      fX9_readD_198 Γ k11 v0 v2 v3 v4 x151 h
    else
    (h.2 v0 0).bind fun b178 =>
    if am_ok (v3 + (nI 4)) (am_len Γ b178) then
    if (h.1 b178 (v3 + (nI 4)).toNatClampNeg) = 0 then
      fX9_readD_198 Γ k11 v0 v2 v3 v4 x151 h
    else
    am_bind (fX9_wrong Γ v0 (nI 8) (v3 + (nI 4)) h) fun r194 h194 =>
    some (r194, h194)
    else none
  else
  am_bind (fX9_wrong Γ v0 (nI 8) (v3 + (nI 3)) h) fun r166 h166 =>
  some (r166, h166)
  else none
def fX9_readD_102 (Γ : Gm) (k11 : Nat → Int32 → Int32 → AH → Option (Int32 × AH)) : Nat → Nat → Int32 → Int32 → Int32 → Int32 → Int32 → AH → Option (Int32 × AH)
  | 0, _, _, _, _, _, _, _ => none
  | z + 1, v0, v2, v3, v4, v5, v6, h =>
    if v5 = 0 then
      fX9_readD_143 Γ k11 v0 v2 v3 v4 h
    else
    if (nI 6) ≤ v6 then
      fX9_readD_143 Γ k11 v0 v2 v3 v4 h
    else
    (h.2 v0 0).bind fun b115 =>
    if am_ok (v3 + v6) (am_len Γ b115) then
    if (h.1 b115 (v3 + v6).toNatClampNeg) = 0 then
      fX9_readD_102 Γ k11 z v0 v2 v3 v4 v5 (v6 + nI 1) h
    else
    am_bind (fX9_wrong Γ v0 (nI 8) (v3 + v6) h) fun r133 h133 =>
    some (r133, h133)
    else none
def fX9_readD_97 (Γ : Gm) (k11 : Nat → Int32 → Int32 → AH → Option (Int32 × AH)) (v0 : Nat) (v2 : Int32) (v3 : Int32) (v4 : Int32) (s0 : Int32) (h : AH) : Option (Int32 × AH) :=
  fX9_readD_102 Γ k11 am_fuel v0 v2 v3 v4 s0 (nI 0) h
def fX9_readD_27 (Γ : Gm) (k11 : Nat → Int32 → Int32 → AH → Option (Int32 × AH)) (v0 : Nat) (v2 : Int32) (v3 : Int32) (h : AH) : Option (Int32 × AH) :=
  (h.2 v0 11).bind fun b28 =>
  if am_ok (nI 1001) (am_len Γ b28) then
  if (h.1 b28 (nI 1001).toNatClampNeg) = (nI 20) then
    am_bind (fX9_wrong Γ v0 (nI 9) v3 h) fun r44 h44 =>
    some (r44, h44)
  else
  if (nI 8) ≤ (v2 - v3) then
    (h.2 v0 11).bind fun b68 =>
    if am_ok (nI 1001) (am_len Γ b68) then
    am_let ((nI 1002) + ((h.1 b68 (nI 1001).toNatClampNeg) * (nI 60))) fun x79 =>
    (h.2 v0 11).bind fun b82 =>
    if am_ok (nI 1001) (am_len Γ b82) then
    if (h.1 b82 (nI 1001).toNatClampNeg) = 0 then
      fX9_readD_97 Γ k11 v0 v2 v3 x79 (nI 1) h
    else
    fX9_readD_97 Γ k11 v0 v2 v3 x79 (nI 0) h
    else none
    else none
  else
  am_bind (fX9_wrong Γ v0 (nI 8) v2 h) fun r60 h60 =>
  some (r60, h60)
  else none
def fX9_readD_11 (Γ : Gm) : Nat → Nat → Int32 → Int32 → AH → Option (Int32 × AH)
  | 0, _, _, _, _ => none
  | z + 1, v0, v2, v3, h =>
    if v3 < v2 then
      fX9_readD_27 Γ (fX9_readD_11 Γ z) v0 v2 v3 h
    else
    (h.2 v0 11).bind fun b17 =>
    if am_ok (nI 1001) (am_len Γ b17) then
    if (h.1 b17 (nI 1001).toNatClampNeg) = 0 then
      fX9_readD_27 Γ (fX9_readD_11 Γ z) v0 v2 v3 h
    else
    some (nI 1, h)
    else none
def fX9_readD (Γ : Gm) (v0 : Nat) (v1 : Int32) (v2 : Int32) (h : AH) : Option (Int32 × AH) :=
  (h.2 v0 11).bind fun b1 =>
  if am_ok (nI 1001) (am_len Γ b1) then am_let (am_setI h b1 (nI 1001).toNatClampNeg (nI 0)) fun h8 =>
  fX9_readD_11 Γ am_fuel v0 v2 v1 h8
  else none
def fX9_readFile_507 (Γ : Gm) (h : AH) : Option (Int32 × AH) :=
  some (nI 1, h)
def fX9_readFile_494 (Γ : Gm) (v0 : Nat) (h : AH) : Option (Int32 × AH) :=
  am_bind (fX9_wrong Γ v0 (nI 10) (h.1 v0 28) h) fun r501 h501 =>
  if r501 = 0 then
    some (nI 0, h501)
  else
  fX9_readFile_507 Γ h501
def fX9_readFile_467 (Γ : Gm) (k98 : Nat → Int32 → Int32 → Int32 → Int32 → AH → Option (Int32 × AH)) (v0 : Nat) (v1 : Int32) (v2 : Int32) (v3 : Int32) (v6 : Int64) (v9 : Int32) (h : AH) : Option (Int32 × AH) :=
  am_let (v9 + ((am_lrem v6 ((2 : Int64))).toInt32)) fun x477 =>
  k98 v0 v1 v2 v3 x477 h
def fX9_readFile_420 (Γ : Gm) (k98 : Nat → Int32 → Int32 → Int32 → Int32 → AH → Option (Int32 × AH)) : Nat → Nat → Int32 → Int32 → Int32 → Int64 → Int32 → Int32 → Int32 → Int32 → AH → Option (Int32 × AH)
  | 0, _, _, _, _, _, _, _, _, _, _ => none
  | z + 1, v0, v1, v2, v3, v6, v8, v9, v10, v11, h =>
    if 0 ≤ (lg_cmp v11.toInt64 v6) then
      am_let (am_setI h v0 19 ((h.1 v0 19) + (nI 1))) fun h464 =>
      fX9_readFile_467 Γ k98 v0 v1 v2 v3 v6 v9 h464
    else
    (h.2 v0 18).bind fun b430 =>
    (h.2 v0 0).bind fun b441 =>
    if am_ok (v8 + v11) (am_len Γ b441) then
    if am_ok ((v10 + (nI 2)) + v11) (am_len Γ b430) then am_let (am_setI h b430 ((v10 + (nI 2)) + v11).toNatClampNeg (h.1 b441 (v8 + v11).toNatClampNeg)) fun h450 =>
    fX9_readFile_420 Γ k98 z v0 v1 v2 v3 v6 v8 v9 v10 (v11 + nI 1) h450
    else none
    else none
def fX9_readFile_377 (Γ : Gm) (v0 : Nat) (v4 : Int32) (h : AH) : Option (Int32 × AH) :=
  am_bind (fX9_wrong Γ v0 (nI 9) v4 h) fun r382 h382 =>
  some (r382, h382)
def fX9_readFile_354 (Γ : Gm) (k98 : Nat → Int32 → Int32 → Int32 → Int32 → AH → Option (Int32 × AH)) (v0 : Nat) (v1 : Int32) (v2 : Int32) (v6 : Int64) (v9 : Int32) (h : AH) : Option (Int32 × AH) :=
  fX9_readFile_467 Γ k98 v0 v1 v2 (nI 1) v6 v9 h
def fX9_readFile_325 (Γ : Gm) (k98 : Nat → Int32 → Int32 → Int32 → Int32 → AH → Option (Int32 × AH)) (v0 : Nat) (v1 : Int32) (v3 : Int32) (v6 : Int64) (v9 : Int32) (h : AH) : Option (Int32 × AH) :=
  fX9_readFile_467 Γ k98 v0 v1 (nI 1) v3 v6 v9 h
def fX9_readFile_272 (Γ : Gm) (k98 : Nat → Int32 → Int32 → Int32 → Int32 → AH → Option (Int32 × AH)) (v0 : Nat) (v1 : Int32) (v2 : Int32) (v3 : Int32) (v4 : Int32) (v5 : Int32) (v6 : Int64) (v8 : Int32) (v9 : Int32) (h : AH) : Option (Int32 × AH) :=
  if v2 = 0 then
    if v1 = 0 then
      am_bind (fX9_wrong Γ v0 (nI 5) v4 h) fun r284 h284 =>
      some (r284, h284)
    else
    if v5 = (nI 1129145709) then
      am_bind (fX9_readB Γ v0 v8 v9 h) fun r300 h300 =>
      if r300 = 0 then
        some (nI 0, h300)
      else
      fX9_readFile_325 Γ k98 v0 v1 v3 v6 v9 h300
    else
    am_bind (fX9_readC Γ v0 v4 v8 v6.toInt32 h) fun r317 h317 =>
    if r317 = 0 then
      some (nI 0, h317)
    else
    fX9_readFile_325 Γ k98 v0 v1 v3 v6 v9 h317
  else
  fX9_readFile_325 Γ k98 v0 v1 v3 v6 v9 h
def fX9_readFile_253 (Γ : Gm) (k98 : Nat → Int32 → Int32 → Int32 → Int32 → AH → Option (Int32 × AH)) (v0 : Nat) (v2 : Int32) (v3 : Int32) (v6 : Int64) (v9 : Int32) (h : AH) : Option (Int32 × AH) :=
  fX9_readFile_467 Γ k98 v0 (nI 1) v2 v3 v6 v9 h
def fX9_readFile_226 (Γ : Gm) (k98 : Nat → Int32 → Int32 → Int32 → Int32 → AH → Option (Int32 × AH)) (v0 : Nat) (v1 : Int32) (v2 : Int32) (v3 : Int32) (v4 : Int32) (v5 : Int32) (v6 : Int64) (v8 : Int32) (v9 : Int32) (h : AH) : Option (Int32 × AH) :=
  if v5 = (nI 1229351012) then
    if v1 = 0 then
      am_bind (fX9_readA Γ v0 v4 v8 v6.toInt32 h) fun r245 h245 =>
      if r245 = 0 then
        some (nI 0, h245)
      else
      fX9_readFile_253 Γ k98 v0 v2 v3 v6 v9 h245
    else
    fX9_readFile_253 Γ k98 v0 v2 v3 v6 v9 h
  else
  if v5 = (nI 1129145709) then
    fX9_readFile_272 Γ k98 v0 v1 v2 v3 v4 v5 v6 v8 v9 h
  else
  if v5 = (nI 1431135597) then
    fX9_readFile_272 Γ k98 v0 v1 v2 v3 v4 v5 v6 v8 v9 h
  else
  if v5 = (nI 1400138611) then
    if v3 = 0 then
      am_bind (fX9_readD Γ v0 v8 v9 h) fun r346 h346 =>
      if r346 = 0 then
        some (nI 0, h346)
      else
      fX9_readFile_354 Γ k98 v0 v1 v2 v6 v9 h346
    else
    fX9_readFile_354 Γ k98 v0 v1 v2 v6 v9 h
  else
  if (h.1 v0 19) = (nI 8) then
    fX9_readFile_377 Γ v0 v4 h
  else
  if (lg_cmp v6 ((200 : Int64))) ≤ 0 then
    am_let ((nI 202) * (h.1 v0 19)) fun x394 =>
    (h.2 v0 18).bind fun b397 =>
    if am_ok x394 (am_len Γ b397) then am_let (am_setI h b397 x394.toNatClampNeg v5) fun h404 =>
    (h404.2 v0 18).bind fun b406 =>
    if am_ok (x394 + (nI 1)) (am_len Γ b406) then am_let (am_setI h404 b406 (x394 + (nI 1)).toNatClampNeg v6.toInt32) fun h416 =>
    fX9_readFile_420 Γ k98 am_fuel v0 v1 v2 v3 v6 v8 v9 x394 (nI 0) h416
    else none
    else none
  else
  fX9_readFile_377 Γ v0 v4 h
def fX9_readFile_98 (Γ : Gm) : Nat → Nat → Int32 → Int32 → Int32 → Int32 → AH → Option (Int32 × AH)
  | 0, _, _, _, _, _, _ => none
  | z + 1, v0, v1, v2, v3, v4, h =>
    if (h.1 v0 28) ≤ v4 then
      if v1 = 0 then
        fX9_readFile_494 Γ v0 h
      else
      if v2 = 0 then
        fX9_readFile_494 Γ v0 h
      else
      if v3 = 0 then
        fX9_readFile_494 Γ v0 h
      else
      fX9_readFile_507 Γ h
    else
    if (nI 8) ≤ ((h.1 v0 28) - v4) then
      am_bind (fX9_numberAt Γ v0 v4 h) fun r132 h132 =>
      am_let r132.toInt32 fun x136 =>
      am_bind (fX9_numberAt Γ v0 (v4 + (nI 4)) h132) fun r143 h143 =>
      if (lg_cmp (r143 + (am_lrem r143 ((2 : Int64)))) ((((h143.1 v0 28) - v4) - (nI 8)).toInt64)) ≤ 0 then
        am_let (v4 + (nI 8)) fun x187 =>
        am_let (x187 + r143.toInt32) fun x195 =>
        if (lg_cmp (am_lrem r143 ((2 : Int64))) ((1 : Int64))) = 0 then
          (h143.2 v0 0).bind fun b209 =>
          if am_ok x195 (am_len Γ b209) then
          if (h143.1 b209 x195.toNatClampNeg) = 0 then
            fX9_readFile_226 Γ (fX9_readFile_98 Γ z) v0 v1 v2 v3 v4 x136 r143 x187 x195 h143
          else
          am_bind (fX9_wrong Γ v0 (nI 4) x195 h143) fun r222 h222 =>
          some (r222, h222)
          else none
        else
        fX9_readFile_226 Γ (fX9_readFile_98 Γ z) v0 v1 v2 v3 v4 x136 r143 x187 x195 h143
      else
      am_bind (fX9_wrong Γ v0 (nI 1) (h143.1 v0 28) h143) fun r178 h178 =>
      some (r178, h178)
    else
    am_bind (fX9_wrong Γ v0 (nI 1) (h.1 v0 28) h) fun r125 h125 =>
    some (r125, h125)
def fX9_readFile (Γ : Gm) (v0 : Nat) (h : AH) : Option (Int32 × AH) :=
  if (nI 12) ≤ (h.1 v0 28) then
    am_bind (fX9_numberAt Γ v0 (nI 0) h) fun r21 h21 =>
    if (lg_cmp r21 ((1179603533 : Int64))) = 0 then
      am_bind (fX9_numberAt Γ v0 (nI 4) h21) fun r40 h40 =>
      if (lg_cmp r40 (((h40.1 v0 28) - (nI 8)).toInt64)) = 0 then
        am_bind (fX9_numberAt Γ v0 (nI 8) h40) fun r65 h65 =>
        if (lg_cmp r65 ((1229347411 : Int64))) = 0 then
          am_let (am_setI h65 v0 19 (nI 0)) fun h91 =>
          fX9_readFile_98 Γ am_fuel v0 (nI 0) (nI 0) (nI 0) (nI 12) h91
        else
        am_bind (fX9_wrong Γ v0 (nI 2) (nI 8) h65) fun r79 h79 =>
        some (r79, h79)
      else
      am_bind (fX9_wrong Γ v0 (nI 3) (nI 4) h40) fun r58 h58 =>
      some (r58, h58)
    else
    am_bind (fX9_wrong Γ v0 (nI 2) (nI 0) h21) fun r34 h34 =>
    some (r34, h34)
  else
  am_bind (fX9_wrong Γ v0 (nI 1) (h.1 v0 28) h) fun r15 h15 =>
  some (r15, h15)
def fX9_restore_96 (Γ : Gm) : Nat → Nat → Int32 → AH → Option (Int32 × AH)
  | 0, _, _, _ => none
  | z + 1, v0, v2, h =>
    if ((nI 202) * (h.1 v0 17)) ≤ v2 then
      some (nI 1, h)
    else
    (h.2 v0 16).bind fun b109 =>
    (h.2 v0 18).bind fun b114 =>
    if am_ok v2 (am_len Γ b114) then
    if am_ok v2 (am_len Γ b109) then am_let (am_setI h b109 v2.toNatClampNeg (h.1 b114 v2.toNatClampNeg)) fun h119 =>
    fX9_restore_96 Γ z v0 (v2 + nI 1) h119
    else none
    else none
def fX9_restore_56 (Γ : Gm) : Nat → Nat → Int32 → Int32 → AH → Option (Int32 × AH)
  | 0, _, _, _, _ => none
  | z + 1, v0, v1, v2, h =>
    if (nI 2202) ≤ v2 then
      am_bind (fX9_stay Γ v0 v1 h) fun r83 h83 =>
      am_let (am_setI h83 v0 17 (h83.1 v0 19)) fun h91 =>
      fX9_restore_96 Γ am_fuel v0 (nI 0) h91
    else
    (h.2 v0 10).bind fun b64 =>
    (h.2 v0 11).bind fun b69 =>
    if am_ok v2 (am_len Γ b69) then
    if am_ok v2 (am_len Γ b64) then am_let (am_setI h b64 v2.toNatClampNeg (h.1 b69 v2.toNatClampNeg)) fun h74 =>
    fX9_restore_56 Γ z v0 v1 (v2 + nI 1) h74
    else none
    else none
def fX9_restore (Γ : Gm) (v0 : Nat) (h : AH) : Option (Int32 × AH) :=
  am_let (am_setI h v0 28 (h.1 v0 1)) fun h5 =>
  am_let (am_setI h5 v0 1 (nI 0)) fun h10 =>
  if (h10.1 v0 9) = 0 then
    some ((-4 : Int32), h10)
  else
  am_let (am_setI h10 v0 20 (nI 0)) fun h25 =>
  am_let (am_setI h25 v0 21 ((-2 : Int32))) fun h31 =>
  am_bind (fX9_readFile Γ v0 h31) fun r35 h35 =>
  if r35 = 0 then
    some (((-10 : Int32)) - (h35.1 v0 20), h35)
  else
  am_bind (fX9_bits Γ v0 h35) fun r50 h50 =>
  fX9_restore_56 Γ am_fuel v0 r50 (nI 0) h50
def fX9_why (Γ : Gm) (v0 : Nat) (v1 : Int32) (h : AH) : Option (Int32 × AH) :=
  if v1 = 0 then
    some (h.1 v0 20, h)
  else
  if v1 = (nI 1) then
    some (h.1 v0 21, h)
  else
  some ((-1 : Int32), h)
def fX9_chunk (Γ : Gm) (v0 : Nat) (v1 : Int32) (v2 : Int32) (h : AH) : Option (Int32 × AH) :=
  am_bind (fX9_outside Γ v2 (nI 0) (nI 2) h) fun r3 h3 =>
  if r3 = 0 then
    am_bind (fX9_outside Γ v1 (nI 0) ((h3.1 v0 25) - (nI 1)) h3) fun r19 h19 =>
    if r19 = 0 then
      if v2 = 0 then
        (h19.2 v0 22).bind fun b33 =>
        if am_ok v1 (am_len Γ b33) then
        some (h19.1 b33 v1.toNatClampNeg, h19)
        else none
      else
      if v2 = (nI 1) then
        (h19.2 v0 23).bind fun b47 =>
        if am_ok v1 (am_len Γ b47) then
        some (h19.1 b47 v1.toNatClampNeg, h19)
        else none
      else
      (h19.2 v0 24).bind fun b56 =>
      if am_ok v1 (am_len Γ b56) then
      some (h19.1 b56 v1.toNatClampNeg, h19)
      else none
    else
    some ((-2 : Int32), h19)
  else
  some ((-1 : Int32), h3)
def fX9_write_40 (Γ : Gm) : Nat → Nat → Int32 → AH → Option (Int32 × AH)
  | 0, _, _, _ => none
  | z + 1, v0, v2, h =>
    if (h.1 v0 3) ≤ v2 then
      am_let (am_setI h v0 5 (h.1 v0 3)) fun h71 =>
      some (nI 1, h71)
    else
    (h.2 v0 4).bind fun b49 =>
    (h.2 v0 2).bind fun b54 =>
    if am_ok v2 (am_len Γ b54) then
    if am_ok v2 (am_len Γ b49) then am_let (am_setI h b49 v2.toNatClampNeg (h.1 b54 v2.toNatClampNeg)) fun h59 =>
    fX9_write_40 Γ z v0 (v2 + nI 1) h59
    else none
    else none
def fX9_write_25 (Γ : Gm) (v0 : Nat) (s0 : Int32) (h : AH) : Option (Int32 × AH) :=
  am_let (am_setI h v0 6 ((-2 : Int32))) fun h29 =>
  if s0 = 0 then
    fX9_write_40 Γ am_fuel v0 (nI 0) h29
  else
  some (nI 0, h29)
def fX9_write_24 (Γ : Gm) (v0 : Nat) (h : AH) : Option (Int32 × AH) :=
  fX9_write_25 Γ v0 (nI 0) h
def fX9_write (Γ : Gm) (v0 : Nat) (h : AH) : Option (Int32 × AH) :=
  if (h.1 v0 6) = ((-2 : Int32)) then
    fX9_write_24 Γ v0 h
  else
  if (h.1 v0 3) ≤ (h.1 v0 6) then
    fX9_write_24 Γ v0 h
  else
  fX9_write_25 Γ v0 (nI 1) h
def fX9_cut (Γ : Gm) (v0 : Nat) (v1 : Int32) (h : AH) : Option (Int32 × AH) :=
  if 0 ≤ v1 then
    am_let (am_setI h v0 6 v1) fun h14 =>
    some (nI 1, h14)
  else
  if v1 = ((-2 : Int32)) then
    am_let (am_setI h v0 6 v1) fun h14 =>
    some (nI 1, h14)
  else
  some ((-1 : Int32), h)
def fX9_load_27 (Γ : Gm) : Nat → Nat → Int32 → AH → Option (Int32 × AH)
  | 0, _, _, _ => none
  | z + 1, v0, v1, h =>
    if (h.1 v0 5) ≤ v1 then
      am_let (am_setI h v0 1 (h.1 v0 5)) fun h58 =>
      some (h58.1 v0 1, h58)
    else
    (h.2 v0 0).bind fun b36 =>
    (h.2 v0 4).bind fun b41 =>
    if am_ok v1 (am_len Γ b41) then
    if am_ok v1 (am_len Γ b36) then am_let (am_setI h b36 v1.toNatClampNeg (h.1 b41 v1.toNatClampNeg)) fun h46 =>
    fX9_load_27 Γ z v0 (v1 + nI 1) h46
    else none
    else none
def fX9_load (Γ : Gm) (v0 : Nat) (h : AH) : Option (Int32 × AH) :=
  if (h.1 v0 5) = ((-2 : Int32)) then
    some ((-2 : Int32), h)
  else
  if (h.1 v0 5) ≤ (nI 2000) then
    fX9_load_27 Γ am_fuel v0 (nI 0) h
  else
  some ((-3 : Int32), h)
def fX9_sum_4 (Γ : Gm) : Nat → Nat → Int32 → Int32 → AH → Option (Int32 × AH)
  | 0, _, _, _, _ => none
  | z + 1, v0, v1, v2, h =>
    if (h.1 v0 14) ≤ v2 then
      some (v1, h)
    else
    (h.2 v0 13).bind fun b14 =>
    if am_ok v2 (am_len Γ b14) then
    am_let (v1 + (h.1 b14 v2.toNatClampNeg)) fun x20 =>
    fX9_sum_4 Γ z v0 x20 (v2 + nI 1) h
    else none
def fX9_sum (Γ : Gm) (v0 : Nat) (h : AH) : Option (Int32 × AH) :=
  fX9_sum_4 Γ am_fuel v0 (nI 0) (nI 0) h
def fX9_eldestGo_46 (Γ : Gm) (k0 : Nat → AH → Option (Unit × AH)) (k22 : Nat → Int32 → AH → Option (Unit × AH)) : Nat → Nat → Int32 → Int32 → AH → Option (Unit × AH)
  | 0, _, _, _, _ => none
  | z + 1, v0, v1, v2, h =>
    if (nI 2202) ≤ v2 then
      k22 v0 (v1 + nI 1) h
    else
    (h.2 v0 12).bind fun b54 =>
    (h.2 v0 12).bind fun b67 =>
    if am_ok (((nI 2202) * v1) + v2) (am_len Γ b67) then
    if am_ok (((nI 2202) * (v1 - (nI 1))) + v2) (am_len Γ b54) then am_let (am_setI h b54 (((nI 2202) * (v1 - (nI 1))) + v2).toNatClampNeg (h.1 b67 (((nI 2202) * v1) + v2).toNatClampNeg)) fun h78 =>
    fX9_eldestGo_46 Γ k0 k22 z v0 v1 (v2 + nI 1) h78
    else none
    else none
def fX9_eldestGo_22 (Γ : Gm) (k0 : Nat → AH → Option (Unit × AH)) : Nat → Nat → Int32 → AH → Option (Unit × AH)
  | 0, _, _, _ => none
  | z + 1, v0, v1, h =>
    if (h.1 v0 14) ≤ v1 then
      am_let (am_setI h v0 14 ((h.1 v0 14) - (nI 1))) fun h98 =>
      k0 v0 h98
    else
    (h.2 v0 13).bind fun b31 =>
    (h.2 v0 13).bind fun b38 =>
    if am_ok v1 (am_len Γ b38) then
    if am_ok (v1 - (nI 1)) (am_len Γ b31) then am_let (am_setI h b31 (v1 - (nI 1)).toNatClampNeg (h.1 b38 v1.toNatClampNeg)) fun h43 =>
    fX9_eldestGo_46 Γ k0 (fX9_eldestGo_22 Γ k0 z) am_fuel v0 v1 (nI 0) h43
    else none
    else none
def fX9_eldestGo_20 (Γ : Gm) (k0 : Nat → AH → Option (Unit × AH)) (v0 : Nat) (h : AH) : Option (Unit × AH) :=
  fX9_eldestGo_22 Γ k0 am_fuel v0 (nI 1) h
def fX9_eldestGo_0 (Γ : Gm) : Nat → Nat → AH → Option (Unit × AH)
  | 0, _, _ => none
  | z + 1, v0, h =>
    if (nI 8) < (h.1 v0 14) then
      fX9_eldestGo_20 Γ (fX9_eldestGo_0 Γ z) v0 h
    else
    am_bind (fX9_sum Γ v0 h) fun r10 h10 =>
    if r10 ≤ (h10.1 v0 15) then
      some ((), h10)
    else
    fX9_eldestGo_20 Γ (fX9_eldestGo_0 Γ z) v0 h10
def fX9_eldestGo (Γ : Gm) (v0 : Nat) (h : AH) : Option (Unit × AH) :=
  fX9_eldestGo_0 Γ am_fuel v0 h
def fX9_keep_42 (Γ : Gm) : Nat → Nat → Int32 → AH → Option (Int32 × AH)
  | 0, _, _, _ => none
  | z + 1, v0, v2, h =>
    if (nI 2202) ≤ v2 then
      am_let (am_setI h v0 14 ((h.1 v0 14) + (nI 1))) fun h83 =>
      am_bind (fX9_eldestGo Γ v0 h83) fun r87 h87 =>
      some (h87.1 v0 14, h87)
    else
    (h.2 v0 12).bind fun b50 =>
    (h.2 v0 10).bind fun b64 =>
    if am_ok v2 (am_len Γ b64) then
    if am_ok (((nI 2202) * (h.1 v0 14)) + v2) (am_len Γ b50) then am_let (am_setI h b50 (((nI 2202) * (h.1 v0 14)) + v2).toNatClampNeg (h.1 b64 v2.toNatClampNeg)) fun h69 =>
    fX9_keep_42 Γ z v0 (v2 + nI 1) h69
    else none
    else none
def fX9_keep (Γ : Gm) (v0 : Nat) (h : AH) : Option (Int32 × AH) :=
  if (h.1 v0 9) = 0 then
    some ((-4 : Int32), h)
  else
  (h.2 v0 10).bind fun b12 =>
  am_bind (fX9_weightOf Γ v0 b12 h) fun r15 h15 =>
  if r15 ≤ (h15.1 v0 15) then
    (h15.2 v0 13).bind fun b31 =>
    if am_ok (h15.1 v0 14) (am_len Γ b31) then am_let (am_setI h15 b31 (h15.1 v0 14).toNatClampNeg r15) fun h39 =>
    fX9_keep_42 Γ am_fuel v0 (nI 0) h39
    else none
  else
  some ((-3 : Int32), h15)
def fX9_undo_37 (Γ : Gm) : Nat → Nat → Int32 → Int32 → AH → Option (Int32 × AH)
  | 0, _, _, _, _ => none
  | z + 1, v0, v1, v2, h =>
    if (nI 2202) ≤ v2 then
      am_bind (fX9_stay Γ v0 v1 h) fun r73 h73 =>
      some (h73.1 v0 14, h73)
    else
    (h.2 v0 10).bind fun b45 =>
    (h.2 v0 12).bind fun b50 =>
    if am_ok (((nI 2202) * (h.1 v0 14)) + v2) (am_len Γ b50) then
    if am_ok v2 (am_len Γ b45) then am_let (am_setI h b45 v2.toNatClampNeg (h.1 b50 (((nI 2202) * (h.1 v0 14)) + v2).toNatClampNeg)) fun h64 =>
    fX9_undo_37 Γ z v0 v1 (v2 + nI 1) h64
    else none
    else none
def fX9_undo (Γ : Gm) (v0 : Nat) (h : AH) : Option (Int32 × AH) :=
  if (h.1 v0 9) = 0 then
    some ((-4 : Int32), h)
  else
  if (h.1 v0 14) = 0 then
    some ((-2 : Int32), h)
  else
  am_let (am_setI h v0 14 ((h.1 v0 14) - (nI 1))) fun h27 =>
  am_bind (fX9_bits Γ v0 h27) fun r31 h31 =>
  fX9_undo_37 Γ am_fuel v0 r31 (nI 0) h31
def fX9_bound (Γ : Gm) (v0 : Nat) (v1 : Int32) (h : AH) : Option (Int32 × AH) :=
  am_bind (fX9_outside Γ v1 (nI 0) (nI 10000) h) fun r5 h5 =>
  if r5 = 0 then
    am_let (h5.1 v0 15) fun x17 =>
    am_let (am_setI h5 v0 15 v1) fun h20 =>
    am_bind (fX9_eldestGo Γ v0 h20) fun r24 h24 =>
    some (x17, h24)
  else
  some ((-1 : Int32), h5)
def fX9_restart (Γ : Gm) (v0 : Nat) (h : AH) : Option (Int32 × AH) :=
  if (h.1 v0 9) = 0 then
    some ((-4 : Int32), h)
  else
  am_bind (fX9_bits Γ v0 h) fun r11 h11 =>
  am_bind (fX9_begin Γ v0 h11) fun r16 h16 =>
  am_bind (fX9_stay Γ v0 r11 h16) fun r21 h21 =>
  some (nI 1, h21)
def fX9_told (Γ : Gm) (v0 : Nat) (v1 : Int32) (h : AH) : Option (Int32 × AH) :=
  if v1 = nI 0 then
    some (h.1 v0 9, h)
  else
  if v1 = nI 1 then
    if (h.1 v0 9) = 0 then
      some (nI 0, h)
    else
    (h.2 v0 10).bind fun b73 =>
    if am_ok (nI 1000) (am_len Γ b73) then
    some (h.1 b73 (nI 1000).toNatClampNeg, h)
    else none
  else
  if v1 = nI 2 then
    if (h.1 v0 9) = 0 then
      some (nI 0, h)
    else
    (h.2 v0 10).bind fun b93 =>
    if am_ok (nI 1001) (am_len Γ b93) then
    some (h.1 b93 (nI 1001).toNatClampNeg, h)
    else none
  else
  if v1 = nI 3 then
    some (h.1 v0 14, h)
  else
  if v1 = nI 4 then
    am_bind (fX9_sum Γ v0 h) fun r107 h107 =>
    some (r107, h107)
  else
  if v1 = nI 5 then
    if (h.1 v0 9) = 0 then
      some (nI 0, h)
    else
    (h.2 v0 10).bind fun b124 =>
    am_bind (fX9_weightOf Γ v0 b124 h) fun r127 h127 =>
    some (r127, h127)
  else
  if v1 = nI 6 then
    some (h.1 v0 17, h)
  else
  if v1 = nI 7 then
    some (h.1 v0 1, h)
  else
  if v1 = nI 8 then
    some (h.1 v0 3, h)
  else
  if v1 = nI 9 then
    some (h.1 v0 5, h)
  else
  some ((-1 : Int32), h)
