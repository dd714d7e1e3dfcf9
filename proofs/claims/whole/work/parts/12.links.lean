theorem fo_TT_9 : pm_fok "TestText" 9 0 0 (.array (.byte)) true := ⟨"TestText", F_TT, 9, t_TT, "TestText", rfl, by decide, uw_TT, ty_TT, nm_TT, by decide +kernel, rfl, Or.inl hw_119, Or.inl rfl, fun _ => hw_119⟩
theorem fo_TT_13 : pm_fok "TestText" 13 0 1 (.int) false := ⟨"TestText", F_TT, 9, t_TT, "TestText", rfl, by decide, uw_TT, ty_TT, nm_TT, by decide +kernel, rfl, Or.inl hw_120, Or.inl rfl, fun _ => hw_120⟩
theorem fo_TT_20 : pm_fok "TestText" 20 0 2 (.object "TestText$Plan") false := ⟨"TestText", F_TT, 9, t_TT, "TestText", rfl, by decide, uw_TT, ty_TT, nm_TT, by decide +kernel, rfl, Or.inl hw_121, Or.inl rfl, fun _ => hw_121⟩
theorem fo_TT_24 : pm_fok "TestText" 24 0 3 (.int) false := ⟨"TestText", F_TT, 9, t_TT, "TestText", rfl, by decide, uw_TT, ty_TT, nm_TT, by decide +kernel, rfl, Or.inl hw_122, Or.inl rfl, fun _ => hw_122⟩
theorem fo_TT_30 : pm_fok "TestText" 30 0 4 (.object "TestText$Answers") true := ⟨"TestText", F_TT, 9, t_TT, "TestText", rfl, by decide, uw_TT, ty_TT, nm_TT, by decide +kernel, rfl, Or.inl hw_123, Or.inl rfl, fun _ => hw_123⟩
theorem fo_TT_34 : pm_fok "TestText" 34 0 5 (.int) false := ⟨"TestText", F_TT, 9, t_TT, "TestText", rfl, by decide, uw_TT, ty_TT, nm_TT, by decide +kernel, rfl, Or.inl hw_124, Or.inl rfl, fun _ => hw_124⟩
theorem fo_TT_37 : pm_fok "TestText" 37 0 6 (.long) false := ⟨"TestText", F_TT, 9, t_TT, "TestText", rfl, by decide, uw_TT, ty_TT, nm_TT, by decide +kernel, rfl, Or.inl hw_125, Or.inl rfl, fun _ => hw_125⟩
theorem fo_TT_43 : pm_fok "TestText" 43 0 7 (.array (.object "TestText$Trace")) true := ⟨"TestText", F_TT, 9, t_TT, "TestText", rfl, by decide, uw_TT, ty_TT, nm_TT, by decide +kernel, rfl, Or.inl hw_126, Or.inl rfl, fun _ => hw_126⟩
theorem fo_TT_47 : pm_fok "TestText" 47 0 8 (.int) false := ⟨"TestText", F_TT, 9, t_TT, "TestText", rfl, by decide, uw_TT, ty_TT, nm_TT, by decide +kernel, rfl, Or.inl hw_127, Or.inl rfl, fun _ => hw_127⟩
theorem fo_TT_76 : pm_fok "TestText" 76 1 3 (.object "java/util/ArrayList") true := ⟨"TestText$Plan", F_Plan, 6, t_Plan, "TestText$Plan", rfl, by decide, uw_Plan, ty_Plan, nm_Plan, by decide +kernel, rfl, Or.inl hw_80, Or.inl rfl, fun _ => hw_80⟩
theorem fo_TT_96 : pm_fok "TestText" 96 2 3 (.int) false := ⟨"TestText$Answers", F_Ans, 4, t_Ans, "TestText$Answers", rfl, by decide, uw_Ans, ty_Ans, nm_Ans, by decide +kernel, rfl, Or.inl hw_107, Or.inl rfl, fun _ => hw_107⟩
theorem fo_TT_103 : pm_fok "TestText" 103 1 2 (.object "java/util/ArrayList") true := ⟨"TestText$Plan", F_Plan, 6, t_Plan, "TestText$Plan", rfl, by decide, uw_Plan, ty_Plan, nm_Plan, by decide +kernel, rfl, Or.inl hw_76, Or.inl rfl, fun _ => hw_76⟩
theorem fo_TT_129 : pm_fok "TestText" 129 6 6 (.int) false := ⟨"TestText$Test", F_Test, 9, t_Test, "TestText$Test", rfl, by decide, uw_Test, ty_Test, nm_Test, by decide +kernel, rfl, Or.inl hw_656, Or.inl rfl, fun _ => hw_656⟩
theorem fo_TT_144 : pm_fok "TestText" 144 6 7 (.int) false := ⟨"TestText$Test", F_Test, 9, t_Test, "TestText$Test", rfl, by decide, uw_Test, ty_Test, nm_Test, by decide +kernel, rfl, Or.inl hw_658, Or.inl rfl, fun _ => hw_658⟩
theorem fo_TT_147 : pm_fok "TestText" 147 6 8 (.int) false := ⟨"TestText$Test", F_Test, 9, t_Test, "TestText$Test", rfl, by decide, uw_Test, ty_Test, nm_Test, by decide +kernel, rfl, Or.inl hw_662, Or.inl rfl, fun _ => hw_662⟩
theorem fo_TT_150 : pm_fok "TestText" 150 6 5 (.int) false := ⟨"TestText$Test", F_Test, 9, t_Test, "TestText$Test", rfl, by decide, uw_Test, ty_Test, nm_Test, by decide +kernel, rfl, Or.inl hw_653, Or.inl rfl, fun _ => hw_653⟩
theorem fo_TT_179 : pm_fok "TestText" 179 7 3 (.int) false := ⟨"TestText$Trace", F_Tr, 7, t_Tr, "TestText$Trace", rfl, by decide, uw_Tr, ty_Tr, nm_Tr, by decide +kernel, rfl, Or.inl hw_211, Or.inl rfl, fun _ => hw_211⟩
theorem fo_TT_187 : pm_fok "TestText" 187 7 6 (.int) false := ⟨"TestText$Trace", F_Tr, 7, t_Tr, "TestText$Trace", rfl, by decide, uw_Tr, ty_Tr, nm_Tr, by decide +kernel, rfl, Or.inl hw_216, Or.inl rfl, fun _ => hw_216⟩
theorem fo_TT_193 : pm_fok "TestText" 193 7 0 (.array (.int)) true := ⟨"TestText$Trace", F_Tr, 7, t_Tr, "TestText$Trace", rfl, by decide, uw_Tr, ty_Tr, nm_Tr, by decide +kernel, rfl, Or.inl hw_204, Or.inl rfl, fun _ => hw_204⟩
theorem fo_TT_197 : pm_fok "TestText" 197 7 1 (.array (.int)) true := ⟨"TestText$Trace", F_Tr, 7, t_Tr, "TestText$Trace", rfl, by decide, uw_Tr, ty_Tr, nm_Tr, by decide +kernel, rfl, Or.inl hw_206, Or.inl rfl, fun _ => hw_206⟩
theorem fo_TT_200 : pm_fok "TestText" 200 7 2 (.array (.int)) true := ⟨"TestText$Trace", F_Tr, 7, t_Tr, "TestText$Trace", rfl, by decide, uw_Tr, ty_Tr, nm_Tr, by decide +kernel, rfl, Or.inl hw_208, Or.inl rfl, fun _ => hw_208⟩
theorem fo_Ans_9 : pm_fok "TestText$Answers" 9 2 0 (.array (.int)) true := ⟨"TestText$Answers", F_Ans, 4, t_Ans, "TestText$Answers", rfl, by decide, uw_Ans, ty_Ans, nm_Ans, by decide +kernel, rfl, Or.inl hw_103, Or.inl rfl, fun _ => hw_103⟩
theorem fo_Ans_15 : pm_fok "TestText$Answers" 15 2 1 (.array (.int)) true := ⟨"TestText$Answers", F_Ans, 4, t_Ans, "TestText$Answers", rfl, by decide, uw_Ans, ty_Ans, nm_Ans, by decide +kernel, rfl, Or.inl hw_104, Or.inl rfl, fun _ => hw_104⟩
theorem fo_Ans_18 : pm_fok "TestText$Answers" 18 2 2 (.int) false := ⟨"TestText$Answers", F_Ans, 4, t_Ans, "TestText$Answers", rfl, by decide, uw_Ans, ty_Ans, nm_Ans, by decide +kernel, rfl, Or.inl hw_105, Or.inl rfl, fun _ => hw_105⟩
theorem fo_Ans_22 : pm_fok "TestText$Answers" 22 2 3 (.int) false := ⟨"TestText$Answers", F_Ans, 4, t_Ans, "TestText$Answers", rfl, by decide, uw_Ans, ty_Ans, nm_Ans, by decide +kernel, rfl, Or.inl hw_106, Or.inl rfl, fun _ => hw_106⟩
theorem fo_Ans_42 : pm_fok "TestText$Answers" 42 5 2 (.int) false := ⟨"TestText$Step", F_Step, 9, t_Step, "TestText$Step", rfl, by decide, uw_Step, ty_Step, nm_Step, by decide +kernel, rfl, Or.inl hw_765, Or.inl rfl, fun _ => hw_765⟩
theorem fo_Plan_9 : pm_fok "TestText$Plan" 9 1 0 (.array (.long)) true := ⟨"TestText$Plan", F_Plan, 6, t_Plan, "TestText$Plan", rfl, by decide, uw_Plan, ty_Plan, nm_Plan, by decide +kernel, rfl, Or.inl hw_70, Or.inl rfl, fun _ => hw_70⟩
theorem fo_Plan_18 : pm_fok "TestText$Plan" 18 1 2 (.object "java/util/ArrayList") true := ⟨"TestText$Plan", F_Plan, 6, t_Plan, "TestText$Plan", rfl, by decide, uw_Plan, ty_Plan, nm_Plan, by decide +kernel, rfl, Or.inl hw_74, Or.inl rfl, fun _ => hw_74⟩
theorem fo_Plan_22 : pm_fok "TestText$Plan" 22 1 3 (.object "java/util/ArrayList") true := ⟨"TestText$Plan", F_Plan, 6, t_Plan, "TestText$Plan", rfl, by decide, uw_Plan, ty_Plan, nm_Plan, by decide +kernel, rfl, Or.inl hw_77, Or.inl rfl, fun _ => hw_77⟩
theorem fo_Plan_25 : pm_fok "TestText$Plan" 25 1 4 (.array (.int)) true := ⟨"TestText$Plan", F_Plan, 6, t_Plan, "TestText$Plan", rfl, by decide, uw_Plan, ty_Plan, nm_Plan, by decide +kernel, rfl, Or.inl hw_81, Or.inl rfl, fun _ => hw_81⟩
theorem fo_Plan_29 : pm_fok "TestText$Plan" 29 1 1 (.int) false := ⟨"TestText$Plan", F_Plan, 6, t_Plan, "TestText$Plan", rfl, by decide, uw_Plan, ty_Plan, nm_Plan, by decide +kernel, rfl, Or.inl hw_72, Or.inl rfl, fun _ => hw_72⟩
theorem fo_Plan_43 : pm_fok "TestText$Plan" 43 6 0 (.long) true := ⟨"TestText$Test", F_Test, 9, t_Test, "TestText$Test", rfl, by decide, uw_Test, ty_Test, nm_Test, by decide +kernel, rfl, Or.inl hw_638, Or.inl rfl, fun _ => hw_638⟩
theorem fo_Plan_51 : pm_fok "TestText$Plan" 51 6 1 (.int) true := ⟨"TestText$Test", F_Test, 9, t_Test, "TestText$Test", rfl, by decide, uw_Test, ty_Test, nm_Test, by decide +kernel, rfl, Or.inl hw_642, Or.inl rfl, fun _ => hw_642⟩
theorem fo_Plan_54 : pm_fok "TestText$Plan" 54 6 2 (.int) false := ⟨"TestText$Test", F_Test, 9, t_Test, "TestText$Test", rfl, by decide, uw_Test, ty_Test, nm_Test, by decide +kernel, rfl, Or.inl hw_646, Or.inl rfl, fun _ => hw_646⟩
theorem fo_Plan_59 : pm_fok "TestText$Plan" 59 5 8 (.boolean) false := ⟨"TestText$Step", F_Step, 9, t_Step, "TestText$Step", rfl, by decide, uw_Step, ty_Step, nm_Step, by decide +kernel, rfl, Or.inl hw_781, Or.inl rfl, fun _ => hw_781⟩
theorem fo_Plan_63 : pm_fok "TestText$Plan" 63 6 4 (.int) false := ⟨"TestText$Test", F_Test, 9, t_Test, "TestText$Test", rfl, by decide, uw_Test, ty_Test, nm_Test, by decide +kernel, rfl, Or.inl hw_651, Or.inl rfl, fun _ => hw_651⟩
theorem fo_Plan_66 : pm_fok "TestText$Plan" 66 1 5 (.int) false := ⟨"TestText$Plan", F_Plan, 6, t_Plan, "TestText$Plan", rfl, by decide, uw_Plan, ty_Plan, nm_Plan, by decide +kernel, rfl, Or.inl hw_82, Or.inl rfl, fun _ => hw_82⟩
theorem fo_Rd_9 : pm_fok "TestText$Reader" 9 3 0 (.object "TestText$Plan") true := ⟨"TestText$Reader", F_Rd, 6, t_Rd, "TestText$Reader", rfl, by decide, uw_Rd, ty_Rd, nm_Rd, by decide +kernel, rfl, Or.inl hw_522, Or.inl rfl, fun _ => hw_522⟩
theorem fo_Rd_15 : pm_fok "TestText$Reader" 15 3 1 (.array (.byte)) true := ⟨"TestText$Reader", F_Rd, 6, t_Rd, "TestText$Reader", rfl, by decide, uw_Rd, ty_Rd, nm_Rd, by decide +kernel, rfl, Or.inl hw_523, Or.inl rfl, fun _ => hw_523⟩
theorem fo_Rd_24 : pm_fok "TestText$Reader" 24 3 2 (.object "TestText$Words") true := ⟨"TestText$Reader", F_Rd, 6, t_Rd, "TestText$Reader", rfl, by decide, uw_Rd, ty_Rd, nm_Rd, by decide +kernel, rfl, Or.inl hw_524, Or.inl rfl, fun _ => hw_524⟩
theorem fo_Rd_28 : pm_fok "TestText$Reader" 28 3 4 (.array (.int)) true := ⟨"TestText$Reader", F_Rd, 6, t_Rd, "TestText$Reader", rfl, by decide, uw_Rd, ty_Rd, nm_Rd, by decide +kernel, rfl, Or.inl hw_526, Or.inl rfl, fun _ => hw_526⟩
theorem fo_Rd_36 : pm_fok "TestText$Reader" 36 8 3 (.int) false := ⟨"TestText$Words", F_Wd, 4, t_Wd, "TestText$Words", rfl, by decide, uw_Wd, ty_Wd, nm_Wd, by decide +kernel, rfl, Or.inl hw_512, Or.inl rfl, fun _ => hw_512⟩
theorem fo_Rd_44 : pm_fok "TestText$Reader" 44 3 5 (.int) false := ⟨"TestText$Reader", F_Rd, 6, t_Rd, "TestText$Reader", rfl, by decide, uw_Rd, ty_Rd, nm_Rd, by decide +kernel, rfl, Or.inl hw_527, Or.inl rfl, fun _ => hw_527⟩
theorem fo_Rd_67 : pm_fok "TestText$Reader" 67 3 3 (.object "TestText$Test") false := ⟨"TestText$Reader", F_Rd, 6, t_Rd, "TestText$Reader", rfl, by decide, uw_Rd, ty_Rd, nm_Rd, by decide +kernel, rfl, Or.inl hw_525, Or.inl rfl, fun _ => hw_525⟩
theorem fo_Rd_70 : pm_fok "TestText$Reader" 70 6 2 (.int) false := ⟨"TestText$Test", F_Test, 9, t_Test, "TestText$Test", rfl, by decide, uw_Test, ty_Test, nm_Test, by decide +kernel, rfl, Or.inl hw_645, Or.inl rfl, fun _ => hw_645⟩
theorem fo_Rd_75 : pm_fok "TestText$Reader" 75 6 1 (.int) true := ⟨"TestText$Test", F_Test, 9, t_Test, "TestText$Test", rfl, by decide, uw_Test, ty_Test, nm_Test, by decide +kernel, rfl, Or.inl hw_641, Or.inl rfl, fun _ => hw_641⟩
theorem fo_Rd_84 : pm_fok "TestText$Reader" 84 1 3 (.object "java/util/ArrayList") true := ⟨"TestText$Plan", F_Plan, 6, t_Plan, "TestText$Plan", rfl, by decide, uw_Plan, ty_Plan, nm_Plan, by decide +kernel, rfl, Or.inl hw_79, Or.inl rfl, fun _ => hw_79⟩
theorem fo_Rd_118 : pm_fok "TestText$Reader" 118 1 1 (.int) false := ⟨"TestText$Plan", F_Plan, 6, t_Plan, "TestText$Plan", rfl, by decide, uw_Plan, ty_Plan, nm_Plan, by decide +kernel, rfl, Or.inl hw_73, Or.inl rfl, fun _ => hw_73⟩
theorem fo_Rd_121 : pm_fok "TestText$Reader" 121 1 0 (.array (.long)) true := ⟨"TestText$Plan", F_Plan, 6, t_Plan, "TestText$Plan", rfl, by decide, uw_Plan, ty_Plan, nm_Plan, by decide +kernel, rfl, Or.inl hw_71, Or.inl rfl, fun _ => hw_71⟩
theorem fo_Rd_125 : pm_fok "TestText$Reader" 125 1 2 (.object "java/util/ArrayList") true := ⟨"TestText$Plan", F_Plan, 6, t_Plan, "TestText$Plan", rfl, by decide, uw_Plan, ty_Plan, nm_Plan, by decide +kernel, rfl, Or.inl hw_75, Or.inl rfl, fun _ => hw_75⟩
theorem fo_Rd_135 : pm_fok "TestText$Reader" 135 5 7 (.int) false := ⟨"TestText$Step", F_Step, 9, t_Step, "TestText$Step", rfl, by decide, uw_Step, ty_Step, nm_Step, by decide +kernel, rfl, Or.inl hw_780, Or.inl rfl, fun _ => hw_780⟩
theorem fo_Rd_152 : pm_fok "TestText$Reader" 152 5 0 (.int) true := ⟨"TestText$Step", F_Step, 9, t_Step, "TestText$Step", rfl, by decide, uw_Step, ty_Step, nm_Step, by decide +kernel, rfl, Or.inl hw_761, Or.inl rfl, fun _ => hw_761⟩
theorem fo_Rd_162 : pm_fok "TestText$Reader" 162 5 4 (.int) false := ⟨"TestText$Step", F_Step, 9, t_Step, "TestText$Step", rfl, by decide, uw_Step, ty_Step, nm_Step, by decide +kernel, rfl, Or.inl hw_772, Or.inl rfl, fun _ => hw_772⟩
theorem fo_Rd_192 : pm_fok "TestText$Reader" 192 5 2 (.int) false := ⟨"TestText$Step", F_Step, 9, t_Step, "TestText$Step", rfl, by decide, uw_Step, ty_Step, nm_Step, by decide +kernel, rfl, Or.inl hw_767, Or.inl rfl, fun _ => hw_767⟩
theorem fo_Rd_200 : pm_fok "TestText$Reader" 200 5 5 (.int) false := ⟨"TestText$Step", F_Step, 9, t_Step, "TestText$Step", rfl, by decide, uw_Step, ty_Step, nm_Step, by decide +kernel, rfl, Or.inl hw_774, Or.inl rfl, fun _ => hw_774⟩
theorem fo_Rd_206 : pm_fok "TestText$Reader" 206 5 3 (.int) false := ⟨"TestText$Step", F_Step, 9, t_Step, "TestText$Step", rfl, by decide, uw_Step, ty_Step, nm_Step, by decide +kernel, rfl, Or.inl hw_769, Or.inl rfl, fun _ => hw_769⟩
theorem fo_Rd_213 : pm_fok "TestText$Reader" 213 5 6 (.array (.int)) false := ⟨"TestText$Step", F_Step, 9, t_Step, "TestText$Step", rfl, by decide, uw_Step, ty_Step, nm_Step, by decide +kernel, rfl, Or.inl hw_777, Or.inl rfl, fun _ => hw_777⟩
theorem fo_Rd_216 : pm_fok "TestText$Reader" 216 6 3 (.int) false := ⟨"TestText$Test", F_Test, 9, t_Test, "TestText$Test", rfl, by decide, uw_Test, ty_Test, nm_Test, by decide +kernel, rfl, Or.inl hw_649, Or.inl rfl, fun _ => hw_649⟩
theorem fo_Run_9 : pm_fok "TestText$Runner" 9 4 0 (.object "TestText$Plan") true := ⟨"TestText$Runner", F_Run, 10, t_Run, "TestText$Runner", rfl, by decide, uw_Run, ty_Run, nm_Run, by decide +kernel, rfl, Or.inl hw_242, Or.inl rfl, fun _ => hw_242⟩
theorem fo_Run_15 : pm_fok "TestText$Runner" 15 4 1 (.object "TestText$Answers") true := ⟨"TestText$Runner", F_Run, 10, t_Run, "TestText$Runner", rfl, by decide, uw_Run, ty_Run, nm_Run, by decide +kernel, rfl, Or.inl hw_243, Or.inl rfl, fun _ => hw_243⟩
theorem fo_Run_19 : pm_fok "TestText$Runner" 19 4 2 (.object "TestText$Trace") true := ⟨"TestText$Runner", F_Run, 10, t_Run, "TestText$Runner", rfl, by decide, uw_Run, ty_Run, nm_Run, by decide +kernel, rfl, Or.inl hw_244, Or.inl rfl, fun _ => hw_244⟩
theorem fo_Run_23 : pm_fok "TestText$Runner" 23 4 3 (.long) false := ⟨"TestText$Runner", F_Run, 10, t_Run, "TestText$Runner", rfl, by decide, uw_Run, ty_Run, nm_Run, by decide +kernel, rfl, Or.inl hw_245, Or.inl rfl, fun _ => hw_245⟩
theorem fo_Run_27 : pm_fok "TestText$Runner" 27 4 4 (.int) true := ⟨"TestText$Runner", F_Run, 10, t_Run, "TestText$Runner", rfl, by decide, uw_Run, ty_Run, nm_Run, by decide +kernel, rfl, Or.inl hw_246, Or.inl rfl, fun _ => hw_246⟩
theorem fo_Run_31 : pm_fok "TestText$Runner" 31 4 7 (.array (.int)) true := ⟨"TestText$Runner", F_Run, 10, t_Run, "TestText$Runner", rfl, by decide, uw_Run, ty_Run, nm_Run, by decide +kernel, rfl, Or.inl hw_249, Or.inl rfl, fun _ => hw_249⟩
theorem fo_Run_35 : pm_fok "TestText$Runner" 35 4 8 (.array (.int)) true := ⟨"TestText$Runner", F_Run, 10, t_Run, "TestText$Runner", rfl, by decide, uw_Run, ty_Run, nm_Run, by decide +kernel, rfl, Or.inl hw_250, Or.inl rfl, fun _ => hw_250⟩
theorem fo_Run_43 : pm_fok "TestText$Runner" 43 4 6 (.int) false := ⟨"TestText$Runner", F_Run, 10, t_Run, "TestText$Runner", rfl, by decide, uw_Run, ty_Run, nm_Run, by decide +kernel, rfl, Or.inl hw_248, Or.inl rfl, fun _ => hw_248⟩
theorem fo_Run_46 : pm_fok "TestText$Runner" 46 4 5 (.int) false := ⟨"TestText$Runner", F_Run, 10, t_Run, "TestText$Runner", rfl, by decide, uw_Run, ty_Run, nm_Run, by decide +kernel, rfl, Or.inl hw_247, Or.inl rfl, fun _ => hw_247⟩
theorem fo_Run_55 : pm_fok "TestText$Runner" 55 4 9 (.boolean) false := ⟨"TestText$Runner", F_Run, 10, t_Run, "TestText$Runner", rfl, by decide, uw_Run, ty_Run, nm_Run, by decide +kernel, rfl, Or.inl hw_251, Or.inl rfl, fun _ => hw_251⟩
theorem fo_Run_59 : pm_fok "TestText$Runner" 59 6 1 (.int) true := ⟨"TestText$Test", F_Test, 9, t_Test, "TestText$Test", rfl, by decide, uw_Test, ty_Test, nm_Test, by decide +kernel, rfl, Or.inl hw_640, Or.inl rfl, fun _ => hw_640⟩
theorem fo_Run_62 : pm_fok "TestText$Runner" 62 6 2 (.int) false := ⟨"TestText$Test", F_Test, 9, t_Test, "TestText$Test", rfl, by decide, uw_Test, ty_Test, nm_Test, by decide +kernel, rfl, Or.inl hw_644, Or.inl rfl, fun _ => hw_644⟩
theorem fo_Run_69 : pm_fok "TestText$Runner" 69 6 3 (.int) false := ⟨"TestText$Test", F_Test, 9, t_Test, "TestText$Test", rfl, by decide, uw_Test, ty_Test, nm_Test, by decide +kernel, rfl, Or.inl hw_648, Or.inl rfl, fun _ => hw_648⟩
theorem fo_Run_72 : pm_fok "TestText$Runner" 72 1 3 (.object "java/util/ArrayList") true := ⟨"TestText$Plan", F_Plan, 6, t_Plan, "TestText$Plan", rfl, by decide, uw_Plan, ty_Plan, nm_Plan, by decide +kernel, rfl, Or.inl hw_78, Or.inl rfl, fun _ => hw_78⟩
theorem fo_Run_84 : pm_fok "TestText$Runner" 84 6 5 (.int) false := ⟨"TestText$Test", F_Test, 9, t_Test, "TestText$Test", rfl, by decide, uw_Test, ty_Test, nm_Test, by decide +kernel, rfl, Or.inl hw_652, Or.inl rfl, fun _ => hw_652⟩
theorem fo_Run_93 : pm_fok "TestText$Runner" 93 5 7 (.int) false := ⟨"TestText$Step", F_Step, 9, t_Step, "TestText$Step", rfl, by decide, uw_Step, ty_Step, nm_Step, by decide +kernel, rfl, Or.inl hw_779, Or.inl rfl, fun _ => hw_779⟩
theorem fo_Run_94 : pm_fok "TestText$Runner" 94 6 6 (.int) false := ⟨"TestText$Test", F_Test, 9, t_Test, "TestText$Test", rfl, by decide, uw_Test, ty_Test, nm_Test, by decide +kernel, rfl, Or.inl hw_654, Or.inl rfl, fun _ => hw_654⟩
theorem fo_Run_97 : pm_fok "TestText$Runner" 97 6 8 (.int) false := ⟨"TestText$Test", F_Test, 9, t_Test, "TestText$Test", rfl, by decide, uw_Test, ty_Test, nm_Test, by decide +kernel, rfl, Or.inl hw_660, Or.inl rfl, fun _ => hw_660⟩
theorem fo_Run_119 : pm_fok "TestText$Runner" 119 5 0 (.int) true := ⟨"TestText$Step", F_Step, 9, t_Step, "TestText$Step", rfl, by decide, uw_Step, ty_Step, nm_Step, by decide +kernel, rfl, Or.inl hw_760, Or.inl rfl, fun _ => hw_760⟩
theorem fo_Run_132 : pm_fok "TestText$Runner" 132 5 4 (.int) false := ⟨"TestText$Step", F_Step, 9, t_Step, "TestText$Step", rfl, by decide, uw_Step, ty_Step, nm_Step, by decide +kernel, rfl, Or.inl hw_771, Or.inl rfl, fun _ => hw_771⟩
theorem fo_Run_135 : pm_fok "TestText$Runner" 135 5 6 (.array (.int)) false := ⟨"TestText$Step", F_Step, 9, t_Step, "TestText$Step", rfl, by decide, uw_Step, ty_Step, nm_Step, by decide +kernel, rfl, Or.inl hw_776, Or.inl rfl, fun _ => hw_776⟩
theorem fo_Run_150 : pm_fok "TestText$Runner" 150 7 3 (.int) false := ⟨"TestText$Trace", F_Tr, 7, t_Tr, "TestText$Trace", rfl, by decide, uw_Tr, ty_Tr, nm_Tr, by decide +kernel, rfl, Or.inl hw_210, Or.inl rfl, fun _ => hw_210⟩
theorem fo_Run_157 : pm_fok "TestText$Runner" 157 5 8 (.boolean) false := ⟨"TestText$Step", F_Step, 9, t_Step, "TestText$Step", rfl, by decide, uw_Step, ty_Step, nm_Step, by decide +kernel, rfl, Or.inl hw_782, Or.inl rfl, fun _ => hw_782⟩
theorem fo_Run_160 : pm_fok "TestText$Runner" 160 5 5 (.int) false := ⟨"TestText$Step", F_Step, 9, t_Step, "TestText$Step", rfl, by decide, uw_Step, ty_Step, nm_Step, by decide +kernel, rfl, Or.inl hw_773, Or.inl rfl, fun _ => hw_773⟩
theorem fo_Run_166 : pm_fok "TestText$Runner" 166 5 2 (.int) false := ⟨"TestText$Step", F_Step, 9, t_Step, "TestText$Step", rfl, by decide, uw_Step, ty_Step, nm_Step, by decide +kernel, rfl, Or.inl hw_766, Or.inl rfl, fun _ => hw_766⟩
theorem fo_Run_183 : pm_fok "TestText$Runner" 183 5 1 (.int) true := ⟨"TestText$Step", F_Step, 9, t_Step, "TestText$Step", rfl, by decide, uw_Step, ty_Step, nm_Step, by decide +kernel, rfl, Or.inl hw_763, Or.inl rfl, fun _ => hw_763⟩
theorem fo_Run_211 : pm_fok "TestText$Runner" 211 6 7 (.int) false := ⟨"TestText$Test", F_Test, 9, t_Test, "TestText$Test", rfl, by decide, uw_Test, ty_Test, nm_Test, by decide +kernel, rfl, Or.inl hw_659, Or.inl rfl, fun _ => hw_659⟩
theorem fo_Run_214 : pm_fok "TestText$Runner" 214 7 6 (.int) false := ⟨"TestText$Trace", F_Tr, 7, t_Tr, "TestText$Trace", rfl, by decide, uw_Tr, ty_Tr, nm_Tr, by decide +kernel, rfl, Or.inl hw_215, Or.inl rfl, fun _ => hw_215⟩
theorem fo_Step_7 : pm_fok "TestText$Step" 7 5 0 (.int) true := ⟨"TestText$Step", F_Step, 9, t_Step, "TestText$Step", rfl, by decide, uw_Step, ty_Step, nm_Step, by decide +kernel, rfl, Or.inl hw_759, Or.inl rfl, fun _ => hw_759⟩
theorem fo_Step_13 : pm_fok "TestText$Step" 13 5 1 (.int) true := ⟨"TestText$Step", F_Step, 9, t_Step, "TestText$Step", rfl, by decide, uw_Step, ty_Step, nm_Step, by decide +kernel, rfl, Or.inl hw_762, Or.inl rfl, fun _ => hw_762⟩
theorem fo_Step_16 : pm_fok "TestText$Step" 16 5 6 (.array (.int)) false := ⟨"TestText$Step", F_Step, 9, t_Step, "TestText$Step", rfl, by decide, uw_Step, ty_Step, nm_Step, by decide +kernel, rfl, Or.inl hw_775, Or.inl rfl, fun _ => hw_775⟩
theorem fo_Step_20 : pm_fok "TestText$Step" 20 5 7 (.int) false := ⟨"TestText$Step", F_Step, 9, t_Step, "TestText$Step", rfl, by decide, uw_Step, ty_Step, nm_Step, by decide +kernel, rfl, Or.inl hw_778, Or.inl rfl, fun _ => hw_778⟩
theorem fo_Step_23 : pm_fok "TestText$Step" 23 5 3 (.int) false := ⟨"TestText$Step", F_Step, 9, t_Step, "TestText$Step", rfl, by decide, uw_Step, ty_Step, nm_Step, by decide +kernel, rfl, Or.inl hw_768, Or.inl rfl, fun _ => hw_768⟩
theorem fo_Step_26 : pm_fok "TestText$Step" 26 5 4 (.int) false := ⟨"TestText$Step", F_Step, 9, t_Step, "TestText$Step", rfl, by decide, uw_Step, ty_Step, nm_Step, by decide +kernel, rfl, Or.inl hw_770, Or.inl rfl, fun _ => hw_770⟩
theorem fo_Test_9 : pm_fok "TestText$Test" 9 6 0 (.long) true := ⟨"TestText$Test", F_Test, 9, t_Test, "TestText$Test", rfl, by decide, uw_Test, ty_Test, nm_Test, by decide +kernel, rfl, Or.inl hw_637, Or.inl rfl, fun _ => hw_637⟩
theorem fo_Test_15 : pm_fok "TestText$Test" 15 6 1 (.int) true := ⟨"TestText$Test", F_Test, 9, t_Test, "TestText$Test", rfl, by decide, uw_Test, ty_Test, nm_Test, by decide +kernel, rfl, Or.inl hw_639, Or.inl rfl, fun _ => hw_639⟩
theorem fo_Test_19 : pm_fok "TestText$Test" 19 6 2 (.int) false := ⟨"TestText$Test", F_Test, 9, t_Test, "TestText$Test", rfl, by decide, uw_Test, ty_Test, nm_Test, by decide +kernel, rfl, Or.inl hw_643, Or.inl rfl, fun _ => hw_643⟩
theorem fo_Test_22 : pm_fok "TestText$Test" 22 6 3 (.int) false := ⟨"TestText$Test", F_Test, 9, t_Test, "TestText$Test", rfl, by decide, uw_Test, ty_Test, nm_Test, by decide +kernel, rfl, Or.inl hw_647, Or.inl rfl, fun _ => hw_647⟩
theorem fo_Test_25 : pm_fok "TestText$Test" 25 5 2 (.int) false := ⟨"TestText$Step", F_Step, 9, t_Step, "TestText$Step", rfl, by decide, uw_Step, ty_Step, nm_Step, by decide +kernel, rfl, Or.inl hw_764, Or.inl rfl, fun _ => hw_764⟩
theorem fo_Test_30 : pm_fok "TestText$Test" 30 6 4 (.int) false := ⟨"TestText$Test", F_Test, 9, t_Test, "TestText$Test", rfl, by decide, uw_Test, ty_Test, nm_Test, by decide +kernel, rfl, Or.inl hw_650, Or.inl rfl, fun _ => hw_650⟩
theorem fo_Test_33 : pm_fok "TestText$Test" 33 6 6 (.int) false := ⟨"TestText$Test", F_Test, 9, t_Test, "TestText$Test", rfl, by decide, uw_Test, ty_Test, nm_Test, by decide +kernel, rfl, Or.inl hw_655, Or.inl rfl, fun _ => hw_655⟩
theorem fo_Test_36 : pm_fok "TestText$Test" 36 6 7 (.int) false := ⟨"TestText$Test", F_Test, 9, t_Test, "TestText$Test", rfl, by decide, uw_Test, ty_Test, nm_Test, by decide +kernel, rfl, Or.inl hw_657, Or.inl rfl, fun _ => hw_657⟩
theorem fo_Test_39 : pm_fok "TestText$Test" 39 6 8 (.int) false := ⟨"TestText$Test", F_Test, 9, t_Test, "TestText$Test", rfl, by decide, uw_Test, ty_Test, nm_Test, by decide +kernel, rfl, Or.inl hw_661, Or.inl rfl, fun _ => hw_661⟩
theorem fo_Tr_9 : pm_fok "TestText$Trace" 9 7 0 (.array (.int)) true := ⟨"TestText$Trace", F_Tr, 7, t_Tr, "TestText$Trace", rfl, by decide, uw_Tr, ty_Tr, nm_Tr, by decide +kernel, rfl, Or.inl hw_203, Or.inl rfl, fun _ => hw_203⟩
theorem fo_Tr_15 : pm_fok "TestText$Trace" 15 7 1 (.array (.int)) true := ⟨"TestText$Trace", F_Tr, 7, t_Tr, "TestText$Trace", rfl, by decide, uw_Tr, ty_Tr, nm_Tr, by decide +kernel, rfl, Or.inl hw_205, Or.inl rfl, fun _ => hw_205⟩
theorem fo_Tr_18 : pm_fok "TestText$Trace" 18 7 2 (.array (.int)) true := ⟨"TestText$Trace", F_Tr, 7, t_Tr, "TestText$Trace", rfl, by decide, uw_Tr, ty_Tr, nm_Tr, by decide +kernel, rfl, Or.inl hw_207, Or.inl rfl, fun _ => hw_207⟩
theorem fo_Tr_21 : pm_fok "TestText$Trace" 21 7 4 (.array (.int)) true := ⟨"TestText$Trace", F_Tr, 7, t_Tr, "TestText$Trace", rfl, by decide, uw_Tr, ty_Tr, nm_Tr, by decide +kernel, rfl, Or.inl hw_212, Or.inl rfl, fun _ => hw_212⟩
theorem fo_Tr_24 : pm_fok "TestText$Trace" 24 7 6 (.int) false := ⟨"TestText$Trace", F_Tr, 7, t_Tr, "TestText$Trace", rfl, by decide, uw_Tr, ty_Tr, nm_Tr, by decide +kernel, rfl, Or.inl hw_214, Or.inl rfl, fun _ => hw_214⟩
theorem fo_Tr_28 : pm_fok "TestText$Trace" 28 7 3 (.int) false := ⟨"TestText$Trace", F_Tr, 7, t_Tr, "TestText$Trace", rfl, by decide, uw_Tr, ty_Tr, nm_Tr, by decide +kernel, rfl, Or.inl hw_209, Or.inl rfl, fun _ => hw_209⟩
theorem fo_Tr_31 : pm_fok "TestText$Trace" 31 7 5 (.int) false := ⟨"TestText$Trace", F_Tr, 7, t_Tr, "TestText$Trace", rfl, by decide, uw_Tr, ty_Tr, nm_Tr, by decide +kernel, rfl, Or.inl hw_213, Or.inl rfl, fun _ => hw_213⟩
theorem fo_Wd_9 : pm_fok "TestText$Words" 9 8 0 (.array (.byte)) true := ⟨"TestText$Words", F_Wd, 4, t_Wd, "TestText$Words", rfl, by decide, uw_Wd, ty_Wd, nm_Wd, by decide +kernel, rfl, Or.inl hw_508, Or.inl rfl, fun _ => hw_508⟩
theorem fo_Wd_15 : pm_fok "TestText$Words" 15 8 1 (.array (.int)) true := ⟨"TestText$Words", F_Wd, 4, t_Wd, "TestText$Words", rfl, by decide, uw_Wd, ty_Wd, nm_Wd, by decide +kernel, rfl, Or.inl hw_509, Or.inl rfl, fun _ => hw_509⟩
theorem fo_Wd_19 : pm_fok "TestText$Words" 19 8 2 (.array (.int)) true := ⟨"TestText$Words", F_Wd, 4, t_Wd, "TestText$Words", rfl, by decide, uw_Wd, ty_Wd, nm_Wd, by decide +kernel, rfl, Or.inl hw_510, Or.inl rfl, fun _ => hw_510⟩
theorem fo_Wd_22 : pm_fok "TestText$Words" 22 8 3 (.int) false := ⟨"TestText$Words", F_Wd, 4, t_Wd, "TestText$Words", rfl, by decide, uw_Wd, ty_Wd, nm_Wd, by decide +kernel, rfl, Or.inl hw_511, Or.inl rfl, fun _ => hw_511⟩
theorem fo_Mo_7 : pm_fok "TestTextModel" 7 9 2 (.array (.int)) true := ⟨"TestTextModel", F_Mo, 60, t_Mo, "TestTextModel", rfl, by decide, uw_Mo, ty_Mo, nm_Mo, by decide +kernel, rfl, Or.inl hw_951, Or.inl rfl, fun _ => hw_951⟩
theorem fo_Mo_13 : pm_fok "TestTextModel" 13 9 4 (.array (.int)) true := ⟨"TestTextModel", F_Mo, 60, t_Mo, "TestTextModel", rfl, by decide, uw_Mo, ty_Mo, nm_Mo, by decide +kernel, rfl, Or.inl hw_953, Or.inl rfl, fun _ => hw_953⟩
theorem fo_Mo_16 : pm_fok "TestTextModel" 16 9 12 (.array (.int)) true := ⟨"TestTextModel", F_Mo, 60, t_Mo, "TestTextModel", rfl, by decide, uw_Mo, ty_Mo, nm_Mo, by decide +kernel, rfl, Or.inl hw_961, Or.inl rfl, fun _ => hw_961⟩
theorem fo_Mo_19 : pm_fok "TestTextModel" 19 9 13 (.array (.int)) true := ⟨"TestTextModel", F_Mo, 60, t_Mo, "TestTextModel", rfl, by decide, uw_Mo, ty_Mo, nm_Mo, by decide +kernel, rfl, Or.inl hw_962, Or.inl rfl, fun _ => hw_962⟩
theorem fo_Mo_22 : pm_fok "TestTextModel" 22 9 15 (.array (.int)) true := ⟨"TestTextModel", F_Mo, 60, t_Mo, "TestTextModel", rfl, by decide, uw_Mo, ty_Mo, nm_Mo, by decide +kernel, rfl, Or.inl hw_964, Or.inl rfl, fun _ => hw_964⟩
theorem fo_Mo_25 : pm_fok "TestTextModel" 25 9 16 (.array (.int)) true := ⟨"TestTextModel", F_Mo, 60, t_Mo, "TestTextModel", rfl, by decide, uw_Mo, ty_Mo, nm_Mo, by decide +kernel, rfl, Or.inl hw_965, Or.inl rfl, fun _ => hw_965⟩
theorem fo_Mo_28 : pm_fok "TestTextModel" 28 9 17 (.array (.int)) true := ⟨"TestTextModel", F_Mo, 60, t_Mo, "TestTextModel", rfl, by decide, uw_Mo, ty_Mo, nm_Mo, by decide +kernel, rfl, Or.inl hw_966, Or.inl rfl, fun _ => hw_966⟩
theorem fo_Mo_31 : pm_fok "TestTextModel" 31 9 18 (.array (.int)) true := ⟨"TestTextModel", F_Mo, 60, t_Mo, "TestTextModel", rfl, by decide, uw_Mo, ty_Mo, nm_Mo, by decide +kernel, rfl, Or.inl hw_967, Or.inl rfl, fun _ => hw_967⟩
theorem fo_Mo_34 : pm_fok "TestTextModel" 34 9 19 (.array (.int)) true := ⟨"TestTextModel", F_Mo, 60, t_Mo, "TestTextModel", rfl, by decide, uw_Mo, ty_Mo, nm_Mo, by decide +kernel, rfl, Or.inl hw_968, Or.inl rfl, fun _ => hw_968⟩
theorem fo_Mo_37 : pm_fok "TestTextModel" 37 9 20 (.array (.int)) true := ⟨"TestTextModel", F_Mo, 60, t_Mo, "TestTextModel", rfl, by decide, uw_Mo, ty_Mo, nm_Mo, by decide +kernel, rfl, Or.inl hw_969, Or.inl rfl, fun _ => hw_969⟩
theorem fo_Mo_40 : pm_fok "TestTextModel" 40 9 21 (.array (.int)) true := ⟨"TestTextModel", F_Mo, 60, t_Mo, "TestTextModel", rfl, by decide, uw_Mo, ty_Mo, nm_Mo, by decide +kernel, rfl, Or.inl hw_970, Or.inl rfl, fun _ => hw_970⟩
theorem fo_Mo_43 : pm_fok "TestTextModel" 43 9 22 (.array (.long)) true := ⟨"TestTextModel", F_Mo, 60, t_Mo, "TestTextModel", rfl, by decide, uw_Mo, ty_Mo, nm_Mo, by decide +kernel, rfl, Or.inl hw_971, Or.inl rfl, fun _ => hw_971⟩
theorem fo_Mo_47 : pm_fok "TestTextModel" 47 9 24 (.array (.int)) true := ⟨"TestTextModel", F_Mo, 60, t_Mo, "TestTextModel", rfl, by decide, uw_Mo, ty_Mo, nm_Mo, by decide +kernel, rfl, Or.inl hw_973, Or.inl rfl, fun _ => hw_973⟩
theorem fo_Mo_50 : pm_fok "TestTextModel" 50 9 25 (.array (.int)) true := ⟨"TestTextModel", F_Mo, 60, t_Mo, "TestTextModel", rfl, by decide, uw_Mo, ty_Mo, nm_Mo, by decide +kernel, rfl, Or.inl hw_974, Or.inl rfl, fun _ => hw_974⟩
theorem fo_Mo_53 : pm_fok "TestTextModel" 53 9 26 (.array (.int)) true := ⟨"TestTextModel", F_Mo, 60, t_Mo, "TestTextModel", rfl, by decide, uw_Mo, ty_Mo, nm_Mo, by decide +kernel, rfl, Or.inl hw_975, Or.inl rfl, fun _ => hw_975⟩
theorem fo_Mo_56 : pm_fok "TestTextModel" 56 9 27 (.array (.long)) true := ⟨"TestTextModel", F_Mo, 60, t_Mo, "TestTextModel", rfl, by decide, uw_Mo, ty_Mo, nm_Mo, by decide +kernel, rfl, Or.inl hw_976, Or.inl rfl, fun _ => hw_976⟩
theorem fo_Mo_59 : pm_fok "TestTextModel" 59 9 28 (.array (.long)) true := ⟨"TestTextModel", F_Mo, 60, t_Mo, "TestTextModel", rfl, by decide, uw_Mo, ty_Mo, nm_Mo, by decide +kernel, rfl, Or.inl hw_977, Or.inl rfl, fun _ => hw_977⟩
theorem fo_Mo_62 : pm_fok "TestTextModel" 62 9 29 (.array (.int)) true := ⟨"TestTextModel", F_Mo, 60, t_Mo, "TestTextModel", rfl, by decide, uw_Mo, ty_Mo, nm_Mo, by decide +kernel, rfl, Or.inl hw_978, Or.inl rfl, fun _ => hw_978⟩
theorem fo_Mo_65 : pm_fok "TestTextModel" 65 9 30 (.array (.int)) true := ⟨"TestTextModel", F_Mo, 60, t_Mo, "TestTextModel", rfl, by decide, uw_Mo, ty_Mo, nm_Mo, by decide +kernel, rfl, Or.inl hw_979, Or.inl rfl, fun _ => hw_979⟩
theorem fo_Mo_68 : pm_fok "TestTextModel" 68 9 31 (.array (.int)) true := ⟨"TestTextModel", F_Mo, 60, t_Mo, "TestTextModel", rfl, by decide, uw_Mo, ty_Mo, nm_Mo, by decide +kernel, rfl, Or.inl hw_980, Or.inl rfl, fun _ => hw_980⟩
theorem fo_Mo_71 : pm_fok "TestTextModel" 71 9 32 (.array (.int)) true := ⟨"TestTextModel", F_Mo, 60, t_Mo, "TestTextModel", rfl, by decide, uw_Mo, ty_Mo, nm_Mo, by decide +kernel, rfl, Or.inl hw_981, Or.inl rfl, fun _ => hw_981⟩
theorem fo_Mo_74 : pm_fok "TestTextModel" 74 9 33 (.array (.boolean)) true := ⟨"TestTextModel", F_Mo, 60, t_Mo, "TestTextModel", rfl, by decide, uw_Mo, ty_Mo, nm_Mo, by decide +kernel, rfl, Or.inl hw_982, Or.inl rfl, fun _ => hw_982⟩
theorem fo_Mo_78 : pm_fok "TestTextModel" 78 9 35 (.array (.long)) true := ⟨"TestTextModel", F_Mo, 60, t_Mo, "TestTextModel", rfl, by decide, uw_Mo, ty_Mo, nm_Mo, by decide +kernel, rfl, Or.inl hw_984, Or.inl rfl, fun _ => hw_984⟩
theorem fo_Mo_81 : pm_fok "TestTextModel" 81 9 37 (.array (.int)) true := ⟨"TestTextModel", F_Mo, 60, t_Mo, "TestTextModel", rfl, by decide, uw_Mo, ty_Mo, nm_Mo, by decide +kernel, rfl, Or.inl hw_986, Or.inl rfl, fun _ => hw_986⟩
theorem fo_Mo_84 : pm_fok "TestTextModel" 84 9 39 (.array (.int)) true := ⟨"TestTextModel", F_Mo, 60, t_Mo, "TestTextModel", rfl, by decide, uw_Mo, ty_Mo, nm_Mo, by decide +kernel, rfl, Or.inl hw_988, Or.inl rfl, fun _ => hw_988⟩
theorem fo_Mo_87 : pm_fok "TestTextModel" 87 9 40 (.array (.long)) true := ⟨"TestTextModel", F_Mo, 60, t_Mo, "TestTextModel", rfl, by decide, uw_Mo, ty_Mo, nm_Mo, by decide +kernel, rfl, Or.inl hw_989, Or.inl rfl, fun _ => hw_989⟩
theorem fo_Mo_90 : pm_fok "TestTextModel" 90 9 41 (.array (.long)) true := ⟨"TestTextModel", F_Mo, 60, t_Mo, "TestTextModel", rfl, by decide, uw_Mo, ty_Mo, nm_Mo, by decide +kernel, rfl, Or.inl hw_990, Or.inl rfl, fun _ => hw_990⟩
theorem fo_Mo_93 : pm_fok "TestTextModel" 93 9 42 (.array (.boolean)) true := ⟨"TestTextModel", F_Mo, 60, t_Mo, "TestTextModel", rfl, by decide, uw_Mo, ty_Mo, nm_Mo, by decide +kernel, rfl, Or.inl hw_991, Or.inl rfl, fun _ => hw_991⟩
theorem fo_Mo_96 : pm_fok "TestTextModel" 96 9 43 (.long) false := ⟨"TestTextModel", F_Mo, 60, t_Mo, "TestTextModel", rfl, by decide, uw_Mo, ty_Mo, nm_Mo, by decide +kernel, rfl, Or.inl hw_992, Or.inl rfl, fun _ => hw_992⟩
theorem fo_Mo_100 : pm_fok "TestTextModel" 100 9 45 (.array (.int)) true := ⟨"TestTextModel", F_Mo, 60, t_Mo, "TestTextModel", rfl, by decide, uw_Mo, ty_Mo, nm_Mo, by decide +kernel, rfl, Or.inl hw_994, Or.inl rfl, fun _ => hw_994⟩
theorem fo_Mo_103 : pm_fok "TestTextModel" 103 9 46 (.array (.int)) true := ⟨"TestTextModel", F_Mo, 60, t_Mo, "TestTextModel", rfl, by decide, uw_Mo, ty_Mo, nm_Mo, by decide +kernel, rfl, Or.inl hw_995, Or.inl rfl, fun _ => hw_995⟩
theorem fo_Mo_106 : pm_fok "TestTextModel" 106 9 47 (.array (.long)) true := ⟨"TestTextModel", F_Mo, 60, t_Mo, "TestTextModel", rfl, by decide, uw_Mo, ty_Mo, nm_Mo, by decide +kernel, rfl, Or.inl hw_996, Or.inl rfl, fun _ => hw_996⟩
theorem fo_Mo_109 : pm_fok "TestTextModel" 109 9 48 (.array (.long)) true := ⟨"TestTextModel", F_Mo, 60, t_Mo, "TestTextModel", rfl, by decide, uw_Mo, ty_Mo, nm_Mo, by decide +kernel, rfl, Or.inl hw_997, Or.inl rfl, fun _ => hw_997⟩
theorem fo_Mo_112 : pm_fok "TestTextModel" 112 9 50 (.array (.int)) true := ⟨"TestTextModel", F_Mo, 60, t_Mo, "TestTextModel", rfl, by decide, uw_Mo, ty_Mo, nm_Mo, by decide +kernel, rfl, Or.inl hw_999, Or.inl rfl, fun _ => hw_999⟩
theorem fo_Mo_115 : pm_fok "TestTextModel" 115 9 56 (.array (.boolean)) true := ⟨"TestTextModel", F_Mo, 60, t_Mo, "TestTextModel", rfl, by decide, uw_Mo, ty_Mo, nm_Mo, by decide +kernel, rfl, Or.inl hw_1005, Or.inl rfl, fun _ => hw_1005⟩
theorem fo_Mo_118 : pm_fok "TestTextModel" 118 9 57 (.array (.long)) true := ⟨"TestTextModel", F_Mo, 60, t_Mo, "TestTextModel", rfl, by decide, uw_Mo, ty_Mo, nm_Mo, by decide +kernel, rfl, Or.inl hw_1006, Or.inl rfl, fun _ => hw_1006⟩
theorem fo_Mo_121 : pm_fok "TestTextModel" 121 9 58 (.array (.long)) true := ⟨"TestTextModel", F_Mo, 60, t_Mo, "TestTextModel", rfl, by decide, uw_Mo, ty_Mo, nm_Mo, by decide +kernel, rfl, Or.inl hw_1007, Or.inl rfl, fun _ => hw_1007⟩
theorem fo_Mo_124 : pm_fok "TestTextModel" 124 9 59 (.array (.int)) true := ⟨"TestTextModel", F_Mo, 60, t_Mo, "TestTextModel", rfl, by decide, uw_Mo, ty_Mo, nm_Mo, by decide +kernel, rfl, Or.inl hw_1008, Or.inl rfl, fun _ => hw_1008⟩
theorem fo_Mo_127 : pm_fok "TestTextModel" 127 9 0 (.int) false := ⟨"TestTextModel", F_Mo, 60, t_Mo, "TestTextModel", rfl, by decide, uw_Mo, ty_Mo, nm_Mo, by decide +kernel, rfl, Or.inl hw_949, Or.inl rfl, fun _ => hw_949⟩
theorem fo_Mo_131 : pm_fok "TestTextModel" 131 9 1 (.int) false := ⟨"TestTextModel", F_Mo, 60, t_Mo, "TestTextModel", rfl, by decide, uw_Mo, ty_Mo, nm_Mo, by decide +kernel, rfl, Or.inl hw_950, Or.inl rfl, fun _ => hw_950⟩
theorem fo_Mo_134 : pm_fok "TestTextModel" 134 9 5 (.int) false := ⟨"TestTextModel", F_Mo, 60, t_Mo, "TestTextModel", rfl, by decide, uw_Mo, ty_Mo, nm_Mo, by decide +kernel, rfl, Or.inl hw_954, Or.inl rfl, fun _ => hw_954⟩
theorem fo_Mo_137 : pm_fok "TestTextModel" 137 9 6 (.int) false := ⟨"TestTextModel", F_Mo, 60, t_Mo, "TestTextModel", rfl, by decide, uw_Mo, ty_Mo, nm_Mo, by decide +kernel, rfl, Or.inl hw_955, Or.inl rfl, fun _ => hw_955⟩
theorem fo_Mo_140 : pm_fok "TestTextModel" 140 9 7 (.int) false := ⟨"TestTextModel", F_Mo, 60, t_Mo, "TestTextModel", rfl, by decide, uw_Mo, ty_Mo, nm_Mo, by decide +kernel, rfl, Or.inl hw_956, Or.inl rfl, fun _ => hw_956⟩
theorem fo_Mo_143 : pm_fok "TestTextModel" 143 9 8 (.int) false := ⟨"TestTextModel", F_Mo, 60, t_Mo, "TestTextModel", rfl, by decide, uw_Mo, ty_Mo, nm_Mo, by decide +kernel, rfl, Or.inl hw_957, Or.inl rfl, fun _ => hw_957⟩
theorem fo_Mo_150 : pm_fok "TestTextModel" 150 9 9 (.long) false := ⟨"TestTextModel", F_Mo, 60, t_Mo, "TestTextModel", rfl, by decide, uw_Mo, ty_Mo, nm_Mo, by decide +kernel, rfl, Or.inl hw_958, Or.inl rfl, fun _ => hw_958⟩
theorem fo_Mo_157 : pm_fok "TestTextModel" 157 9 11 (.int) false := ⟨"TestTextModel", F_Mo, 60, t_Mo, "TestTextModel", rfl, by decide, uw_Mo, ty_Mo, nm_Mo, by decide +kernel, rfl, Or.inl hw_960, Or.inl rfl, fun _ => hw_960⟩
theorem fo_Mo_171 : pm_fok "TestTextModel" 171 9 14 (.int) false := ⟨"TestTextModel", F_Mo, 60, t_Mo, "TestTextModel", rfl, by decide, uw_Mo, ty_Mo, nm_Mo, by decide +kernel, rfl, Or.inl hw_963, Or.inl rfl, fun _ => hw_963⟩
theorem fo_Mo_174 : pm_fok "TestTextModel" 174 9 23 (.int) false := ⟨"TestTextModel", F_Mo, 60, t_Mo, "TestTextModel", rfl, by decide, uw_Mo, ty_Mo, nm_Mo, by decide +kernel, rfl, Or.inl hw_972, Or.inl rfl, fun _ => hw_972⟩
theorem fo_Mo_190 : pm_fok "TestTextModel" 190 9 36 (.int) false := ⟨"TestTextModel", F_Mo, 60, t_Mo, "TestTextModel", rfl, by decide, uw_Mo, ty_Mo, nm_Mo, by decide +kernel, rfl, Or.inl hw_985, Or.inl rfl, fun _ => hw_985⟩
theorem fo_Mo_220 : pm_fok "TestTextModel" 220 9 34 (.int) false := ⟨"TestTextModel", F_Mo, 60, t_Mo, "TestTextModel", rfl, by decide, uw_Mo, ty_Mo, nm_Mo, by decide +kernel, rfl, Or.inl hw_983, Or.inl rfl, fun _ => hw_983⟩
theorem fo_Mo_223 : pm_fok "TestTextModel" 223 9 3 (.int) false := ⟨"TestTextModel", F_Mo, 60, t_Mo, "TestTextModel", rfl, by decide, uw_Mo, ty_Mo, nm_Mo, by decide +kernel, rfl, Or.inl hw_952, Or.inl rfl, fun _ => hw_952⟩
theorem fo_Mo_229 : pm_fok "TestTextModel" 229 9 38 (.int) false := ⟨"TestTextModel", F_Mo, 60, t_Mo, "TestTextModel", rfl, by decide, uw_Mo, ty_Mo, nm_Mo, by decide +kernel, rfl, Or.inl hw_987, Or.inl rfl, fun _ => hw_987⟩
theorem fo_Mo_232 : pm_fok "TestTextModel" 232 9 44 (.int) false := ⟨"TestTextModel", F_Mo, 60, t_Mo, "TestTextModel", rfl, by decide, uw_Mo, ty_Mo, nm_Mo, by decide +kernel, rfl, Or.inl hw_993, Or.inl rfl, fun _ => hw_993⟩
theorem fo_Mo_238 : pm_fok "TestTextModel" 238 9 10 (.int) false := ⟨"TestTextModel", F_Mo, 60, t_Mo, "TestTextModel", rfl, by decide, uw_Mo, ty_Mo, nm_Mo, by decide +kernel, rfl, Or.inl hw_959, Or.inl rfl, fun _ => hw_959⟩
theorem fo_Mo_243 : pm_fok "TestTextModel" 243 9 52 (.long) false := ⟨"TestTextModel", F_Mo, 60, t_Mo, "TestTextModel", rfl, by decide, uw_Mo, ty_Mo, nm_Mo, by decide +kernel, rfl, Or.inl hw_1001, Or.inl rfl, fun _ => hw_1001⟩
theorem fo_Mo_253 : pm_fok "TestTextModel" 253 9 55 (.int) false := ⟨"TestTextModel", F_Mo, 60, t_Mo, "TestTextModel", rfl, by decide, uw_Mo, ty_Mo, nm_Mo, by decide +kernel, rfl, Or.inl hw_1004, Or.inl rfl, fun _ => hw_1004⟩
theorem fo_Mo_256 : pm_fok "TestTextModel" 256 9 54 (.int) false := ⟨"TestTextModel", F_Mo, 60, t_Mo, "TestTextModel", rfl, by decide, uw_Mo, ty_Mo, nm_Mo, by decide +kernel, rfl, Or.inl hw_1003, Or.inl rfl, fun _ => hw_1003⟩
theorem fo_Mo_266 : pm_fok "TestTextModel" 266 9 51 (.int) false := ⟨"TestTextModel", F_Mo, 60, t_Mo, "TestTextModel", rfl, by decide, uw_Mo, ty_Mo, nm_Mo, by decide +kernel, rfl, Or.inl hw_1000, Or.inl rfl, fun _ => hw_1000⟩
theorem fo_Mo_272 : pm_fok "TestTextModel" 272 9 53 (.long) false := ⟨"TestTextModel", F_Mo, 60, t_Mo, "TestTextModel", rfl, by decide, uw_Mo, ty_Mo, nm_Mo, by decide +kernel, rfl, Or.inl hw_1002, Or.inl rfl, fun _ => hw_1002⟩
theorem fo_Mo_298 : pm_fok "TestTextModel" 298 9 49 (.int) false := ⟨"TestTextModel", F_Mo, 60, t_Mo, "TestTextModel", rfl, by decide, uw_Mo, ty_Mo, nm_Mo, by decide +kernel, rfl, Or.inl hw_998, Or.inl rfl, fun _ => hw_998⟩
theorem fo_AbL_7 : pm_fok "java/util/AbstractList" 7 10 2 (.int) false := ⟨"java/util/ArrayList", F_AL, 3, t_AL, "java/util/AbstractList", rfl, by decide, uw_AL, ty_AL, nm_AL, by decide +kernel, rfl, Or.inl hw_58, Or.inl rfl, fun _ => hw_58⟩
theorem fo_AL_9 : pm_fok "java/util/ArrayList" 9 10 0 (.array (.object "java/lang/Object")) false := ⟨"java/util/ArrayList", F_AL, 3, t_AL, "java/util/ArrayList", rfl, by decide, uw_AL, ty_AL, nm_AL, by decide +kernel, rfl, Or.inl hw_56, Or.inl rfl, fun _ => hw_56⟩
theorem fo_AL_48 : pm_fok "java/util/ArrayList" 48 10 1 (.int) false := ⟨"java/util/ArrayList", F_AL, 3, t_AL, "java/util/ArrayList", rfl, by decide, uw_AL, ty_AL, nm_AL, by decide +kernel, rfl, Or.inl hw_57, Or.inl rfl, fun _ => hw_57⟩
theorem fo_AL_63 : pm_fok "java/util/ArrayList" 63 10 2 (.int) false := ⟨"java/util/ArrayList", F_AL, 3, t_AL, "java/util/ArrayList", rfl, by decide, uw_AL, ty_AL, nm_AL, by decide +kernel, rfl, Or.inl hw_59, Or.inr hw_60, fun _ => hw_59⟩
theorem no_TT_17 : pm_nok "TestText" 17 1 6 [.null, .int 0, .null, .null, .null, .int 0] := ⟨"TestText$Plan", F_Plan, t_Plan, rfl, uw_Plan, ty_Plan, by decide +kernel, hw_36, hw_37, hw_2⟩
theorem no_TT_27 : pm_nok "TestText" 27 2 4 [.null, .null, .int 0, .int 0] := ⟨"TestText$Answers", F_Ans, t_Ans, rfl, uw_Ans, ty_Ans, by decide +kernel, hw_97, hw_98, hw_6⟩
theorem no_TT_41 : pm_nok "TestText" 41 7 7 [.null, .null, .null, .int 0, .null, .int 0, .int 0] := ⟨"TestText$Trace", F_Tr, t_Tr, rfl, uw_Tr, ty_Tr, by decide +kernel, hw_117, hw_198, hw_26⟩
theorem no_TT_57 : pm_nok "TestText" 57 3 6 [.null, .null, .null, .null, .null, .int 0] := ⟨"TestText$Reader", F_Rd, t_Rd, rfl, uw_Rd, ty_Rd, by decide +kernel, hw_496, hw_497, hw_8⟩
theorem no_TT_114 : pm_nok "TestText" 114 4 10 [.null, .null, .null, .long 0, .int 0, .int 0, .int 0, .null, .null, .int 0] := ⟨"TestText$Runner", F_Run, t_Run, rfl, uw_Run, ty_Run, by decide +kernel, hw_236, hw_237, hw_27⟩
theorem no_TT_123 : pm_nok "TestText" 123 6 9 [.long 0, .int 0, .int 0, .int 0, .int 0, .int 0, .int 0, .int 0, .int 0] := ⟨"TestText$Test", F_Test, t_Test, rfl, uw_Test, ty_Test, by decide +kernel, hw_291, hw_632, hw_15⟩
theorem no_Plan_15 : pm_nok "TestText$Plan" 15 10 3 [.null, .int 0, .int 0] := ⟨"java/util/ArrayList", F_AL, t_AL, rfl, uw_AL, ty_AL, by decide +kernel, hw_42, hw_43, hw_5⟩
theorem no_Plan_41 : pm_nok "TestText$Plan" 41 6 9 [.long 0, .int 0, .int 0, .int 0, .int 0, .int 0, .int 0, .int 0, .int 0] := ⟨"TestText$Test", F_Test, t_Test, rfl, uw_Test, ty_Test, by decide +kernel, hw_406, hw_632, hw_15⟩
theorem no_Plan_57 : pm_nok "TestText$Plan" 57 5 9 [.int 0, .int 0, .int 0, .int 0, .int 0, .int 0, .null, .int 0, .int 0] := ⟨"TestText$Step", F_Step, t_Step, rfl, uw_Step, ty_Step, by decide +kernel, hw_450, hw_742, hw_20⟩
theorem no_Rd_19 : pm_nok "TestText$Reader" 19 8 4 [.null, .null, .null, .int 0] := ⟨"TestText$Words", F_Wd, t_Wd, rfl, uw_Wd, ty_Wd, by decide +kernel, hw_502, hw_503, hw_9⟩
theorem no_Rd_71 : pm_nok "TestText$Reader" 71 6 9 [.long 0, .int 0, .int 0, .int 0, .int 0, .int 0, .int 0, .int 0, .int 0] := ⟨"TestText$Test", F_Test, t_Test, rfl, uw_Test, ty_Test, by decide +kernel, hw_631, hw_632, hw_15⟩
theorem no_Rd_78 : pm_nok "TestText$Reader" 78 5 9 [.int 0, .int 0, .int 0, .int 0, .int 0, .int 0, .null, .int 0, .int 0] := ⟨"TestText$Step", F_Step, t_Step, rfl, uw_Step, ty_Step, by decide +kernel, hw_741, hw_742, hw_20⟩
theorem no_Run_91 : pm_nok "TestText$Runner" 91 5 9 [.int 0, .int 0, .int 0, .int 0, .int 0, .int 0, .null, .int 0, .int 0] := ⟨"TestText$Step", F_Step, t_Step, rfl, uw_Step, ty_Step, by decide +kernel, hw_312, hw_742, hw_20⟩
theorem no_Law_8 : pm_nok "TestTextLaw" 8 0 9 [.null, .int 0, .null, .int 0, .null, .int 0, .long 0, .null, .int 0] := ⟨"TestText", F_TT, t_TT, rfl, uw_TT, ty_TT, by decide +kernel, hw_28, hw_29, hw_1⟩
theorem no_Law_16 : pm_nok "TestTextLaw" 16 9 60 [.int 0, .int 0, .null, .int 0, .null, .int 0, .int 0, .int 0, .int 0, .long 0, .int 0, .int 0, .null, .null, .int 0, .null, .null, .null, .null, .null, .null, .null, .null, .int 0, .null, .null, .null, .null, .null, .null, .null, .null, .null, .null, .int 0, .null, .int 0, .null, .int 0, .null, .null, .null, .null, .long 0, .int 0, .null, .null, .null, .null, .int 0, .null, .int 0, .long 0, .long 0, .int 0, .int 0, .null, .null, .null, .null] := ⟨"TestTextModel", F_Mo, t_Mo, rfl, uw_Mo, ty_Mo, by decide +kernel, hw_943, hw_944, hw_7⟩
theorem ck_TT_init : pm_ck m_TT_init 0 := ⟨hw_32, hw_1, ⟨by decide +kernel, by decide +kernel, by decide +kernel⟩, by decide⟩
theorem im_TT_init : Cond.instanceMethod m_TT_init.1 ∈ pm_WS := hw_31
theorem ck_Plan_init : pm_ck m_Plan_init 0 := ⟨hw_40, hw_2, ⟨by decide +kernel, by decide +kernel, by decide +kernel⟩, by decide⟩
theorem im_Plan_init : Cond.instanceMethod m_Plan_init.1 ∈ pm_WS := hw_39
theorem ck_AL_init : pm_ck m_AL_init 0 := ⟨hw_46, hw_5, ⟨by decide +kernel, by decide +kernel, by decide +kernel⟩, by decide⟩
theorem im_AL_init : Cond.instanceMethod m_AL_init.1 ∈ pm_WS := hw_45
theorem ck_AbL_init : pm_ck m_AbL_init 0 := ⟨hw_49, hw_4, ⟨by decide +kernel, by decide +kernel, by decide +kernel⟩, by decide⟩
theorem im_AbL_init : Cond.instanceMethod m_AbL_init.1 ∈ pm_WS := hw_48
theorem ck_AbC_init : pm_ck m_AbC_init 0 := ⟨hw_52, hw_3, ⟨by decide +kernel, by decide +kernel, by decide +kernel⟩, by decide⟩
theorem im_AbC_init : Cond.instanceMethod m_AbC_init.1 ∈ pm_WS := hw_51
theorem ck_Ans_init : pm_ck m_Ans_init 0 := ⟨hw_101, hw_6, ⟨by decide +kernel, by decide +kernel, by decide +kernel⟩, by decide⟩
theorem im_Ans_init : Cond.instanceMethod m_Ans_init.1 ∈ pm_WS := hw_100
theorem ck_TT_sign : pm_ck m_TT_sign 1 := ⟨hw_150, hw_1, ⟨by decide +kernel, by decide +kernel, by decide +kernel⟩, by decide⟩
theorem im_TT_sign : Cond.instanceMethod m_TT_sign.1 ∈ pm_WS := hw_148
theorem se_TT_sign : Cond.selects "TestText" m_TT_sign.1 m_TT_sign.1 ∈ pm_WS := hw_149
theorem ck_TT_addSign : pm_ck m_TT_addSign 1 := ⟨hw_154, hw_1, ⟨by decide +kernel, by decide +kernel, by decide +kernel⟩, by decide⟩
theorem im_TT_addSign : Cond.instanceMethod m_TT_addSign.1 ∈ pm_WS := hw_153
theorem se_TT_addSign : Cond.selects "TestText" m_TT_addSign.1 m_TT_addSign.1 ∈ pm_WS := hw_sel (q := (m_TT_addSign.1, 9)) (by decide +kernel)
theorem ck_TT_wrong : pm_ck m_TT_wrong 0 := ⟨hw_158, hw_1, ⟨by decide +kernel, by decide +kernel, by decide +kernel⟩, by decide⟩
theorem im_TT_wrong : Cond.instanceMethod m_TT_wrong.1 ∈ pm_WS := hw_156
theorem se_TT_wrong : Cond.selects "TestText" m_TT_wrong.1 m_TT_wrong.1 ∈ pm_WS := hw_157
theorem ck_TT_answer : pm_ck m_TT_answer 3 := ⟨hw_162, hw_1, ⟨by decide +kernel, by decide +kernel, by decide +kernel⟩, by decide⟩
theorem im_TT_answer : Cond.instanceMethod m_TT_answer.1 ∈ pm_WS := hw_160
theorem se_TT_answer : Cond.selects "TestText" m_TT_answer.1 m_TT_answer.1 ∈ pm_WS := hw_161
theorem ck_Plan_hasValue : pm_ck m_Plan_hasValue 1 := ⟨hw_166, hw_2, ⟨by decide +kernel, by decide +kernel, by decide +kernel⟩, by decide⟩
theorem im_Plan_hasValue : Cond.instanceMethod m_Plan_hasValue.1 ∈ pm_WS := hw_164
theorem se_Plan_hasValue : Cond.selects "TestText$Plan" m_Plan_hasValue.1 m_Plan_hasValue.1 ∈ pm_WS := hw_165
theorem ck_Ans_tell : pm_ck m_Ans_tell 3 := ⟨hw_173, hw_6, ⟨by decide +kernel, by decide +kernel, by decide +kernel⟩, by decide⟩
theorem im_Ans_tell : Cond.instanceMethod m_Ans_tell.1 ∈ pm_WS := hw_171
theorem se_Ans_tell : Cond.selects "TestText$Answers" m_Ans_tell.1 m_Ans_tell.1 ∈ pm_WS := hw_172
theorem ck_Ans_keyOf : pm_ck m_Ans_keyOf 2 := ⟨hw_176, hw_6, ⟨by decide +kernel, by decide +kernel, by decide +kernel⟩, by decide⟩
theorem sm_Ans_keyOf : Cond.static m_Ans_keyOf.1 ∈ pm_WS := hw_175
theorem ck_Ans_countUpTo : pm_ck m_Ans_countUpTo 1 := ⟨hw_182, hw_6, ⟨by decide +kernel, by decide +kernel, by decide +kernel⟩, by decide⟩
theorem im_Ans_countUpTo : Cond.instanceMethod m_Ans_countUpTo.1 ∈ pm_WS := hw_181
theorem se_Ans_countUpTo : Cond.selects "TestText$Answers" m_Ans_countUpTo.1 m_Ans_countUpTo.1 ∈ pm_WS := hw_sel (q := (m_Ans_countUpTo.1, 4)) (by decide +kernel)
theorem ck_TT_run : pm_ck m_TT_run 0 := ⟨hw_189, hw_1, ⟨by decide +kernel, by decide +kernel, by decide +kernel⟩, by decide⟩
theorem im_TT_run : Cond.instanceMethod m_TT_run.1 ∈ pm_WS := hw_187
theorem se_TT_run : Cond.selects "TestText" m_TT_run.1 m_TT_run.1 ∈ pm_WS := hw_188
theorem ck_AL_isEmpty : pm_ck m_AL_isEmpty 0 := ⟨hw_193, hw_5, ⟨by decide +kernel, by decide +kernel, by decide +kernel⟩, by decide⟩
theorem im_AL_isEmpty : Cond.instanceMethod m_AL_isEmpty.1 ∈ pm_WS := hw_191
theorem se_AL_isEmpty : Cond.selects "java/util/ArrayList" m_AL_isEmpty.1 m_AL_isEmpty.1 ∈ pm_WS := hw_192
theorem ck_TT_beginTrace : pm_ck m_TT_beginTrace 0 := ⟨hw_197, hw_1, ⟨by decide +kernel, by decide +kernel, by decide +kernel⟩, by decide⟩
theorem im_TT_beginTrace : Cond.instanceMethod m_TT_beginTrace.1 ∈ pm_WS := hw_196
theorem se_TT_beginTrace : Cond.selects "TestText" m_TT_beginTrace.1 m_TT_beginTrace.1 ∈ pm_WS := hw_sel (q := (m_TT_beginTrace.1, 9)) (by decide +kernel)
theorem ck_Tr_init : pm_ck m_Tr_init 0 := ⟨hw_201, hw_26, ⟨by decide +kernel, by decide +kernel, by decide +kernel⟩, by decide⟩
theorem im_Tr_init : Cond.instanceMethod m_Tr_init.1 ∈ pm_WS := hw_200
theorem ck_Tr_forget : pm_ck m_Tr_forget 0 := ⟨hw_235, hw_26, ⟨by decide +kernel, by decide +kernel, by decide +kernel⟩, by decide⟩
theorem im_Tr_forget : Cond.instanceMethod m_Tr_forget.1 ∈ pm_WS := hw_233
theorem se_Tr_forget : Cond.selects "TestText$Trace" m_Tr_forget.1 m_Tr_forget.1 ∈ pm_WS := hw_234
theorem ck_Run_init : pm_ck m_Run_init 5 := ⟨hw_240, hw_27, ⟨by decide +kernel, by decide +kernel, by decide +kernel⟩, by decide⟩
theorem im_Run_init : Cond.instanceMethod m_Run_init.1 ∈ pm_WS := hw_239
theorem ck_AL_size : pm_ck m_AL_size 0 := ⟨hw_276, hw_5, ⟨by decide +kernel, by decide +kernel, by decide +kernel⟩, by decide⟩
theorem im_AL_size : Cond.instanceMethod m_AL_size.1 ∈ pm_WS := hw_274
theorem se_AL_size : Cond.selects "java/util/ArrayList" m_AL_size.1 m_AL_size.1 ∈ pm_WS := hw_275
theorem ck_AL_get : pm_ck m_AL_get 1 := ⟨hw_280, hw_5, ⟨by decide +kernel, by decide +kernel, by decide +kernel⟩, by decide⟩
theorem im_AL_get : Cond.instanceMethod m_AL_get.1 ∈ pm_WS := hw_278
theorem se_AL_get : Cond.selects "java/util/ArrayList" m_AL_get.1 m_AL_get.1 ∈ pm_WS := hw_279
theorem ck_Objs_checkIndex : pm_ck m_Objs_checkIndex 2 := ⟨hw_283, hw_14, ⟨by decide +kernel, by decide +kernel, by decide +kernel⟩, by decide⟩
theorem sm_Objs_checkIndex : Cond.static m_Objs_checkIndex.1 ∈ pm_WS := hw_282
theorem ck_Prec_checkIndex : pm_ck m_Prec_checkIndex 3 := ⟨hw_286, hw_12, ⟨by decide +kernel, by decide +kernel, by decide +kernel⟩, by decide⟩
theorem sm_Prec_checkIndex : Cond.static m_Prec_checkIndex.1 ∈ pm_WS := hw_285
theorem ck_AL_elementData : pm_ck m_AL_elementData 1 := ⟨hw_290, hw_5, ⟨by decide +kernel, by decide +kernel, by decide +kernel⟩, by decide⟩
theorem im_AL_elementData : Cond.instanceMethod m_AL_elementData.1 ∈ pm_WS := hw_288
theorem se_AL_elementData : Cond.selects "java/util/ArrayList" m_AL_elementData.1 m_AL_elementData.1 ∈ pm_WS := hw_289
theorem ck_Run_doTest : pm_ck m_Run_doTest 1 := ⟨hw_295, hw_27, ⟨by decide +kernel, by decide +kernel, by decide +kernel⟩, by decide⟩
theorem im_Run_doTest : Cond.instanceMethod m_Run_doTest.1 ∈ pm_WS := hw_293
theorem se_Run_doTest : Cond.selects "TestText$Runner" m_Run_doTest.1 m_Run_doTest.1 ∈ pm_WS := hw_294
theorem ck_Test_beginAnew : pm_ck m_Test_beginAnew 0 := ⟨hw_299, hw_15, ⟨by decide +kernel, by decide +kernel, by decide +kernel⟩, by decide⟩
theorem im_Test_beginAnew : Cond.instanceMethod m_Test_beginAnew.1 ∈ pm_WS := hw_297
theorem se_Test_beginAnew : Cond.selects "TestText$Test" m_Test_beginAnew.1 m_Test_beginAnew.1 ∈ pm_WS := hw_298
theorem ck_Arrs_fill : pm_ck m_Arrs_fill 2 := ⟨hw_302, hw_18, ⟨by decide +kernel, by decide +kernel, by decide +kernel⟩, by decide⟩
theorem sm_Arrs_fill : Cond.static m_Arrs_fill.1 ∈ pm_WS := hw_301
theorem ck_Run_doSteps : pm_ck m_Run_doSteps 4 := ⟨hw_306, hw_27, ⟨by decide +kernel, by decide +kernel, by decide +kernel⟩, by decide⟩
theorem im_Run_doSteps : Cond.instanceMethod m_Run_doSteps.1 ∈ pm_WS := hw_305
theorem se_Run_doSteps : Cond.selects "TestText$Runner" m_Run_doSteps.1 m_Run_doSteps.1 ∈ pm_WS := hw_sel (q := (m_Run_doSteps.1, 10)) (by decide +kernel)
theorem ck_Math_min : pm_ck m_Math_min 2 := ⟨hw_310, hw_17, ⟨by decide +kernel, by decide +kernel, by decide +kernel⟩, by decide⟩
theorem sm_Math_min : Cond.static m_Math_min.1 ∈ pm_WS := hw_309
theorem ck_Run_doStep : pm_ck m_Run_doStep 2 := ⟨hw_316, hw_27, ⟨by decide +kernel, by decide +kernel, by decide +kernel⟩, by decide⟩
theorem im_Run_doStep : Cond.instanceMethod m_Run_doStep.1 ∈ pm_WS := hw_315
theorem se_Run_doStep : Cond.selects "TestText$Runner" m_Run_doStep.1 m_Run_doStep.1 ∈ pm_WS := hw_sel (q := (m_Run_doStep.1, 10)) (by decide +kernel)
theorem ck_Run_mayBegin : pm_ck m_Run_mayBegin 1 := ⟨hw_320, hw_27, ⟨by decide +kernel, by decide +kernel, by decide +kernel⟩, by decide⟩
theorem im_Run_mayBegin : Cond.instanceMethod m_Run_mayBegin.1 ∈ pm_WS := hw_319
theorem se_Run_mayBegin : Cond.selects "TestText$Runner" m_Run_mayBegin.1 m_Run_mayBegin.1 ∈ pm_WS := hw_sel (q := (m_Run_mayBegin.1, 10)) (by decide +kernel)
theorem ck_Tr_isFull : pm_ck m_Tr_isFull 0 := ⟨hw_324, hw_26, ⟨by decide +kernel, by decide +kernel, by decide +kernel⟩, by decide⟩
theorem im_Tr_isFull : Cond.instanceMethod m_Tr_isFull.1 ∈ pm_WS := hw_322
theorem se_Tr_isFull : Cond.selects "TestText$Trace" m_Tr_isFull.1 m_Tr_isFull.1 ∈ pm_WS := hw_323
theorem ck_Run_leave : pm_ck m_Run_leave 4 := ⟨hw_328, hw_27, ⟨by decide +kernel, by decide +kernel, by decide +kernel⟩, by decide⟩
theorem im_Run_leave : Cond.instanceMethod m_Run_leave.1 ∈ pm_WS := hw_327
theorem se_Run_leave : Cond.selects "TestText$Runner" m_Run_leave.1 m_Run_leave.1 ∈ pm_WS := hw_sel (q := (m_Run_leave.1, 10)) (by decide +kernel)
theorem ck_Run_setValue : pm_ck m_Run_setValue 2 := ⟨hw_332, hw_27, ⟨by decide +kernel, by decide +kernel, by decide +kernel⟩, by decide⟩
theorem im_Run_setValue : Cond.instanceMethod m_Run_setValue.1 ∈ pm_WS := hw_331
theorem se_Run_setValue : Cond.selects "TestText$Runner" m_Run_setValue.1 m_Run_setValue.1 ∈ pm_WS := hw_sel (q := (m_Run_setValue.1, 10)) (by decide +kernel)
theorem ck_Run_pass : pm_ck m_Run_pass 2 := ⟨hw_336, hw_27, ⟨by decide +kernel, by decide +kernel, by decide +kernel⟩, by decide⟩
theorem im_Run_pass : Cond.instanceMethod m_Run_pass.1 ∈ pm_WS := hw_335
theorem se_Run_pass : Cond.selects "TestText$Runner" m_Run_pass.1 m_Run_pass.1 ∈ pm_WS := hw_sel (q := (m_Run_pass.1, 10)) (by decide +kernel)
theorem ck_Tr_add : pm_ck m_Tr_add 3 := ⟨hw_340, hw_26, ⟨by decide +kernel, by decide +kernel, by decide +kernel⟩, by decide⟩
theorem im_Tr_add : Cond.instanceMethod m_Tr_add.1 ∈ pm_WS := hw_338
theorem se_Tr_add : Cond.selects "TestText$Trace" m_Tr_add.1 m_Tr_add.1 ∈ pm_WS := hw_339
theorem ck_Run_draw : pm_ck m_Run_draw 2 := ⟨hw_345, hw_27, ⟨by decide +kernel, by decide +kernel, by decide +kernel⟩, by decide⟩
theorem im_Run_draw : Cond.instanceMethod m_Run_draw.1 ∈ pm_WS := hw_344
theorem se_Run_draw : Cond.selects "TestText$Runner" m_Run_draw.1 m_Run_draw.1 ∈ pm_WS := hw_sel (q := (m_Run_draw.1, 10)) (by decide +kernel)
theorem ck_Math_max : pm_ck m_Math_max 2 := ⟨hw_351, hw_17, ⟨by decide +kernel, by decide +kernel, by decide +kernel⟩, by decide⟩
theorem sm_Math_max : Cond.static m_Math_max.1 ∈ pm_WS := hw_350
theorem ck_Run_valueNow : pm_ck m_Run_valueNow 1 := ⟨hw_355, hw_27, ⟨by decide +kernel, by decide +kernel, by decide +kernel⟩, by decide⟩
theorem im_Run_valueNow : Cond.instanceMethod m_Run_valueNow.1 ∈ pm_WS := hw_354
theorem se_Run_valueNow : Cond.selects "TestText$Runner" m_Run_valueNow.1 m_Run_valueNow.1 ∈ pm_WS := hw_sel (q := (m_Run_valueNow.1, 10)) (by decide +kernel)
theorem ck_Ans_lastWithin : pm_ck m_Ans_lastWithin 3 := ⟨hw_360, hw_6, ⟨by decide +kernel, by decide +kernel, by decide +kernel⟩, by decide⟩
theorem im_Ans_lastWithin : Cond.instanceMethod m_Ans_lastWithin.1 ∈ pm_WS := hw_358
theorem se_Ans_lastWithin : Cond.selects "TestText$Answers" m_Ans_lastWithin.1 m_Ans_lastWithin.1 ∈ pm_WS := hw_359
theorem ck_Run_doWait : pm_ck m_Run_doWait 3 := ⟨hw_365, hw_27, ⟨by decide +kernel, by decide +kernel, by decide +kernel⟩, by decide⟩
theorem im_Run_doWait : Cond.instanceMethod m_Run_doWait.1 ∈ pm_WS := hw_364
theorem se_Run_doWait : Cond.selects "TestText$Runner" m_Run_doWait.1 m_Run_doWait.1 ∈ pm_WS := hw_sel (q := (m_Run_doWait.1, 10)) (by decide +kernel)
theorem ck_Step_holds : pm_ck m_Step_holds 1 := ⟨hw_369, hw_20, ⟨by decide +kernel, by decide +kernel, by decide +kernel⟩, by decide⟩
theorem im_Step_holds : Cond.instanceMethod m_Step_holds.1 ∈ pm_WS := hw_367
theorem se_Step_holds : Cond.selects "TestText$Step" m_Step_holds.1 m_Step_holds.1 ∈ pm_WS := hw_368
theorem ck_Ans_firstHolding : pm_ck m_Ans_firstHolding 3 := ⟨hw_373, hw_6, ⟨by decide +kernel, by decide +kernel, by decide +kernel⟩, by decide⟩
theorem im_Ans_firstHolding : Cond.instanceMethod m_Ans_firstHolding.1 ∈ pm_WS := hw_371
theorem se_Ans_firstHolding : Cond.selects "TestText$Answers" m_Ans_firstHolding.1 m_Ans_firstHolding.1 ∈ pm_WS := hw_372
theorem ck_Run_doCheck : pm_ck m_Run_doCheck 3 := ⟨hw_378, hw_27, ⟨by decide +kernel, by decide +kernel, by decide +kernel⟩, by decide⟩
theorem im_Run_doCheck : Cond.instanceMethod m_Run_doCheck.1 ∈ pm_WS := hw_377
theorem se_Run_doCheck : Cond.selects "TestText$Runner" m_Run_doCheck.1 m_Run_doCheck.1 ∈ pm_WS := hw_sel (q := (m_Run_doCheck.1, 10)) (by decide +kernel)
theorem ck_Run_doLoop : pm_ck m_Run_doLoop 4 := ⟨hw_382, hw_27, ⟨by decide +kernel, by decide +kernel, by decide +kernel⟩, by decide⟩
theorem im_Run_doLoop : Cond.instanceMethod m_Run_doLoop.1 ∈ pm_WS := hw_381
theorem se_Run_doLoop : Cond.selects "TestText$Runner" m_Run_doLoop.1 m_Run_doLoop.1 ∈ pm_WS := hw_sel (q := (m_Run_doLoop.1, 10)) (by decide +kernel)
theorem ck_Run_doCases : pm_ck m_Run_doCases 4 := ⟨hw_386, hw_27, ⟨by decide +kernel, by decide +kernel, by decide +kernel⟩, by decide⟩
theorem im_Run_doCases : Cond.instanceMethod m_Run_doCases.1 ∈ pm_WS := hw_385
theorem se_Run_doCases : Cond.selects "TestText$Runner" m_Run_doCases.1 m_Run_doCases.1 ∈ pm_WS := hw_sel (q := (m_Run_doCases.1, 10)) (by decide +kernel)
theorem ck_Run_undoFaults : pm_ck m_Run_undoFaults 0 := ⟨hw_390, hw_27, ⟨by decide +kernel, by decide +kernel, by decide +kernel⟩, by decide⟩
theorem im_Run_undoFaults : Cond.instanceMethod m_Run_undoFaults.1 ∈ pm_WS := hw_389
theorem se_Run_undoFaults : Cond.selects "TestText$Runner" m_Run_undoFaults.1 m_Run_undoFaults.1 ∈ pm_WS := hw_sel (q := (m_Run_undoFaults.1, 10)) (by decide +kernel)
theorem ck_Tr_addUndone : pm_ck m_Tr_addUndone 1 := ⟨hw_394, hw_26, ⟨by decide +kernel, by decide +kernel, by decide +kernel⟩, by decide⟩
theorem im_Tr_addUndone : Cond.instanceMethod m_Tr_addUndone.1 ∈ pm_WS := hw_392
theorem se_Tr_addUndone : Cond.selects "TestText$Trace" m_Tr_addUndone.1 m_Tr_addUndone.1 ∈ pm_WS := hw_393
theorem ck_TT_verdict : pm_ck m_TT_verdict 2 := ⟨hw_399, hw_1, ⟨by decide +kernel, by decide +kernel, by decide +kernel⟩, by decide⟩
theorem im_TT_verdict : Cond.instanceMethod m_TT_verdict.1 ∈ pm_WS := hw_397
theorem se_TT_verdict : Cond.selects "TestText" m_TT_verdict.1 m_TT_verdict.1 ∈ pm_WS := hw_398
theorem ck_Plan_testOf : pm_ck m_Plan_testOf 1 := ⟨hw_403, hw_2, ⟨by decide +kernel, by decide +kernel, by decide +kernel⟩, by decide⟩
theorem im_Plan_testOf : Cond.instanceMethod m_Plan_testOf.1 ∈ pm_WS := hw_401
theorem se_Plan_testOf : Cond.selects "TestText$Plan" m_Plan_testOf.1 m_Plan_testOf.1 ∈ pm_WS := hw_402
theorem ck_TT_ended : pm_ck m_TT_ended 1 := ⟨hw_410, hw_1, ⟨by decide +kernel, by decide +kernel, by decide +kernel⟩, by decide⟩
theorem im_TT_ended : Cond.instanceMethod m_TT_ended.1 ∈ pm_WS := hw_408
theorem se_TT_ended : Cond.selects "TestText" m_TT_ended.1 m_TT_ended.1 ∈ pm_WS := hw_409
theorem ck_TT_plant : pm_ck m_TT_plant 2 := ⟨hw_414, hw_1, ⟨by decide +kernel, by decide +kernel, by decide +kernel⟩, by decide⟩
theorem im_TT_plant : Cond.instanceMethod m_TT_plant.1 ∈ pm_WS := hw_412
theorem se_TT_plant : Cond.selects "TestText" m_TT_plant.1 m_TT_plant.1 ∈ pm_WS := hw_413
theorem ck_Int_bitCount : pm_ck m_Int_bitCount 1 := ⟨hw_417, hw_25, ⟨by decide +kernel, by decide +kernel, by decide +kernel⟩, by decide⟩
theorem sm_Int_bitCount : Cond.static m_Int_bitCount.1 ∈ pm_WS := hw_416
theorem ck_TT_undone : pm_ck m_TT_undone 1 := ⟨hw_424, hw_1, ⟨by decide +kernel, by decide +kernel, by decide +kernel⟩, by decide⟩
theorem im_TT_undone : Cond.instanceMethod m_TT_undone.1 ∈ pm_WS := hw_422
theorem se_TT_undone : Cond.selects "TestText" m_TT_undone.1 m_TT_undone.1 ∈ pm_WS := hw_423
theorem ck_TT_traceOf : pm_ck m_TT_traceOf 1 := ⟨hw_428, hw_1, ⟨by decide +kernel, by decide +kernel, by decide +kernel⟩, by decide⟩
theorem im_TT_traceOf : Cond.instanceMethod m_TT_traceOf.1 ∈ pm_WS := hw_427
theorem se_TT_traceOf : Cond.selects "TestText" m_TT_traceOf.1 m_TT_traceOf.1 ∈ pm_WS := hw_sel (q := (m_TT_traceOf.1, 9)) (by decide +kernel)
theorem ck_Tr_undoneAt : pm_ck m_Tr_undoneAt 1 := ⟨hw_432, hw_26, ⟨by decide +kernel, by decide +kernel, by decide +kernel⟩, by decide⟩
theorem im_Tr_undoneAt : Cond.instanceMethod m_Tr_undoneAt.1 ∈ pm_WS := hw_430
theorem se_Tr_undoneAt : Cond.selects "TestText$Trace" m_Tr_undoneAt.1 m_Tr_undoneAt.1 ∈ pm_WS := hw_431
theorem ck_TT_differ : pm_ck m_TT_differ 2 := ⟨hw_436, hw_1, ⟨by decide +kernel, by decide +kernel, by decide +kernel⟩, by decide⟩
theorem im_TT_differ : Cond.instanceMethod m_TT_differ.1 ∈ pm_WS := hw_434
theorem se_TT_differ : Cond.selects "TestText" m_TT_differ.1 m_TT_differ.1 ∈ pm_WS := hw_435
theorem ck_Tr_firstDifference : pm_ck m_Tr_firstDifference 1 := ⟨hw_440, hw_26, ⟨by decide +kernel, by decide +kernel, by decide +kernel⟩, by decide⟩
theorem im_Tr_firstDifference : Cond.instanceMethod m_Tr_firstDifference.1 ∈ pm_WS := hw_438
theorem se_Tr_firstDifference : Cond.selects "TestText$Trace" m_Tr_firstDifference.1 m_Tr_firstDifference.1 ∈ pm_WS := hw_439
theorem ck_TT_cover : pm_ck m_TT_cover 2 := ⟨hw_445, hw_1, ⟨by decide +kernel, by decide +kernel, by decide +kernel⟩, by decide⟩
theorem im_TT_cover : Cond.instanceMethod m_TT_cover.1 ∈ pm_WS := hw_443
theorem se_TT_cover : Cond.selects "TestText" m_TT_cover.1 m_TT_cover.1 ∈ pm_WS := hw_444
theorem ck_Plan_countBegun : pm_ck m_Plan_countBegun 1 := ⟨hw_449, hw_2, ⟨by decide +kernel, by decide +kernel, by decide +kernel⟩, by decide⟩
theorem im_Plan_countBegun : Cond.instanceMethod m_Plan_countBegun.1 ∈ pm_WS := hw_447
theorem se_Plan_countBegun : Cond.selects "TestText$Plan" m_Plan_countBegun.1 m_Plan_countBegun.1 ∈ pm_WS := hw_448
theorem ck_Plan_countTestsNaming : pm_ck m_Plan_countTestsNaming 1 := ⟨hw_454, hw_2, ⟨by decide +kernel, by decide +kernel, by decide +kernel⟩, by decide⟩
theorem im_Plan_countTestsNaming : Cond.instanceMethod m_Plan_countTestsNaming.1 ∈ pm_WS := hw_452
theorem se_Plan_countTestsNaming : Cond.selects "TestText$Plan" m_Plan_countTestsNaming.1 m_Plan_countTestsNaming.1 ∈ pm_WS := hw_453
theorem ck_TT_countStepsOfRuns : pm_ck m_TT_countStepsOfRuns 0 := ⟨hw_458, hw_1, ⟨by decide +kernel, by decide +kernel, by decide +kernel⟩, by decide⟩
theorem im_TT_countStepsOfRuns : Cond.instanceMethod m_TT_countStepsOfRuns.1 ∈ pm_WS := hw_457
theorem se_TT_countStepsOfRuns : Cond.selects "TestText" m_TT_countStepsOfRuns.1 m_TT_countStepsOfRuns.1 ∈ pm_WS := hw_sel (q := (m_TT_countStepsOfRuns.1, 9)) (by decide +kernel)
theorem ck_TT_least : pm_ck m_TT_least 1 := ⟨hw_462, hw_1, ⟨by decide +kernel, by decide +kernel, by decide +kernel⟩, by decide⟩
theorem im_TT_least : Cond.instanceMethod m_TT_least.1 ∈ pm_WS := hw_460
theorem se_TT_least : Cond.selects "TestText" m_TT_least.1 m_TT_least.1 ∈ pm_WS := hw_461
theorem ck_Plan_leastAt : pm_ck m_Plan_leastAt 1 := ⟨hw_466, hw_2, ⟨by decide +kernel, by decide +kernel, by decide +kernel⟩, by decide⟩
theorem im_Plan_leastAt : Cond.instanceMethod m_Plan_leastAt.1 ∈ pm_WS := hw_464
theorem se_Plan_leastAt : Cond.selects "TestText$Plan" m_Plan_leastAt.1 m_Plan_leastAt.1 ∈ pm_WS := hw_465
theorem ck_TT_seed : pm_ck m_TT_seed 1 := ⟨hw_470, hw_1, ⟨by decide +kernel, by decide +kernel, by decide +kernel⟩, by decide⟩
theorem im_TT_seed : Cond.instanceMethod m_TT_seed.1 ∈ pm_WS := hw_468
theorem se_TT_seed : Cond.selects "TestText" m_TT_seed.1 m_TT_seed.1 ∈ pm_WS := hw_469
theorem ck_TT_shorter : pm_ck m_TT_shorter 0 := ⟨hw_475, hw_1, ⟨by decide +kernel, by decide +kernel, by decide +kernel⟩, by decide⟩
theorem im_TT_shorter : Cond.instanceMethod m_TT_shorter.1 ∈ pm_WS := hw_473
theorem se_TT_shorter : Cond.selects "TestText" m_TT_shorter.1 m_TT_shorter.1 ∈ pm_WS := hw_474
theorem ck_TT_cases : pm_ck m_TT_cases 2 := ⟨hw_479, hw_1, ⟨by decide +kernel, by decide +kernel, by decide +kernel⟩, by decide⟩
theorem im_TT_cases : Cond.instanceMethod m_TT_cases.1 ∈ pm_WS := hw_477
theorem se_TT_cases : Cond.selects "TestText" m_TT_cases.1 m_TT_cases.1 ∈ pm_WS := hw_478
theorem ck_Tr_hasStep : pm_ck m_Tr_hasStep 1 := ⟨hw_483, hw_26, ⟨by decide +kernel, by decide +kernel, by decide +kernel⟩, by decide⟩
theorem im_Tr_hasStep : Cond.instanceMethod m_Tr_hasStep.1 ∈ pm_WS := hw_481
theorem se_Tr_hasStep : Cond.selects "TestText$Trace" m_Tr_hasStep.1 m_Tr_hasStep.1 ∈ pm_WS := hw_482
theorem sm_Law_read : Cond.static m_Law_read.1 ∈ pm_WS := hw_485
theorem ck_TT_read : pm_ck m_TT_read 0 := ⟨hw_491, hw_1, ⟨by decide +kernel, by decide +kernel, by decide +kernel⟩, by decide⟩
theorem im_TT_read : Cond.instanceMethod m_TT_read.1 ∈ pm_WS := hw_489
theorem se_TT_read : Cond.selects "TestText" m_TT_read.1 m_TT_read.1 ∈ pm_WS := hw_490
theorem ck_Ans_forget : pm_ck m_Ans_forget 0 := ⟨hw_495, hw_6, ⟨by decide +kernel, by decide +kernel, by decide +kernel⟩, by decide⟩
theorem im_Ans_forget : Cond.instanceMethod m_Ans_forget.1 ∈ pm_WS := hw_493
theorem se_Ans_forget : Cond.selects "TestText$Answers" m_Ans_forget.1 m_Ans_forget.1 ∈ pm_WS := hw_494
theorem ck_Rd_init : pm_ck m_Rd_init 2 := ⟨hw_500, hw_8, ⟨by decide +kernel, by decide +kernel, by decide +kernel⟩, by decide⟩
theorem im_Rd_init : Cond.instanceMethod m_Rd_init.1 ∈ pm_WS := hw_499
theorem ck_Wd_init : pm_ck m_Wd_init 1 := ⟨hw_506, hw_9, ⟨by decide +kernel, by decide +kernel, by decide +kernel⟩, by decide⟩
theorem im_Wd_init : Cond.instanceMethod m_Wd_init.1 ∈ pm_WS := hw_505
theorem ck_Rd_readLines : pm_ck m_Rd_readLines 1 := ⟨hw_544, hw_8, ⟨by decide +kernel, by decide +kernel, by decide +kernel⟩, by decide⟩
theorem im_Rd_readLines : Cond.instanceMethod m_Rd_readLines.1 ∈ pm_WS := hw_542
theorem se_Rd_readLines : Cond.selects "TestText$Reader" m_Rd_readLines.1 m_Rd_readLines.1 ∈ pm_WS := hw_543
theorem ck_Wd_split : pm_ck m_Wd_split 2 := ⟨hw_548, hw_9, ⟨by decide +kernel, by decide +kernel, by decide +kernel⟩, by decide⟩
theorem im_Wd_split : Cond.instanceMethod m_Wd_split.1 ∈ pm_WS := hw_546
theorem se_Wd_split : Cond.selects "TestText$Words" m_Wd_split.1 m_Wd_split.1 ∈ pm_WS := hw_547
theorem ck_Rd_takeLine : pm_ck m_Rd_takeLine 1 := ⟨hw_552, hw_8, ⟨by decide +kernel, by decide +kernel, by decide +kernel⟩, by decide⟩
theorem im_Rd_takeLine : Cond.instanceMethod m_Rd_takeLine.1 ∈ pm_WS := hw_551
theorem se_Rd_takeLine : Cond.selects "TestText$Reader" m_Rd_takeLine.1 m_Rd_takeLine.1 ∈ pm_WS := hw_sel (q := (m_Rd_takeLine.1, 6)) (by decide +kernel)
theorem ck_Wd_is : pm_ck m_Wd_is 2 := ⟨hw_557, hw_9, ⟨by decide +kernel, by decide +kernel, by decide +kernel⟩, by decide⟩
theorem im_Wd_is : Cond.instanceMethod m_Wd_is.1 ∈ pm_WS := hw_555
theorem se_Wd_is : Cond.selects "TestText$Words" m_Wd_is.1 m_Wd_is.1 ∈ pm_WS := hw_556
theorem ck_Wd_has : pm_ck m_Wd_has 1 := ⟨hw_561, hw_9, ⟨by decide +kernel, by decide +kernel, by decide +kernel⟩, by decide⟩
theorem im_Wd_has : Cond.instanceMethod m_Wd_has.1 ∈ pm_WS := hw_560
theorem se_Wd_has : Cond.selects "TestText$Words" m_Wd_has.1 m_Wd_has.1 ∈ pm_WS := hw_sel (q := (m_Wd_has.1, 4)) (by decide +kernel)
theorem ck_Str_length : pm_ck m_Str_length 0 := ⟨hw_565, hw_10, ⟨by decide +kernel, by decide +kernel, by decide +kernel⟩, by decide⟩
theorem im_Str_length : Cond.instanceMethod m_Str_length.1 ∈ pm_WS := hw_563
theorem se_Str_length : Cond.selects "java/lang/String" m_Str_length.1 m_Str_length.1 ∈ pm_WS := hw_564
theorem ck_Str_coder : pm_ck m_Str_coder 0 := ⟨hw_569, hw_10, ⟨by decide +kernel, by decide +kernel, by decide +kernel⟩, by decide⟩
theorem im_Str_coder : Cond.instanceMethod m_Str_coder.1 ∈ pm_WS := hw_567
theorem se_Str_coder : Cond.selects "java/lang/String" m_Str_coder.1 m_Str_coder.1 ∈ pm_WS := hw_568
theorem ck_Str_charAt : pm_ck m_Str_charAt 1 := ⟨hw_575, hw_10, ⟨by decide +kernel, by decide +kernel, by decide +kernel⟩, by decide⟩
theorem im_Str_charAt : Cond.instanceMethod m_Str_charAt.1 ∈ pm_WS := hw_573
theorem se_Str_charAt : Cond.selects "java/lang/String" m_Str_charAt.1 m_Str_charAt.1 ∈ pm_WS := hw_574
theorem ck_Str_isLatin1 : pm_ck m_Str_isLatin1 0 := ⟨hw_579, hw_10, ⟨by decide +kernel, by decide +kernel, by decide +kernel⟩, by decide⟩
theorem im_Str_isLatin1 : Cond.instanceMethod m_Str_isLatin1.1 ∈ pm_WS := hw_577
theorem se_Str_isLatin1 : Cond.selects "java/lang/String" m_Str_isLatin1.1 m_Str_isLatin1.1 ∈ pm_WS := hw_578
theorem ck_Lat_charAt : pm_ck m_Lat_charAt 2 := ⟨hw_582, hw_11, ⟨by decide +kernel, by decide +kernel, by decide +kernel⟩, by decide⟩
theorem sm_Lat_charAt : Cond.static m_Lat_charAt.1 ∈ pm_WS := hw_581
theorem ck_Str_checkIndex : pm_ck m_Str_checkIndex 2 := ⟨hw_585, hw_10, ⟨by decide +kernel, by decide +kernel, by decide +kernel⟩, by decide⟩
theorem sm_Str_checkIndex : Cond.static m_Str_checkIndex.1 ∈ pm_WS := hw_584
theorem ck_Rd_takeName : pm_ck m_Rd_takeName 0 := ⟨hw_611, hw_8, ⟨by decide +kernel, by decide +kernel, by decide +kernel⟩, by decide⟩
theorem im_Rd_takeName : Cond.instanceMethod m_Rd_takeName.1 ∈ pm_WS := hw_610
theorem se_Rd_takeName : Cond.selects "TestText$Reader" m_Rd_takeName.1 m_Rd_takeName.1 ∈ pm_WS := hw_sel (q := (m_Rd_takeName.1, 6)) (by decide +kernel)
theorem ck_Wd_nameAt : pm_ck m_Wd_nameAt 1 := ⟨hw_615, hw_9, ⟨by decide +kernel, by decide +kernel, by decide +kernel⟩, by decide⟩
theorem im_Wd_nameAt : Cond.instanceMethod m_Wd_nameAt.1 ∈ pm_WS := hw_613
theorem se_Wd_nameAt : Cond.selects "TestText$Words" m_Wd_nameAt.1 m_Wd_nameAt.1 ∈ pm_WS := hw_614
theorem ck_Plan_isTaken : pm_ck m_Plan_isTaken 1 := ⟨hw_620, hw_2, ⟨by decide +kernel, by decide +kernel, by decide +kernel⟩, by decide⟩
theorem im_Plan_isTaken : Cond.instanceMethod m_Plan_isTaken.1 ∈ pm_WS := hw_618
theorem se_Plan_isTaken : Cond.selects "TestText$Plan" m_Plan_isTaken.1 m_Plan_isTaken.1 ∈ pm_WS := hw_619
theorem ck_Plan_valueOf : pm_ck m_Plan_valueOf 1 := ⟨hw_624, hw_2, ⟨by decide +kernel, by decide +kernel, by decide +kernel⟩, by decide⟩
theorem im_Plan_valueOf : Cond.instanceMethod m_Plan_valueOf.1 ∈ pm_WS := hw_622
theorem se_Plan_valueOf : Cond.selects "TestText$Plan" m_Plan_valueOf.1 m_Plan_valueOf.1 ∈ pm_WS := hw_623
theorem ck_Rd_takeTest : pm_ck m_Rd_takeTest 0 := ⟨hw_629, hw_8, ⟨by decide +kernel, by decide +kernel, by decide +kernel⟩, by decide⟩
theorem im_Rd_takeTest : Cond.instanceMethod m_Rd_takeTest.1 ∈ pm_WS := hw_628
theorem se_Rd_takeTest : Cond.selects "TestText$Reader" m_Rd_takeTest.1 m_Rd_takeTest.1 ∈ pm_WS := hw_sel (q := (m_Rd_takeTest.1, 6)) (by decide +kernel)
theorem ck_Test_init : pm_ck m_Test_init 2 := ⟨hw_635, hw_15, ⟨by decide +kernel, by decide +kernel, by decide +kernel⟩, by decide⟩
theorem im_Test_init : Cond.instanceMethod m_Test_init.1 ∈ pm_WS := hw_634
theorem ck_AL_add : pm_ck m_AL_add 1 := ⟨hw_685, hw_5, ⟨by decide +kernel, by decide +kernel, by decide +kernel⟩, by decide⟩
theorem im_AL_add : Cond.instanceMethod m_AL_add.1 ∈ pm_WS := hw_683
theorem se_AL_add : Cond.selects "java/util/ArrayList" m_AL_add.1 m_AL_add.1 ∈ pm_WS := hw_684
theorem ck_AL_add2 : pm_ck m_AL_add2 3 := ⟨hw_689, hw_5, ⟨by decide +kernel, by decide +kernel, by decide +kernel⟩, by decide⟩
theorem im_AL_add2 : Cond.instanceMethod m_AL_add2.1 ∈ pm_WS := hw_688
theorem se_AL_add2 : Cond.selects "java/util/ArrayList" m_AL_add2.1 m_AL_add2.1 ∈ pm_WS := hw_sel (q := (m_AL_add2.1, 3)) (by decide +kernel)
theorem ck_AL_grow : pm_ck m_AL_grow 0 := ⟨hw_693, hw_5, ⟨by decide +kernel, by decide +kernel, by decide +kernel⟩, by decide⟩
theorem im_AL_grow : Cond.instanceMethod m_AL_grow.1 ∈ pm_WS := hw_692
theorem se_AL_grow : Cond.selects "java/util/ArrayList" m_AL_grow.1 m_AL_grow.1 ∈ pm_WS := hw_sel (q := (m_AL_grow.1, 3)) (by decide +kernel)
theorem ck_AL_grow2 : pm_ck m_AL_grow2 1 := ⟨hw_697, hw_5, ⟨by decide +kernel, by decide +kernel, by decide +kernel⟩, by decide⟩
theorem im_AL_grow2 : Cond.instanceMethod m_AL_grow2.1 ∈ pm_WS := hw_696
theorem se_AL_grow2 : Cond.selects "java/util/ArrayList" m_AL_grow2.1 m_AL_grow2.1 ∈ pm_WS := hw_sel (q := (m_AL_grow2.1, 3)) (by decide +kernel)
theorem ck_ArSu_newLength : pm_ck m_ArSu_newLength 3 := ⟨hw_700, hw_16, ⟨by decide +kernel, by decide +kernel, by decide +kernel⟩, by decide⟩
theorem sm_ArSu_newLength : Cond.static m_ArSu_newLength.1 ∈ pm_WS := hw_699
theorem ck_ArSu_hugeLength : pm_ck m_ArSu_hugeLength 2 := ⟨hw_705, hw_16, ⟨by decide +kernel, by decide +kernel, by decide +kernel⟩, by decide⟩
theorem sm_ArSu_hugeLength : Cond.static m_ArSu_hugeLength.1 ∈ pm_WS := hw_704
theorem ck_Arrs_copyOf : pm_ck m_Arrs_copyOf 2 := ⟨hw_708, hw_18, ⟨by decide +kernel, by decide +kernel, by decide +kernel⟩, by decide⟩
theorem sm_Arrs_copyOf : Cond.static m_Arrs_copyOf.1 ∈ pm_WS := hw_707
theorem ck_Arrs_copyOf2 : pm_ck m_Arrs_copyOf2 3 := ⟨hw_727, hw_18, ⟨by decide +kernel, by decide +kernel, by decide +kernel⟩, by decide⟩
theorem sm_Arrs_copyOf2 : Cond.static m_Arrs_copyOf2.1 ∈ pm_WS := hw_726
theorem ck_Rd_takeEnd : pm_ck m_Rd_takeEnd 0 := ⟨hw_739, hw_8, ⟨by decide +kernel, by decide +kernel, by decide +kernel⟩, by decide⟩
theorem im_Rd_takeEnd : Cond.instanceMethod m_Rd_takeEnd.1 ∈ pm_WS := hw_738
theorem se_Rd_takeEnd : Cond.selects "TestText$Reader" m_Rd_takeEnd.1 m_Rd_takeEnd.1 ∈ pm_WS := hw_sel (q := (m_Rd_takeEnd.1, 6)) (by decide +kernel)
theorem ck_Rd_kindOfStep : pm_ck m_Rd_kindOfStep 0 := ⟨hw_746, hw_8, ⟨by decide +kernel, by decide +kernel, by decide +kernel⟩, by decide⟩
theorem im_Rd_kindOfStep : Cond.instanceMethod m_Rd_kindOfStep.1 ∈ pm_WS := hw_745
theorem se_Rd_kindOfStep : Cond.selects "TestText$Reader" m_Rd_kindOfStep.1 m_Rd_kindOfStep.1 ∈ pm_WS := hw_sel (q := (m_Rd_kindOfStep.1, 6)) (by decide +kernel)
theorem ck_Step_init : pm_ck m_Step_init 3 := ⟨hw_757, hw_20, ⟨by decide +kernel, by decide +kernel, by decide +kernel⟩, by decide⟩
theorem im_Step_init : Cond.instanceMethod m_Step_init.1 ∈ pm_WS := hw_756
theorem ck_Rd_fill : pm_ck m_Rd_fill 1 := ⟨hw_805, hw_8, ⟨by decide +kernel, by decide +kernel, by decide +kernel⟩, by decide⟩
theorem im_Rd_fill : Cond.instanceMethod m_Rd_fill.1 ∈ pm_WS := hw_804
theorem se_Rd_fill : Cond.selects "TestText$Reader" m_Rd_fill.1 m_Rd_fill.1 ∈ pm_WS := hw_sel (q := (m_Rd_fill.1, 6)) (by decide +kernel)
theorem ck_Rd_takeValue : pm_ck m_Rd_takeValue 1 := ⟨hw_809, hw_8, ⟨by decide +kernel, by decide +kernel, by decide +kernel⟩, by decide⟩
theorem im_Rd_takeValue : Cond.instanceMethod m_Rd_takeValue.1 ∈ pm_WS := hw_808
theorem se_Rd_takeValue : Cond.selects "TestText$Reader" m_Rd_takeValue.1 m_Rd_takeValue.1 ∈ pm_WS := hw_sel (q := (m_Rd_takeValue.1, 6)) (by decide +kernel)
theorem ck_Rd_takeNumber : pm_ck m_Rd_takeNumber 2 := ⟨hw_814, hw_8, ⟨by decide +kernel, by decide +kernel, by decide +kernel⟩, by decide⟩
theorem im_Rd_takeNumber : Cond.instanceMethod m_Rd_takeNumber.1 ∈ pm_WS := hw_813
theorem se_Rd_takeNumber : Cond.selects "TestText$Reader" m_Rd_takeNumber.1 m_Rd_takeNumber.1 ∈ pm_WS := hw_sel (q := (m_Rd_takeNumber.1, 6)) (by decide +kernel)
theorem ck_Wd_numberAt : pm_ck m_Wd_numberAt 1 := ⟨hw_818, hw_9, ⟨by decide +kernel, by decide +kernel, by decide +kernel⟩, by decide⟩
theorem im_Wd_numberAt : Cond.instanceMethod m_Wd_numberAt.1 ∈ pm_WS := hw_816
theorem se_Wd_numberAt : Cond.selects "TestText$Words" m_Wd_numberAt.1 m_Wd_numberAt.1 ∈ pm_WS := hw_817
theorem ck_Rd_takeSecond : pm_ck m_Rd_takeSecond 4 := ⟨hw_825, hw_8, ⟨by decide +kernel, by decide +kernel, by decide +kernel⟩, by decide⟩
theorem im_Rd_takeSecond : Cond.instanceMethod m_Rd_takeSecond.1 ∈ pm_WS := hw_824
theorem se_Rd_takeSecond : Cond.selects "TestText$Reader" m_Rd_takeSecond.1 m_Rd_takeSecond.1 ∈ pm_WS := hw_sel (q := (m_Rd_takeSecond.1, 6)) (by decide +kernel)
theorem ck_Rd_takeComparison : pm_ck m_Rd_takeComparison 1 := ⟨hw_829, hw_8, ⟨by decide +kernel, by decide +kernel, by decide +kernel⟩, by decide⟩
theorem im_Rd_takeComparison : Cond.instanceMethod m_Rd_takeComparison.1 ∈ pm_WS := hw_828
theorem se_Rd_takeComparison : Cond.selects "TestText$Reader" m_Rd_takeComparison.1 m_Rd_takeComparison.1 ∈ pm_WS := hw_sel (q := (m_Rd_takeComparison.1, 6)) (by decide +kernel)
theorem ck_Wd_opAt : pm_ck m_Wd_opAt 1 := ⟨hw_833, hw_9, ⟨by decide +kernel, by decide +kernel, by decide +kernel⟩, by decide⟩
theorem im_Wd_opAt : Cond.instanceMethod m_Wd_opAt.1 ∈ pm_WS := hw_831
theorem se_Wd_opAt : Cond.selects "TestText$Words" m_Wd_opAt.1 m_Wd_opAt.1 ∈ pm_WS := hw_832
theorem ck_Rd_takeFault : pm_ck m_Rd_takeFault 1 := ⟨hw_842, hw_8, ⟨by decide +kernel, by decide +kernel, by decide +kernel⟩, by decide⟩
theorem im_Rd_takeFault : Cond.instanceMethod m_Rd_takeFault.1 ∈ pm_WS := hw_841
theorem se_Rd_takeFault : Cond.selects "TestText$Reader" m_Rd_takeFault.1 m_Rd_takeFault.1 ∈ pm_WS := hw_sel (q := (m_Rd_takeFault.1, 6)) (by decide +kernel)
theorem ck_Rd_takeTimesLooped : pm_ck m_Rd_takeTimesLooped 1 := ⟨hw_848, hw_8, ⟨by decide +kernel, by decide +kernel, by decide +kernel⟩, by decide⟩
theorem im_Rd_takeTimesLooped : Cond.instanceMethod m_Rd_takeTimesLooped.1 ∈ pm_WS := hw_847
theorem se_Rd_takeTimesLooped : Cond.selects "TestText$Reader" m_Rd_takeTimesLooped.1 m_Rd_takeTimesLooped.1 ∈ pm_WS := hw_sel (q := (m_Rd_takeTimesLooped.1, 6)) (by decide +kernel)
theorem ck_Rd_openBlock : pm_ck m_Rd_openBlock 0 := ⟨hw_852, hw_8, ⟨by decide +kernel, by decide +kernel, by decide +kernel⟩, by decide⟩
theorem im_Rd_openBlock : Cond.instanceMethod m_Rd_openBlock.1 ∈ pm_WS := hw_851
theorem se_Rd_openBlock : Cond.selects "TestText$Reader" m_Rd_openBlock.1 m_Rd_openBlock.1 ∈ pm_WS := hw_sel (q := (m_Rd_openBlock.1, 6)) (by decide +kernel)
theorem ck_Rd_takeNumbers : pm_ck m_Rd_takeNumbers 1 := ⟨hw_856, hw_8, ⟨by decide +kernel, by decide +kernel, by decide +kernel⟩, by decide⟩
theorem im_Rd_takeNumbers : Cond.instanceMethod m_Rd_takeNumbers.1 ∈ pm_WS := hw_855
theorem se_Rd_takeNumbers : Cond.selects "TestText$Reader" m_Rd_takeNumbers.1 m_Rd_takeNumbers.1 ∈ pm_WS := hw_sel (q := (m_Rd_takeNumbers.1, 6)) (by decide +kernel)
theorem ck_Rd_takeAlways : pm_ck m_Rd_takeAlways 0 := ⟨hw_860, hw_8, ⟨by decide +kernel, by decide +kernel, by decide +kernel⟩, by decide⟩
theorem im_Rd_takeAlways : Cond.instanceMethod m_Rd_takeAlways.1 ∈ pm_WS := hw_859
theorem se_Rd_takeAlways : Cond.selects "TestText$Reader" m_Rd_takeAlways.1 m_Rd_takeAlways.1 ∈ pm_WS := hw_sel (q := (m_Rd_takeAlways.1, 6)) (by decide +kernel)
theorem ck_Test_take : pm_ck m_Test_take 1 := ⟨hw_864, hw_15, ⟨by decide +kernel, by decide +kernel, by decide +kernel⟩, by decide⟩
theorem im_Test_take : Cond.instanceMethod m_Test_take.1 ∈ pm_WS := hw_862
theorem se_Test_take : Cond.selects "TestText$Test" m_Test_take.1 m_Test_take.1 ∈ pm_WS := hw_863
theorem ck_Plan_findLeast : pm_ck m_Plan_findLeast 0 := ⟨hw_933, hw_2, ⟨by decide +kernel, by decide +kernel, by decide +kernel⟩, by decide⟩
theorem im_Plan_findLeast : Cond.instanceMethod m_Plan_findLeast.1 ∈ pm_WS := hw_931
theorem se_Plan_findLeast : Cond.selects "TestText$Plan" m_Plan_findLeast.1 m_Plan_findLeast.1 ∈ pm_WS := hw_932
theorem ck_Plan_namedBy : pm_ck m_Plan_namedBy 1 := ⟨hw_937, hw_2, ⟨by decide +kernel, by decide +kernel, by decide +kernel⟩, by decide⟩
theorem im_Plan_namedBy : Cond.instanceMethod m_Plan_namedBy.1 ∈ pm_WS := hw_936
theorem se_Plan_namedBy : Cond.selects "TestText$Plan" m_Plan_namedBy.1 m_Plan_namedBy.1 ∈ pm_WS := hw_sel (q := (m_Plan_namedBy.1, 6)) (by decide +kernel)
theorem ck_Plan_isIn : pm_ck m_Plan_isIn 2 := ⟨hw_941, hw_2, ⟨by decide +kernel, by decide +kernel, by decide +kernel⟩, by decide⟩
theorem im_Plan_isIn : Cond.instanceMethod m_Plan_isIn.1 ∈ pm_WS := hw_940
theorem se_Plan_isIn : Cond.selects "TestText$Plan" m_Plan_isIn.1 m_Plan_isIn.1 ∈ pm_WS := hw_sel (q := (m_Plan_isIn.1, 6)) (by decide +kernel)
theorem ck_Mo_init : pm_ck m_Mo_init 0 := ⟨hw_947, hw_7, ⟨by decide +kernel, by decide +kernel, by decide +kernel⟩, by decide⟩
theorem im_Mo_init : Cond.instanceMethod m_Mo_init.1 ∈ pm_WS := hw_946
theorem ck_Mo_thrown : pm_ck m_Mo_thrown 0 := ⟨hw_1134, hw_7, ⟨by decide +kernel, by decide +kernel, by decide +kernel⟩, by decide⟩
theorem im_Mo_thrown : Cond.instanceMethod m_Mo_thrown.1 ∈ pm_WS := hw_1132
theorem se_Mo_thrown : Cond.selects "TestTextModel" m_Mo_thrown.1 m_Mo_thrown.1 ∈ pm_WS := hw_1133
theorem ck_Mo_sign : pm_ck m_Mo_sign 1 := ⟨hw_1138, hw_7, ⟨by decide +kernel, by decide +kernel, by decide +kernel⟩, by decide⟩
theorem im_Mo_sign : Cond.instanceMethod m_Mo_sign.1 ∈ pm_WS := hw_1136
theorem se_Mo_sign : Cond.selects "TestTextModel" m_Mo_sign.1 m_Mo_sign.1 ∈ pm_WS := hw_1137
theorem ck_Mo_read : pm_ck m_Mo_read 0 := ⟨hw_1142, hw_7, ⟨by decide +kernel, by decide +kernel, by decide +kernel⟩, by decide⟩
theorem im_Mo_read : Cond.instanceMethod m_Mo_read.1 ∈ pm_WS := hw_1140
theorem se_Mo_read : Cond.selects "TestTextModel" m_Mo_read.1 m_Mo_read.1 ∈ pm_WS := hw_1141
theorem ck_Mo_read0 : pm_ck m_Mo_read0 0 := ⟨hw_1146, hw_7, ⟨by decide +kernel, by decide +kernel, by decide +kernel⟩, by decide⟩
theorem im_Mo_read0 : Cond.instanceMethod m_Mo_read0.1 ∈ pm_WS := hw_1145
theorem se_Mo_read0 : Cond.selects "TestTextModel" m_Mo_read0.1 m_Mo_read0.1 ∈ pm_WS := hw_sel (q := (m_Mo_read0.1, 60)) (by decide +kernel)
theorem ck_Mo_next : pm_ck m_Mo_next 0 := ⟨hw_1150, hw_7, ⟨by decide +kernel, by decide +kernel, by decide +kernel⟩, by decide⟩
theorem im_Mo_next : Cond.instanceMethod m_Mo_next.1 ∈ pm_WS := hw_1149
theorem se_Mo_next : Cond.selects "TestTextModel" m_Mo_next.1 m_Mo_next.1 ∈ pm_WS := hw_sel (q := (m_Mo_next.1, 60)) (by decide +kernel)
theorem ck_Mo_line : pm_ck m_Mo_line 1 := ⟨hw_1154, hw_7, ⟨by decide +kernel, by decide +kernel, by decide +kernel⟩, by decide⟩
theorem im_Mo_line : Cond.instanceMethod m_Mo_line.1 ∈ pm_WS := hw_1153
theorem se_Mo_line : Cond.selects "TestTextModel" m_Mo_line.1 m_Mo_line.1 ∈ pm_WS := hw_sel (q := (m_Mo_line.1, 60)) (by decide +kernel)
theorem ck_Mo_is : pm_ck m_Mo_is 6 := ⟨hw_1158, hw_7, ⟨by decide +kernel, by decide +kernel, by decide +kernel⟩, by decide⟩
theorem im_Mo_is : Cond.instanceMethod m_Mo_is.1 ∈ pm_WS := hw_1157
theorem se_Mo_is : Cond.selects "TestTextModel" m_Mo_is.1 m_Mo_is.1 ∈ pm_WS := hw_sel (q := (m_Mo_is.1, 60)) (by decide +kernel)
theorem ck_Mo_newName : pm_ck m_Mo_newName 0 := ⟨hw_1162, hw_7, ⟨by decide +kernel, by decide +kernel, by decide +kernel⟩, by decide⟩
theorem im_Mo_newName : Cond.instanceMethod m_Mo_newName.1 ∈ pm_WS := hw_1161
theorem se_Mo_newName : Cond.selects "TestTextModel" m_Mo_newName.1 m_Mo_newName.1 ∈ pm_WS := hw_sel (q := (m_Mo_newName.1, 60)) (by decide +kernel)
theorem ck_Mo_isName : pm_ck m_Mo_isName 0 := ⟨hw_1166, hw_7, ⟨by decide +kernel, by decide +kernel, by decide +kernel⟩, by decide⟩
theorem im_Mo_isName : Cond.instanceMethod m_Mo_isName.1 ∈ pm_WS := hw_1165
theorem se_Mo_isName : Cond.selects "TestTextModel" m_Mo_isName.1 m_Mo_isName.1 ∈ pm_WS := hw_sel (q := (m_Mo_isName.1, 60)) (by decide +kernel)
theorem ck_Mo_findName : pm_ck m_Mo_findName 0 := ⟨hw_1170, hw_7, ⟨by decide +kernel, by decide +kernel, by decide +kernel⟩, by decide⟩
theorem im_Mo_findName : Cond.instanceMethod m_Mo_findName.1 ∈ pm_WS := hw_1169
theorem se_Mo_findName : Cond.selects "TestTextModel" m_Mo_findName.1 m_Mo_findName.1 ∈ pm_WS := hw_sel (q := (m_Mo_findName.1, 60)) (by decide +kernel)
theorem ck_Mo_same : pm_ck m_Mo_same 2 := ⟨hw_1174, hw_7, ⟨by decide +kernel, by decide +kernel, by decide +kernel⟩, by decide⟩
theorem im_Mo_same : Cond.instanceMethod m_Mo_same.1 ∈ pm_WS := hw_1173
theorem se_Mo_same : Cond.selects "TestTextModel" m_Mo_same.1 m_Mo_same.1 ∈ pm_WS := hw_sel (q := (m_Mo_same.1, 60)) (by decide +kernel)
theorem ck_Mo_through : pm_ck m_Mo_through 0 := ⟨hw_1178, hw_7, ⟨by decide +kernel, by decide +kernel, by decide +kernel⟩, by decide⟩
theorem im_Mo_through : Cond.instanceMethod m_Mo_through.1 ∈ pm_WS := hw_1177
theorem se_Mo_through : Cond.selects "TestTextModel" m_Mo_through.1 m_Mo_through.1 ∈ pm_WS := hw_sel (q := (m_Mo_through.1, 60)) (by decide +kernel)
theorem ck_Mo_addTest : pm_ck m_Mo_addTest 0 := ⟨hw_1182, hw_7, ⟨by decide +kernel, by decide +kernel, by decide +kernel⟩, by decide⟩
theorem im_Mo_addTest : Cond.instanceMethod m_Mo_addTest.1 ∈ pm_WS := hw_1181
theorem se_Mo_addTest : Cond.selects "TestTextModel" m_Mo_addTest.1 m_Mo_addTest.1 ∈ pm_WS := hw_sel (q := (m_Mo_addTest.1, 60)) (by decide +kernel)
theorem ck_Mo_step : pm_ck m_Mo_step 0 := ⟨hw_1186, hw_7, ⟨by decide +kernel, by decide +kernel, by decide +kernel⟩, by decide⟩
theorem im_Mo_step : Cond.instanceMethod m_Mo_step.1 ∈ pm_WS := hw_1185
theorem se_Mo_step : Cond.selects "TestTextModel" m_Mo_step.1 m_Mo_step.1 ∈ pm_WS := hw_sel (q := (m_Mo_step.1, 60)) (by decide +kernel)
theorem ck_Mo_named : pm_ck m_Mo_named 0 := ⟨hw_1190, hw_7, ⟨by decide +kernel, by decide +kernel, by decide +kernel⟩, by decide⟩
theorem im_Mo_named : Cond.instanceMethod m_Mo_named.1 ∈ pm_WS := hw_1189
theorem se_Mo_named : Cond.selects "TestTextModel" m_Mo_named.1 m_Mo_named.1 ∈ pm_WS := hw_sel (q := (m_Mo_named.1, 60)) (by decide +kernel)
theorem ck_Mo_number : pm_ck m_Mo_number 2 := ⟨hw_1196, hw_7, ⟨by decide +kernel, by decide +kernel, by decide +kernel⟩, by decide⟩
theorem im_Mo_number : Cond.instanceMethod m_Mo_number.1 ∈ pm_WS := hw_1195
theorem se_Mo_number : Cond.selects "TestTextModel" m_Mo_number.1 m_Mo_number.1 ∈ pm_WS := hw_sel (q := (m_Mo_number.1, 60)) (by decide +kernel)
theorem ck_Mo_operator : pm_ck m_Mo_operator 0 := ⟨hw_1202, hw_7, ⟨by decide +kernel, by decide +kernel, by decide +kernel⟩, by decide⟩
theorem im_Mo_operator : Cond.instanceMethod m_Mo_operator.1 ∈ pm_WS := hw_1201
theorem se_Mo_operator : Cond.selects "TestTextModel" m_Mo_operator.1 m_Mo_operator.1 ∈ pm_WS := hw_sel (q := (m_Mo_operator.1, 60)) (by decide +kernel)
theorem ck_Mo_block : pm_ck m_Mo_block 0 := ⟨hw_1209, hw_7, ⟨by decide +kernel, by decide +kernel, by decide +kernel⟩, by decide⟩
theorem im_Mo_block : Cond.instanceMethod m_Mo_block.1 ∈ pm_WS := hw_1208
theorem se_Mo_block : Cond.selects "TestTextModel" m_Mo_block.1 m_Mo_block.1 ∈ pm_WS := hw_sel (q := (m_Mo_block.1, 60)) (by decide +kernel)
theorem ck_Mo_wrong : pm_ck m_Mo_wrong 0 := ⟨hw_1214, hw_7, ⟨by decide +kernel, by decide +kernel, by decide +kernel⟩, by decide⟩
theorem im_Mo_wrong : Cond.instanceMethod m_Mo_wrong.1 ∈ pm_WS := hw_1212
theorem se_Mo_wrong : Cond.selects "TestTextModel" m_Mo_wrong.1 m_Mo_wrong.1 ∈ pm_WS := hw_1213
theorem ck_Mo_answer : pm_ck m_Mo_answer 3 := ⟨hw_1218, hw_7, ⟨by decide +kernel, by decide +kernel, by decide +kernel⟩, by decide⟩
theorem im_Mo_answer : Cond.instanceMethod m_Mo_answer.1 ∈ pm_WS := hw_1216
theorem se_Mo_answer : Cond.selects "TestTextModel" m_Mo_answer.1 m_Mo_answer.1 ∈ pm_WS := hw_1217
theorem ck_Mo_run : pm_ck m_Mo_run 0 := ⟨hw_1223, hw_7, ⟨by decide +kernel, by decide +kernel, by decide +kernel⟩, by decide⟩
theorem im_Mo_run : Cond.instanceMethod m_Mo_run.1 ∈ pm_WS := hw_1221
theorem se_Mo_run : Cond.selects "TestTextModel" m_Mo_run.1 m_Mo_run.1 ∈ pm_WS := hw_1222
theorem ck_Mo_test : pm_ck m_Mo_test 1 := ⟨hw_1227, hw_7, ⟨by decide +kernel, by decide +kernel, by decide +kernel⟩, by decide⟩
theorem im_Mo_test : Cond.instanceMethod m_Mo_test.1 ∈ pm_WS := hw_1226
theorem se_Mo_test : Cond.selects "TestTextModel" m_Mo_test.1 m_Mo_test.1 ∈ pm_WS := hw_sel (q := (m_Mo_test.1, 60)) (by decide +kernel)
theorem ck_Mo_go : pm_ck m_Mo_go 3 := ⟨hw_1231, hw_7, ⟨by decide +kernel, by decide +kernel, by decide +kernel⟩, by decide⟩
theorem im_Mo_go : Cond.instanceMethod m_Mo_go.1 ∈ pm_WS := hw_1230
theorem se_Mo_go : Cond.selects "TestTextModel" m_Mo_go.1 m_Mo_go.1 ∈ pm_WS := hw_sel (q := (m_Mo_go.1, 60)) (by decide +kernel)
theorem ck_Mo_setting : pm_ck m_Mo_setting 2 := ⟨hw_1235, hw_7, ⟨by decide +kernel, by decide +kernel, by decide +kernel⟩, by decide⟩
theorem im_Mo_setting : Cond.instanceMethod m_Mo_setting.1 ∈ pm_WS := hw_1234
theorem se_Mo_setting : Cond.selects "TestTextModel" m_Mo_setting.1 m_Mo_setting.1 ∈ pm_WS := hw_sel (q := (m_Mo_setting.1, 60)) (by decide +kernel)
theorem ck_Mo_begin : pm_ck m_Mo_begin 1 := ⟨hw_1239, hw_7, ⟨by decide +kernel, by decide +kernel, by decide +kernel⟩, by decide⟩
theorem im_Mo_begin : Cond.instanceMethod m_Mo_begin.1 ∈ pm_WS := hw_1238
theorem se_Mo_begin : Cond.selects "TestTextModel" m_Mo_begin.1 m_Mo_begin.1 ∈ pm_WS := hw_sel (q := (m_Mo_begin.1, 60)) (by decide +kernel)
theorem ck_Mo_row : pm_ck m_Mo_row 2 := ⟨hw_1243, hw_7, ⟨by decide +kernel, by decide +kernel, by decide +kernel⟩, by decide⟩
theorem im_Mo_row : Cond.instanceMethod m_Mo_row.1 ∈ pm_WS := hw_1242
theorem se_Mo_row : Cond.selects "TestTextModel" m_Mo_row.1 m_Mo_row.1 ∈ pm_WS := hw_sel (q := (m_Mo_row.1, 60)) (by decide +kernel)
theorem ck_Mo_simple : pm_ck m_Mo_simple 2 := ⟨hw_1247, hw_7, ⟨by decide +kernel, by decide +kernel, by decide +kernel⟩, by decide⟩
theorem im_Mo_simple : Cond.instanceMethod m_Mo_simple.1 ∈ pm_WS := hw_1246
theorem se_Mo_simple : Cond.selects "TestTextModel" m_Mo_simple.1 m_Mo_simple.1 ∈ pm_WS := hw_sel (q := (m_Mo_simple.1, 60)) (by decide +kernel)
theorem ck_Mo_holds : pm_ck m_Mo_holds 1 := ⟨hw_1255, hw_7, ⟨by decide +kernel, by decide +kernel, by decide +kernel⟩, by decide⟩
theorem im_Mo_holds : Cond.instanceMethod m_Mo_holds.1 ∈ pm_WS := hw_1254
theorem se_Mo_holds : Cond.selects "TestTextModel" m_Mo_holds.1 m_Mo_holds.1 ∈ pm_WS := hw_sel (q := (m_Mo_holds.1, 60)) (by decide +kernel)
theorem ck_Mo_known : pm_ck m_Mo_known 1 := ⟨hw_1259, hw_7, ⟨by decide +kernel, by decide +kernel, by decide +kernel⟩, by decide⟩
theorem im_Mo_known : Cond.instanceMethod m_Mo_known.1 ∈ pm_WS := hw_1258
theorem se_Mo_known : Cond.selects "TestTextModel" m_Mo_known.1 m_Mo_known.1 ∈ pm_WS := hw_sel (q := (m_Mo_known.1, 60)) (by decide +kernel)
theorem ck_Mo_answerOf : pm_ck m_Mo_answerOf 1 := ⟨hw_1263, hw_7, ⟨by decide +kernel, by decide +kernel, by decide +kernel⟩, by decide⟩
theorem im_Mo_answerOf : Cond.instanceMethod m_Mo_answerOf.1 ∈ pm_WS := hw_1262
theorem se_Mo_answerOf : Cond.selects "TestTextModel" m_Mo_answerOf.1 m_Mo_answerOf.1 ∈ pm_WS := hw_sel (q := (m_Mo_answerOf.1, 60)) (by decide +kernel)
theorem ck_Mo_leave : pm_ck m_Mo_leave 3 := ⟨hw_1267, hw_7, ⟨by decide +kernel, by decide +kernel, by decide +kernel⟩, by decide⟩
theorem im_Mo_leave : Cond.instanceMethod m_Mo_leave.1 ∈ pm_WS := hw_1266
theorem se_Mo_leave : Cond.selects "TestTextModel" m_Mo_leave.1 m_Mo_leave.1 ∈ pm_WS := hw_sel (q := (m_Mo_leave.1, 60)) (by decide +kernel)
theorem ck_Mo_verdict : pm_ck m_Mo_verdict 2 := ⟨hw_1271, hw_7, ⟨by decide +kernel, by decide +kernel, by decide +kernel⟩, by decide⟩
theorem im_Mo_verdict : Cond.instanceMethod m_Mo_verdict.1 ∈ pm_WS := hw_1269
theorem se_Mo_verdict : Cond.selects "TestTextModel" m_Mo_verdict.1 m_Mo_verdict.1 ∈ pm_WS := hw_1270
theorem ck_Mo_noTest : pm_ck m_Mo_noTest 1 := ⟨hw_1275, hw_7, ⟨by decide +kernel, by decide +kernel, by decide +kernel⟩, by decide⟩
theorem im_Mo_noTest : Cond.instanceMethod m_Mo_noTest.1 ∈ pm_WS := hw_1274
theorem se_Mo_noTest : Cond.selects "TestTextModel" m_Mo_noTest.1 m_Mo_noTest.1 ∈ pm_WS := hw_sel (q := (m_Mo_noTest.1, 60)) (by decide +kernel)
theorem ck_Mo_ended : pm_ck m_Mo_ended 1 := ⟨hw_1279, hw_7, ⟨by decide +kernel, by decide +kernel, by decide +kernel⟩, by decide⟩
theorem im_Mo_ended : Cond.instanceMethod m_Mo_ended.1 ∈ pm_WS := hw_1277
theorem se_Mo_ended : Cond.selects "TestTextModel" m_Mo_ended.1 m_Mo_ended.1 ∈ pm_WS := hw_1278
theorem ck_Mo_plant : pm_ck m_Mo_plant 2 := ⟨hw_1283, hw_7, ⟨by decide +kernel, by decide +kernel, by decide +kernel⟩, by decide⟩
theorem im_Mo_plant : Cond.instanceMethod m_Mo_plant.1 ∈ pm_WS := hw_1281
theorem se_Mo_plant : Cond.selects "TestTextModel" m_Mo_plant.1 m_Mo_plant.1 ∈ pm_WS := hw_1282
theorem ck_Mo_undone : pm_ck m_Mo_undone 1 := ⟨hw_1287, hw_7, ⟨by decide +kernel, by decide +kernel, by decide +kernel⟩, by decide⟩
theorem im_Mo_undone : Cond.instanceMethod m_Mo_undone.1 ∈ pm_WS := hw_1285
theorem se_Mo_undone : Cond.selects "TestTextModel" m_Mo_undone.1 m_Mo_undone.1 ∈ pm_WS := hw_1286
theorem ck_Mo_differ : pm_ck m_Mo_differ 2 := ⟨hw_1291, hw_7, ⟨by decide +kernel, by decide +kernel, by decide +kernel⟩, by decide⟩
theorem im_Mo_differ : Cond.instanceMethod m_Mo_differ.1 ∈ pm_WS := hw_1289
theorem se_Mo_differ : Cond.selects "TestTextModel" m_Mo_differ.1 m_Mo_differ.1 ∈ pm_WS := hw_1290
theorem ck_Mo_cover : pm_ck m_Mo_cover 2 := ⟨hw_1295, hw_7, ⟨by decide +kernel, by decide +kernel, by decide +kernel⟩, by decide⟩
theorem im_Mo_cover : Cond.instanceMethod m_Mo_cover.1 ∈ pm_WS := hw_1293
theorem se_Mo_cover : Cond.selects "TestTextModel" m_Mo_cover.1 m_Mo_cover.1 ∈ pm_WS := hw_1294
theorem ck_Mo_namedBy : pm_ck m_Mo_namedBy 1 := ⟨hw_1299, hw_7, ⟨by decide +kernel, by decide +kernel, by decide +kernel⟩, by decide⟩
theorem im_Mo_namedBy : Cond.instanceMethod m_Mo_namedBy.1 ∈ pm_WS := hw_1298
theorem se_Mo_namedBy : Cond.selects "TestTextModel" m_Mo_namedBy.1 m_Mo_namedBy.1 ∈ pm_WS := hw_sel (q := (m_Mo_namedBy.1, 60)) (by decide +kernel)
theorem ck_Mo_least : pm_ck m_Mo_least 1 := ⟨hw_1303, hw_7, ⟨by decide +kernel, by decide +kernel, by decide +kernel⟩, by decide⟩
theorem im_Mo_least : Cond.instanceMethod m_Mo_least.1 ∈ pm_WS := hw_1301
theorem se_Mo_least : Cond.selects "TestTextModel" m_Mo_least.1 m_Mo_least.1 ∈ pm_WS := hw_1302
theorem ck_Mo_count : pm_ck m_Mo_count 1 := ⟨hw_1306, hw_7, ⟨by decide +kernel, by decide +kernel, by decide +kernel⟩, by decide⟩
theorem sm_Mo_count : Cond.static m_Mo_count.1 ∈ pm_WS := hw_1305
theorem ck_Mo_seed : pm_ck m_Mo_seed 1 := ⟨hw_1310, hw_7, ⟨by decide +kernel, by decide +kernel, by decide +kernel⟩, by decide⟩
theorem im_Mo_seed : Cond.instanceMethod m_Mo_seed.1 ∈ pm_WS := hw_1308
theorem se_Mo_seed : Cond.selects "TestTextModel" m_Mo_seed.1 m_Mo_seed.1 ∈ pm_WS := hw_1309
theorem ck_Mo_shorter : pm_ck m_Mo_shorter 0 := ⟨hw_1315, hw_7, ⟨by decide +kernel, by decide +kernel, by decide +kernel⟩, by decide⟩
theorem im_Mo_shorter : Cond.instanceMethod m_Mo_shorter.1 ∈ pm_WS := hw_1313
theorem se_Mo_shorter : Cond.selects "TestTextModel" m_Mo_shorter.1 m_Mo_shorter.1 ∈ pm_WS := hw_1314
theorem ck_Mo_cases : pm_ck m_Mo_cases 2 := ⟨hw_1319, hw_7, ⟨by decide +kernel, by decide +kernel, by decide +kernel⟩, by decide⟩
theorem im_Mo_cases : Cond.instanceMethod m_Mo_cases.1 ∈ pm_WS := hw_1317
theorem se_Mo_cases : Cond.selects "TestTextModel" m_Mo_cases.1 m_Mo_cases.1 ∈ pm_WS := hw_1318
theorem ml_TT_19 : Cond.methodLink "TestText" 19 m_Plan_init.1 ∈ pm_WS := hw_38
theorem ml_TT_29 : Cond.methodLink "TestText" 29 m_Ans_init.1 ∈ pm_WS := hw_99
theorem ml_TT_50 : Cond.methodLink "TestText" 50 m_TT_addSign.1 ∈ pm_WS := hw_151
theorem ml_TT_54 : Cond.methodLink "TestText" 54 m_Ans_forget.1 ∈ pm_WS := hw_492
theorem ml_TT_59 : Cond.methodLink "TestText" 59 m_Rd_init.1 ∈ pm_WS := hw_498
theorem ml_TT_62 : Cond.methodLink "TestText" 62 m_Rd_readLines.1 ∈ pm_WS := hw_541
theorem ml_TT_73 : Cond.methodLink "TestText" 73 m_Plan_findLeast.1 ∈ pm_WS := hw_930
theorem ml_TT_80 : Cond.methodLink "TestText" 80 m_AL_size.1 ∈ pm_WS := hw_273
theorem ml_TT_86 : Cond.methodLink "TestText" 86 m_Plan_hasValue.1 ∈ pm_WS := hw_163
theorem ml_TT_99 : Cond.methodLink "TestText" 99 m_Ans_tell.1 ∈ pm_WS := hw_170
theorem ml_TT_106 : Cond.methodLink "TestText" 106 m_AL_isEmpty.1 ∈ pm_WS := hw_190
theorem ml_TT_110 : Cond.methodLink "TestText" 110 m_TT_beginTrace.1 ∈ pm_WS := hw_194
theorem ml_TT_116 : Cond.methodLink "TestText" 116 m_Run_init.1 ∈ pm_WS := hw_238
theorem ml_TT_119 : Cond.methodLink "TestText" 119 m_AL_get.1 ∈ pm_WS := hw_277
theorem ml_TT_125 : Cond.methodLink "TestText" 125 m_Run_doTest.1 ∈ pm_WS := hw_292
theorem ml_TT_132 : Cond.methodLink "TestText" 132 m_Math_max.1 ∈ pm_WS := hw_395
theorem ml_TT_138 : Cond.methodLink "TestText" 138 m_Tr_init.1 ∈ pm_WS := hw_199
theorem ml_TT_139 : Cond.methodLink "TestText" 139 m_Tr_forget.1 ∈ pm_WS := hw_232
theorem ml_TT_140 : Cond.methodLink "TestText" 140 m_Plan_testOf.1 ∈ pm_WS := hw_400
theorem ml_TT_153 : Cond.methodLink "TestText" 153 m_Int_bitCount.1 ∈ pm_WS := hw_415
theorem ml_TT_158 : Cond.methodLink "TestText" 158 m_TT_traceOf.1 ∈ pm_WS := hw_425
theorem ml_TT_162 : Cond.methodLink "TestText" 162 m_Tr_undoneAt.1 ∈ pm_WS := hw_429
theorem ml_TT_165 : Cond.methodLink "TestText" 165 m_Tr_firstDifference.1 ∈ pm_WS := hw_437
theorem ml_TT_169 : Cond.methodLink "TestText" 169 m_Plan_countBegun.1 ∈ pm_WS := hw_446
theorem ml_TT_173 : Cond.methodLink "TestText" 173 m_Plan_countTestsNaming.1 ∈ pm_WS := hw_451
theorem ml_TT_176 : Cond.methodLink "TestText" 176 m_TT_countStepsOfRuns.1 ∈ pm_WS := hw_455
theorem ml_TT_182 : Cond.methodLink "TestText" 182 m_Plan_leastAt.1 ∈ pm_WS := hw_463
theorem ml_TT_190 : Cond.methodLink "TestText" 190 m_Tr_hasStep.1 ∈ pm_WS := hw_480
theorem ml_Ans_27 : Cond.methodLink "TestText$Answers" 27 m_Ans_keyOf.1 ∈ pm_WS := hw_174
theorem ml_Ans_31 : Cond.methodLink "TestText$Answers" 31 m_Ans_countUpTo.1 ∈ pm_WS := hw_179
theorem ml_Ans_47 : Cond.methodLink "TestText$Answers" 47 m_Step_holds.1 ∈ pm_WS := hw_374
theorem ml_Plan_17 : Cond.methodLink "TestText$Plan" 17 m_AL_init.1 ∈ pm_WS := hw_44
theorem ml_Plan_33 : Cond.methodLink "TestText$Plan" 33 m_AL_size.1 ∈ pm_WS := hw_404
theorem ml_Plan_37 : Cond.methodLink "TestText$Plan" 37 m_AL_get.1 ∈ pm_WS := hw_405
theorem ml_Plan_47 : Cond.methodLink "TestText$Plan" 47 m_Plan_valueOf.1 ∈ pm_WS := hw_621
theorem ml_Plan_69 : Cond.methodLink "TestText$Plan" 69 m_Plan_namedBy.1 ∈ pm_WS := hw_934
theorem ml_Plan_73 : Cond.methodLink "TestText$Plan" 73 m_Int_bitCount.1 ∈ pm_WS := hw_942
theorem ml_Plan_78 : Cond.methodLink "TestText$Plan" 78 m_Plan_isIn.1 ∈ pm_WS := hw_938
theorem ml_Rd_21 : Cond.methodLink "TestText$Reader" 21 m_Wd_init.1 ∈ pm_WS := hw_504
theorem ml_Rd_32 : Cond.methodLink "TestText$Reader" 32 m_Wd_split.1 ∈ pm_WS := hw_545
theorem ml_Rd_40 : Cond.methodLink "TestText$Reader" 40 m_Rd_takeLine.1 ∈ pm_WS := hw_549
theorem ml_Rd_49 : Cond.methodLink "TestText$Reader" 49 m_Wd_is.1 ∈ pm_WS := hw_554
theorem ml_Rd_53 : Cond.methodLink "TestText$Reader" 53 m_Rd_takeName.1 ∈ pm_WS := hw_608
theorem ml_Rd_59 : Cond.methodLink "TestText$Reader" 59 m_Rd_takeTest.1 ∈ pm_WS := hw_626
theorem ml_Rd_64 : Cond.methodLink "TestText$Reader" 64 m_Rd_takeEnd.1 ∈ pm_WS := hw_736
theorem ml_Rd_80 : Cond.methodLink "TestText$Reader" 80 m_Rd_kindOfStep.1 ∈ pm_WS := hw_743
theorem ml_Rd_90 : Cond.methodLink "TestText$Reader" 90 m_AL_size.1 ∈ pm_WS := hw_630
theorem ml_Rd_95 : Cond.methodLink "TestText$Reader" 95 m_Step_init.1 ∈ pm_WS := hw_755
theorem ml_Rd_98 : Cond.methodLink "TestText$Reader" 98 m_Rd_fill.1 ∈ pm_WS := hw_802
theorem ml_Rd_102 : Cond.methodLink "TestText$Reader" 102 m_Test_take.1 ∈ pm_WS := hw_861
theorem ml_Rd_106 : Cond.methodLink "TestText$Reader" 106 m_AL_add.1 ∈ pm_WS := hw_682
theorem ml_Rd_110 : Cond.methodLink "TestText$Reader" 110 m_Wd_nameAt.1 ∈ pm_WS := hw_612
theorem ml_Rd_114 : Cond.methodLink "TestText$Reader" 114 m_Plan_isTaken.1 ∈ pm_WS := hw_617
theorem ml_Rd_128 : Cond.methodLink "TestText$Reader" 128 m_Test_init.1 ∈ pm_WS := hw_633
theorem ml_Rd_131 : Cond.methodLink "TestText$Reader" 131 m_AL_get.1 ∈ pm_WS := hw_740
theorem ml_Rd_155 : Cond.methodLink "TestText$Reader" 155 m_Rd_takeValue.1 ∈ pm_WS := hw_806
theorem ml_Rd_158 : Cond.methodLink "TestText$Reader" 158 m_Rd_takeNumber.1 ∈ pm_WS := hw_811
theorem ml_Rd_166 : Cond.methodLink "TestText$Reader" 166 m_Rd_takeSecond.1 ∈ pm_WS := hw_822
theorem ml_Rd_170 : Cond.methodLink "TestText$Reader" 170 m_Rd_takeComparison.1 ∈ pm_WS := hw_826
theorem ml_Rd_173 : Cond.methodLink "TestText$Reader" 173 m_Rd_takeFault.1 ∈ pm_WS := hw_839
theorem ml_Rd_176 : Cond.methodLink "TestText$Reader" 176 m_Rd_takeTimesLooped.1 ∈ pm_WS := hw_845
theorem ml_Rd_179 : Cond.methodLink "TestText$Reader" 179 m_Rd_openBlock.1 ∈ pm_WS := hw_849
theorem ml_Rd_182 : Cond.methodLink "TestText$Reader" 182 m_Rd_takeNumbers.1 ∈ pm_WS := hw_853
theorem ml_Rd_185 : Cond.methodLink "TestText$Reader" 185 m_Rd_takeAlways.1 ∈ pm_WS := hw_857
theorem ml_Rd_188 : Cond.methodLink "TestText$Reader" 188 m_Plan_valueOf.1 ∈ pm_WS := hw_810
theorem ml_Rd_195 : Cond.methodLink "TestText$Reader" 195 m_Wd_numberAt.1 ∈ pm_WS := hw_815
theorem ml_Rd_203 : Cond.methodLink "TestText$Reader" 203 m_Wd_opAt.1 ∈ pm_WS := hw_830
theorem ml_Run_38 : Cond.methodLink "TestText$Runner" 38 m_Test_beginAnew.1 ∈ pm_WS := hw_296
theorem ml_Run_49 : Cond.methodLink "TestText$Runner" 49 m_Arrs_fill.1 ∈ pm_WS := hw_300
theorem ml_Run_65 : Cond.methodLink "TestText$Runner" 65 m_Run_doSteps.1 ∈ pm_WS := hw_303
theorem ml_Run_78 : Cond.methodLink "TestText$Runner" 78 m_AL_size.1 ∈ pm_WS := hw_307
theorem ml_Run_87 : Cond.methodLink "TestText$Runner" 87 m_AL_get.1 ∈ pm_WS := hw_311
theorem ml_Run_100 : Cond.methodLink "TestText$Runner" 100 m_Run_undoFaults.1 ∈ pm_WS := hw_387
theorem ml_Run_103 : Cond.methodLink "TestText$Runner" 103 m_Tr_addUndone.1 ∈ pm_WS := hw_391
theorem ml_Run_109 : Cond.methodLink "TestText$Runner" 109 m_Math_min.1 ∈ pm_WS := hw_308
theorem ml_Run_115 : Cond.methodLink "TestText$Runner" 115 m_Run_doStep.1 ∈ pm_WS := hw_313
theorem ml_Run_122 : Cond.methodLink "TestText$Runner" 122 m_Run_doLoop.1 ∈ pm_WS := hw_379
theorem ml_Run_126 : Cond.methodLink "TestText$Runner" 126 m_Run_doCases.1 ∈ pm_WS := hw_383
theorem ml_Run_129 : Cond.methodLink "TestText$Runner" 129 m_Math_max.1 ∈ pm_WS := hw_349
theorem ml_Run_138 : Cond.methodLink "TestText$Runner" 138 m_Run_mayBegin.1 ∈ pm_WS := hw_317
theorem ml_Run_142 : Cond.methodLink "TestText$Runner" 142 m_Run_setValue.1 ∈ pm_WS := hw_329
theorem ml_Run_146 : Cond.methodLink "TestText$Runner" 146 m_Tr_isFull.1 ∈ pm_WS := hw_321
theorem ml_Run_153 : Cond.methodLink "TestText$Runner" 153 m_Run_leave.1 ∈ pm_WS := hw_325
theorem ml_Run_163 : Cond.methodLink "TestText$Runner" 163 m_Run_draw.1 ∈ pm_WS := hw_342
theorem ml_Run_169 : Cond.methodLink "TestText$Runner" 169 m_Run_valueNow.1 ∈ pm_WS := hw_352
theorem ml_Run_173 : Cond.methodLink "TestText$Runner" 173 m_Run_doWait.1 ∈ pm_WS := hw_362
theorem ml_Run_177 : Cond.methodLink "TestText$Runner" 177 m_Run_doCheck.1 ∈ pm_WS := hw_375
theorem ml_Run_180 : Cond.methodLink "TestText$Runner" 180 m_Run_pass.1 ∈ pm_WS := hw_333
theorem ml_Run_186 : Cond.methodLink "TestText$Runner" 186 m_Tr_add.1 ∈ pm_WS := hw_337
theorem ml_Run_197 : Cond.methodLink "TestText$Runner" 197 m_Ans_lastWithin.1 ∈ pm_WS := hw_357
theorem ml_Run_203 : Cond.methodLink "TestText$Runner" 203 m_Step_holds.1 ∈ pm_WS := hw_366
theorem ml_Run_207 : Cond.methodLink "TestText$Runner" 207 m_Ans_firstHolding.1 ∈ pm_WS := hw_370
theorem ml_Tr_34 : Cond.methodLink "TestText$Trace" 34 m_Tr_isFull.1 ∈ pm_WS := hw_341
theorem ml_Tr_38 : Cond.methodLink "TestText$Trace" 38 m_Math_min.1 ∈ pm_WS := hw_441
theorem ml_Wd_26 : Cond.methodLink "TestText$Words" 26 m_Wd_has.1 ∈ pm_WS := hw_558
theorem ml_Wd_30 : Cond.methodLink "TestText$Words" 30 m_Str_length.1 ∈ pm_WS := hw_562
theorem ml_Wd_36 : Cond.methodLink "TestText$Words" 36 m_Str_charAt.1 ∈ pm_WS := hw_572
theorem ml_Wd_45 : Cond.methodLink "TestText$Words" 45 m_Wd_is.1 ∈ pm_WS := hw_835
theorem ml_Law_7 : Cond.methodLink "TestTextLaw" 7 m_TT_read.1 ∈ pm_WS := hw_488
theorem ml_Law_15 : Cond.methodLink "TestTextLaw" 15 m_TT_init.1 ∈ pm_WS := hw_30
theorem ml_Law_18 : Cond.methodLink "TestTextLaw" 18 m_Mo_init.1 ∈ pm_WS := hw_945
theorem ml_Law_19 : Cond.methodLink "TestTextLaw" 19 m_TT_sign.1 ∈ pm_WS := hw_147
theorem ml_Law_23 : Cond.methodLink "TestTextLaw" 23 m_Mo_sign.1 ∈ pm_WS := hw_1135
theorem ml_Law_24 : Cond.methodLink "TestTextLaw" 24 m_Law_read.1 ∈ pm_WS := hw_484
theorem ml_Law_29 : Cond.methodLink "TestTextLaw" 29 m_Mo_read.1 ∈ pm_WS := hw_1139
theorem ml_Law_30 : Cond.methodLink "TestTextLaw" 30 m_Mo_thrown.1 ∈ pm_WS := hw_1131
theorem ml_Law_33 : Cond.methodLink "TestTextLaw" 33 m_TT_wrong.1 ∈ pm_WS := hw_155
theorem ml_Law_36 : Cond.methodLink "TestTextLaw" 36 m_Mo_wrong.1 ∈ pm_WS := hw_1211
theorem ml_Law_39 : Cond.methodLink "TestTextLaw" 39 m_TT_answer.1 ∈ pm_WS := hw_159
theorem ml_Law_43 : Cond.methodLink "TestTextLaw" 43 m_Mo_answer.1 ∈ pm_WS := hw_1215
theorem ml_Law_44 : Cond.methodLink "TestTextLaw" 44 m_TT_run.1 ∈ pm_WS := hw_186
theorem ml_Law_47 : Cond.methodLink "TestTextLaw" 47 m_Mo_run.1 ∈ pm_WS := hw_1220
theorem ml_Law_48 : Cond.methodLink "TestTextLaw" 48 m_TT_verdict.1 ∈ pm_WS := hw_396
theorem ml_Law_52 : Cond.methodLink "TestTextLaw" 52 m_Mo_verdict.1 ∈ pm_WS := hw_1268
theorem ml_Law_53 : Cond.methodLink "TestTextLaw" 53 m_TT_ended.1 ∈ pm_WS := hw_407
theorem ml_Law_57 : Cond.methodLink "TestTextLaw" 57 m_Mo_ended.1 ∈ pm_WS := hw_1276
theorem ml_Law_58 : Cond.methodLink "TestTextLaw" 58 m_TT_plant.1 ∈ pm_WS := hw_411
theorem ml_Law_62 : Cond.methodLink "TestTextLaw" 62 m_Mo_plant.1 ∈ pm_WS := hw_1280
theorem ml_Law_63 : Cond.methodLink "TestTextLaw" 63 m_TT_undone.1 ∈ pm_WS := hw_421
theorem ml_Law_66 : Cond.methodLink "TestTextLaw" 66 m_Mo_undone.1 ∈ pm_WS := hw_1284
theorem ml_Law_67 : Cond.methodLink "TestTextLaw" 67 m_TT_differ.1 ∈ pm_WS := hw_433
theorem ml_Law_70 : Cond.methodLink "TestTextLaw" 70 m_Mo_differ.1 ∈ pm_WS := hw_1288
theorem ml_Law_71 : Cond.methodLink "TestTextLaw" 71 m_TT_cover.1 ∈ pm_WS := hw_442
theorem ml_Law_74 : Cond.methodLink "TestTextLaw" 74 m_Mo_cover.1 ∈ pm_WS := hw_1292
theorem ml_Law_75 : Cond.methodLink "TestTextLaw" 75 m_TT_least.1 ∈ pm_WS := hw_459
theorem ml_Law_78 : Cond.methodLink "TestTextLaw" 78 m_Mo_least.1 ∈ pm_WS := hw_1300
theorem ml_Law_79 : Cond.methodLink "TestTextLaw" 79 m_TT_seed.1 ∈ pm_WS := hw_467
theorem ml_Law_83 : Cond.methodLink "TestTextLaw" 83 m_Mo_seed.1 ∈ pm_WS := hw_1307
theorem ml_Law_84 : Cond.methodLink "TestTextLaw" 84 m_TT_shorter.1 ∈ pm_WS := hw_472
theorem ml_Law_87 : Cond.methodLink "TestTextLaw" 87 m_Mo_shorter.1 ∈ pm_WS := hw_1312
theorem ml_Law_88 : Cond.methodLink "TestTextLaw" 88 m_TT_cases.1 ∈ pm_WS := hw_476
theorem ml_Law_91 : Cond.methodLink "TestTextLaw" 91 m_Mo_cases.1 ∈ pm_WS := hw_1316
theorem ml_Mo_146 : Cond.methodLink "TestTextModel" 146 m_Mo_next.1 ∈ pm_WS := hw_1147
theorem ml_Mo_160 : Cond.methodLink "TestTextModel" 160 m_Mo_same.1 ∈ pm_WS := hw_1171
theorem ml_Mo_164 : Cond.methodLink "TestTextModel" 164 m_Mo_isName.1 ∈ pm_WS := hw_1163
theorem ml_Mo_167 : Cond.methodLink "TestTextModel" 167 m_Mo_findName.1 ∈ pm_WS := hw_1167
theorem ml_Mo_177 : Cond.methodLink "TestTextModel" 177 m_Mo_is.1 ∈ pm_WS := hw_1155
theorem ml_Mo_181 : Cond.methodLink "TestTextModel" 181 m_Mo_newName.1 ∈ pm_WS := hw_1159
theorem ml_Mo_184 : Cond.methodLink "TestTextModel" 184 m_Mo_through.1 ∈ pm_WS := hw_1175
theorem ml_Mo_187 : Cond.methodLink "TestTextModel" 187 m_Mo_addTest.1 ∈ pm_WS := hw_1179
theorem ml_Mo_193 : Cond.methodLink "TestTextModel" 193 m_Mo_step.1 ∈ pm_WS := hw_1183
theorem ml_Mo_196 : Cond.methodLink "TestTextModel" 196 m_Mo_named.1 ∈ pm_WS := hw_1187
theorem ml_Mo_203 : Cond.methodLink "TestTextModel" 203 m_Mo_number.1 ∈ pm_WS := hw_1193
theorem ml_Mo_206 : Cond.methodLink "TestTextModel" 206 m_Mo_operator.1 ∈ pm_WS := hw_1199
theorem ml_Mo_215 : Cond.methodLink "TestTextModel" 215 m_Mo_block.1 ∈ pm_WS := hw_1206
theorem ml_Mo_226 : Cond.methodLink "TestTextModel" 226 m_Mo_line.1 ∈ pm_WS := hw_1151
theorem ml_Mo_235 : Cond.methodLink "TestTextModel" 235 m_Mo_read0.1 ∈ pm_WS := hw_1143
theorem ml_Mo_246 : Cond.methodLink "TestTextModel" 246 m_Mo_answerOf.1 ∈ pm_WS := hw_1260
theorem ml_Mo_250 : Cond.methodLink "TestTextModel" 250 m_Mo_known.1 ∈ pm_WS := hw_1256
theorem ml_Mo_259 : Cond.methodLink "TestTextModel" 259 m_Mo_begin.1 ∈ pm_WS := hw_1236
theorem ml_Mo_262 : Cond.methodLink "TestTextModel" 262 m_Mo_row.1 ∈ pm_WS := hw_1240
theorem ml_Mo_269 : Cond.methodLink "TestTextModel" 269 m_Mo_setting.1 ∈ pm_WS := hw_1232
theorem ml_Mo_283 : Cond.methodLink "TestTextModel" 283 m_Mo_holds.1 ∈ pm_WS := hw_1252
theorem ml_Mo_286 : Cond.methodLink "TestTextModel" 286 m_Mo_leave.1 ∈ pm_WS := hw_1264
theorem ml_Mo_290 : Cond.methodLink "TestTextModel" 290 m_Mo_simple.1 ∈ pm_WS := hw_1244
theorem ml_Mo_294 : Cond.methodLink "TestTextModel" 294 m_Mo_go.1 ∈ pm_WS := hw_1228
theorem ml_Mo_301 : Cond.methodLink "TestTextModel" 301 m_Mo_test.1 ∈ pm_WS := hw_1224
theorem ml_Mo_305 : Cond.methodLink "TestTextModel" 305 m_Mo_noTest.1 ∈ pm_WS := hw_1272
theorem ml_Mo_308 : Cond.methodLink "TestTextModel" 308 m_Mo_namedBy.1 ∈ pm_WS := hw_1296
theorem ml_Mo_311 : Cond.methodLink "TestTextModel" 311 m_Mo_count.1 ∈ pm_WS := hw_1304
theorem ml_Str_335 : Cond.methodLink "java/lang/String" 335 m_Str_coder.1 ∈ pm_WS := hw_566
theorem ml_Str_492 : Cond.methodLink "java/lang/String" 492 m_Str_isLatin1.1 ∈ pm_WS := hw_576
theorem ml_Str_495 : Cond.methodLink "java/lang/String" 495 m_Lat_charAt.1 ∈ pm_WS := hw_580
theorem ml_Str_1059 : Cond.methodLink "java/lang/String" 1059 m_Prec_checkIndex.1 ∈ pm_WS := hw_588
theorem ml_Lat_9 : Cond.methodLink "java/lang/StringLatin1" 9 m_Str_checkIndex.1 ∈ pm_WS := hw_583
theorem ml_U16_414 : Cond.methodLink "java/lang/StringUTF16" 414 m_Str_checkIndex.1 ∈ pm_WS := hw_598
theorem ml_AbL_1 : Cond.methodLink "java/util/AbstractList" 1 m_AbC_init.1 ∈ pm_WS := hw_50
theorem ml_AL_1 : Cond.methodLink "java/util/ArrayList" 1 m_AbL_init.1 ∈ pm_WS := hw_47
theorem ml_AL_66 : Cond.methodLink "java/util/ArrayList" 66 m_Arrs_copyOf.1 ∈ pm_WS := hw_706
theorem ml_AL_69 : Cond.methodLink "java/util/ArrayList" 69 m_AL_grow2.1 ∈ pm_WS := hw_694
theorem ml_AL_73 : Cond.methodLink "java/util/ArrayList" 73 m_ArSu_newLength.1 ∈ pm_WS := hw_698
theorem ml_AL_79 : Cond.methodLink "java/util/ArrayList" 79 m_Math_max.1 ∈ pm_WS := hw_733
theorem ml_AL_118 : Cond.methodLink "java/util/ArrayList" 118 m_Objs_checkIndex.1 ∈ pm_WS := hw_281
theorem ml_AL_123 : Cond.methodLink "java/util/ArrayList" 123 m_AL_elementData.1 ∈ pm_WS := hw_287
theorem ml_AL_129 : Cond.methodLink "java/util/ArrayList" 129 m_AL_grow.1 ∈ pm_WS := hw_690
theorem ml_AL_131 : Cond.methodLink "java/util/ArrayList" 131 m_AL_add2.1 ∈ pm_WS := hw_686
theorem ml_Arrs_300 : Cond.methodLink "java/util/Arrays" 300 m_Arrs_copyOf2.1 ∈ pm_WS := hw_725
theorem ml_Arrs_304 : Cond.methodLink "java/util/Arrays" 304 m_Math_min.1 ∈ pm_WS := hw_731
theorem ml_Objs_105 : Cond.methodLink "java/util/Objects" 105 m_Prec_checkIndex.1 ∈ pm_WS := hw_284
theorem ml_ArSu_194 : Cond.methodLink "jdk/internal/util/ArraysSupport" 194 m_Math_max.1 ∈ pm_WS := hw_701
theorem ml_ArSu_201 : Cond.methodLink "jdk/internal/util/ArraysSupport" 201 m_ArSu_hugeLength.1 ∈ pm_WS := hw_703
