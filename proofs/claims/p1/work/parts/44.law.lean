/-! The law's wrappers: an exception of the class becomes a number -/
theorem d_Law_type_0 : decode Y_Law_type.2.1 0 = .ok (.aload_n 0, 1) := by decide +kernel
theorem d_Law_type_1 : decode Y_Law_type.2.1 1 = .ok (.iload_n 1, 1) := by decide +kernel
theorem d_Law_type_2 : decode Y_Law_type.2.1 2 = .ok (.iload_n 2, 1) := by decide +kernel
theorem d_Law_type_3 : decode Y_Law_type.2.1 3 = .ok (.invokevirtual 7, 3) := by decide +kernel
theorem d_Law_type_6 : decode Y_Law_type.2.1 6 = .ok (.goto 9, 3) := by decide +kernel
theorem d_Law_type_9 : decode Y_Law_type.2.1 9 = .ok (.astore_n 3, 1) := by decide +kernel
theorem d_Law_type_10 : decode Y_Law_type.2.1 10 = .ok (.iconst 1, 1) := by decide +kernel
theorem d_Law_type_11 : decode Y_Law_type.2.1 11 = .ok (.ireturn, 1) := by decide +kernel
theorem d_Law_type_12 : decode Y_Law_type.2.1 12 = .ok (.astore_n 3, 1) := by decide +kernel
theorem d_Law_type_13 : decode Y_Law_type.2.1 13 = .ok (.iconst 2, 1) := by decide +kernel
theorem d_Law_type_14 : decode Y_Law_type.2.1 14 = .ok (.ireturn, 1) := by decide +kernel
theorem d_Law_type_15 : decode Y_Law_type.2.1 15 = .ok (.iconst 0, 1) := by decide +kernel
theorem d_Law_type_16 : decode Y_Law_type.2.1 16 = .ok (.ireturn, 1) := by decide +kernel
theorem d_Law_argument_0 : decode Y_Law_argument.2.1 0 = .ok (.aload 4, 2) := by decide +kernel
theorem d_Law_argument_2 : decode Y_Law_argument.2.1 2 = .ok (.iconst 0, 1) := by decide +kernel
theorem d_Law_argument_3 : decode Y_Law_argument.2.1 3 = .ok (.aload_n 0, 1) := by decide +kernel
theorem d_Law_argument_4 : decode Y_Law_argument.2.1 4 = .ok (.iload_n 1, 1) := by decide +kernel
theorem d_Law_argument_5 : decode Y_Law_argument.2.1 5 = .ok (.iload_n 2, 1) := by decide +kernel
theorem d_Law_argument_6 : decode Y_Law_argument.2.1 6 = .ok (.iload_n 3, 1) := by decide +kernel
theorem d_Law_argument_7 : decode Y_Law_argument.2.1 7 = .ok (.invokevirtual 17, 3) := by decide +kernel
theorem d_Law_argument_10 : decode Y_Law_argument.2.1 10 = .ok (.i2l, 1) := by decide +kernel
theorem d_Law_argument_11 : decode Y_Law_argument.2.1 11 = .ok (.lastore, 1) := by decide +kernel
theorem d_Law_argument_12 : decode Y_Law_argument.2.1 12 = .ok (.goto 11, 3) := by decide +kernel
theorem d_Law_argument_15 : decode Y_Law_argument.2.1 15 = .ok (.astore 5, 2) := by decide +kernel
theorem d_Law_argument_17 : decode Y_Law_argument.2.1 17 = .ok (.iconst 1, 1) := by decide +kernel
theorem d_Law_argument_18 : decode Y_Law_argument.2.1 18 = .ok (.ireturn, 1) := by decide +kernel
theorem d_Law_argument_19 : decode Y_Law_argument.2.1 19 = .ok (.astore 5, 2) := by decide +kernel
theorem d_Law_argument_21 : decode Y_Law_argument.2.1 21 = .ok (.iconst 2, 1) := by decide +kernel
theorem d_Law_argument_22 : decode Y_Law_argument.2.1 22 = .ok (.ireturn, 1) := by decide +kernel
theorem d_Law_argument_23 : decode Y_Law_argument.2.1 23 = .ok (.iconst 0, 1) := by decide +kernel
theorem d_Law_argument_24 : decode Y_Law_argument.2.1 24 = .ok (.ireturn, 1) := by decide +kernel
theorem d_Law_any_0 : decode Y_Law_any.2.1 0 = .ok (.aload_n 2, 1) := by decide +kernel
theorem d_Law_any_1 : decode Y_Law_any.2.1 1 = .ok (.iconst 0, 1) := by decide +kernel
theorem d_Law_any_2 : decode Y_Law_any.2.1 2 = .ok (.aload_n 0, 1) := by decide +kernel
theorem d_Law_any_3 : decode Y_Law_any.2.1 3 = .ok (.iload_n 1, 1) := by decide +kernel
theorem d_Law_any_4 : decode Y_Law_any.2.1 4 = .ok (.invokevirtual 21, 3) := by decide +kernel
theorem d_Law_any_7 : decode Y_Law_any.2.1 7 = .ok (.i2l, 1) := by decide +kernel
theorem d_Law_any_8 : decode Y_Law_any.2.1 8 = .ok (.lastore, 1) := by decide +kernel
theorem d_Law_any_9 : decode Y_Law_any.2.1 9 = .ok (.goto 9, 3) := by decide +kernel
theorem d_Law_any_12 : decode Y_Law_any.2.1 12 = .ok (.astore_n 3, 1) := by decide +kernel
theorem d_Law_any_13 : decode Y_Law_any.2.1 13 = .ok (.iconst 1, 1) := by decide +kernel
theorem d_Law_any_14 : decode Y_Law_any.2.1 14 = .ok (.ireturn, 1) := by decide +kernel
theorem d_Law_any_15 : decode Y_Law_any.2.1 15 = .ok (.astore_n 3, 1) := by decide +kernel
theorem d_Law_any_16 : decode Y_Law_any.2.1 16 = .ok (.iconst 2, 1) := by decide +kernel
theorem d_Law_any_17 : decode Y_Law_any.2.1 17 = .ok (.ireturn, 1) := by decide +kernel
theorem d_Law_any_18 : decode Y_Law_any.2.1 18 = .ok (.iconst 0, 1) := by decide +kernel
theorem d_Law_any_19 : decode Y_Law_any.2.1 19 = .ok (.ireturn, 1) := by decide +kernel
theorem d_Law_number_0 : decode Y_Law_number.2.1 0 = .ok (.aload 4, 2) := by decide +kernel
theorem d_Law_number_2 : decode Y_Law_number.2.1 2 = .ok (.iconst 0, 1) := by decide +kernel
theorem d_Law_number_3 : decode Y_Law_number.2.1 3 = .ok (.aload_n 0, 1) := by decide +kernel
theorem d_Law_number_4 : decode Y_Law_number.2.1 4 = .ok (.iload_n 1, 1) := by decide +kernel
theorem d_Law_number_5 : decode Y_Law_number.2.1 5 = .ok (.iload_n 2, 1) := by decide +kernel
theorem d_Law_number_6 : decode Y_Law_number.2.1 6 = .ok (.iload_n 3, 1) := by decide +kernel
theorem d_Law_number_7 : decode Y_Law_number.2.1 7 = .ok (.invokevirtual 25, 3) := by decide +kernel
theorem d_Law_number_10 : decode Y_Law_number.2.1 10 = .ok (.i2l, 1) := by decide +kernel
theorem d_Law_number_11 : decode Y_Law_number.2.1 11 = .ok (.lastore, 1) := by decide +kernel
theorem d_Law_number_12 : decode Y_Law_number.2.1 12 = .ok (.goto 11, 3) := by decide +kernel
theorem d_Law_number_15 : decode Y_Law_number.2.1 15 = .ok (.astore 5, 2) := by decide +kernel
theorem d_Law_number_17 : decode Y_Law_number.2.1 17 = .ok (.iconst 1, 1) := by decide +kernel
theorem d_Law_number_18 : decode Y_Law_number.2.1 18 = .ok (.ireturn, 1) := by decide +kernel
theorem d_Law_number_19 : decode Y_Law_number.2.1 19 = .ok (.astore 5, 2) := by decide +kernel
theorem d_Law_number_21 : decode Y_Law_number.2.1 21 = .ok (.iconst 2, 1) := by decide +kernel
theorem d_Law_number_22 : decode Y_Law_number.2.1 22 = .ok (.ireturn, 1) := by decide +kernel
theorem d_Law_number_23 : decode Y_Law_number.2.1 23 = .ok (.iconst 0, 1) := by decide +kernel
theorem d_Law_number_24 : decode Y_Law_number.2.1 24 = .ok (.ireturn, 1) := by decide +kernel
theorem d_Law_make_0 : decode Y_Law_make.2.1 0 = .ok (.aload 4, 2) := by decide +kernel
theorem d_Law_make_2 : decode Y_Law_make.2.1 2 = .ok (.iconst 0, 1) := by decide +kernel
theorem d_Law_make_3 : decode Y_Law_make.2.1 3 = .ok (.aload_n 0, 1) := by decide +kernel
theorem d_Law_make_4 : decode Y_Law_make.2.1 4 = .ok (.iload_n 1, 1) := by decide +kernel
theorem d_Law_make_5 : decode Y_Law_make.2.1 5 = .ok (.iload_n 2, 1) := by decide +kernel
theorem d_Law_make_6 : decode Y_Law_make.2.1 6 = .ok (.iload_n 3, 1) := by decide +kernel
theorem d_Law_make_7 : decode Y_Law_make.2.1 7 = .ok (.invokevirtual 29, 3) := by decide +kernel
theorem d_Law_make_10 : decode Y_Law_make.2.1 10 = .ok (.i2l, 1) := by decide +kernel
theorem d_Law_make_11 : decode Y_Law_make.2.1 11 = .ok (.lastore, 1) := by decide +kernel
theorem d_Law_make_12 : decode Y_Law_make.2.1 12 = .ok (.goto 11, 3) := by decide +kernel
theorem d_Law_make_15 : decode Y_Law_make.2.1 15 = .ok (.astore 5, 2) := by decide +kernel
theorem d_Law_make_17 : decode Y_Law_make.2.1 17 = .ok (.iconst 1, 1) := by decide +kernel
theorem d_Law_make_18 : decode Y_Law_make.2.1 18 = .ok (.ireturn, 1) := by decide +kernel
theorem d_Law_make_19 : decode Y_Law_make.2.1 19 = .ok (.astore 5, 2) := by decide +kernel
theorem d_Law_make_21 : decode Y_Law_make.2.1 21 = .ok (.iconst 2, 1) := by decide +kernel
theorem d_Law_make_22 : decode Y_Law_make.2.1 22 = .ok (.ireturn, 1) := by decide +kernel
theorem d_Law_make_23 : decode Y_Law_make.2.1 23 = .ok (.iconst 0, 1) := by decide +kernel
theorem d_Law_make_24 : decode Y_Law_make.2.1 24 = .ok (.ireturn, 1) := by decide +kernel
theorem d_Law_either_0 : decode Y_Law_either.2.1 0 = .ok (.aload_n 1, 1) := by decide +kernel
theorem d_Law_either_1 : decode Y_Law_either.2.1 1 = .ok (.iconst 0, 1) := by decide +kernel
theorem d_Law_either_2 : decode Y_Law_either.2.1 2 = .ok (.aload_n 0, 1) := by decide +kernel
theorem d_Law_either_3 : decode Y_Law_either.2.1 3 = .ok (.invokevirtual 32, 3) := by decide +kernel
theorem d_Law_either_6 : decode Y_Law_either.2.1 6 = .ok (.i2l, 1) := by decide +kernel
theorem d_Law_either_7 : decode Y_Law_either.2.1 7 = .ok (.lastore, 1) := by decide +kernel
theorem d_Law_either_8 : decode Y_Law_either.2.1 8 = .ok (.goto 6, 3) := by decide +kernel
theorem d_Law_either_11 : decode Y_Law_either.2.1 11 = .ok (.astore_n 2, 1) := by decide +kernel
theorem d_Law_either_12 : decode Y_Law_either.2.1 12 = .ok (.iconst 1, 1) := by decide +kernel
theorem d_Law_either_13 : decode Y_Law_either.2.1 13 = .ok (.ireturn, 1) := by decide +kernel
theorem d_Law_either_14 : decode Y_Law_either.2.1 14 = .ok (.iconst 0, 1) := by decide +kernel
theorem d_Law_either_15 : decode Y_Law_either.2.1 15 = .ok (.ireturn, 1) := by decide +kernel
theorem d_Law_name_0 : decode Y_Law_name.2.1 0 = .ok (.aload_n 2, 1) := by decide +kernel
theorem d_Law_name_1 : decode Y_Law_name.2.1 1 = .ok (.iconst 0, 1) := by decide +kernel
theorem d_Law_name_2 : decode Y_Law_name.2.1 2 = .ok (.aload_n 0, 1) := by decide +kernel
theorem d_Law_name_3 : decode Y_Law_name.2.1 3 = .ok (.iload_n 1, 1) := by decide +kernel
theorem d_Law_name_4 : decode Y_Law_name.2.1 4 = .ok (.invokevirtual 36, 3) := by decide +kernel
theorem d_Law_name_7 : decode Y_Law_name.2.1 7 = .ok (.i2l, 1) := by decide +kernel
theorem d_Law_name_8 : decode Y_Law_name.2.1 8 = .ok (.lastore, 1) := by decide +kernel
theorem d_Law_name_9 : decode Y_Law_name.2.1 9 = .ok (.goto 9, 3) := by decide +kernel
theorem d_Law_name_12 : decode Y_Law_name.2.1 12 = .ok (.astore_n 3, 1) := by decide +kernel
theorem d_Law_name_13 : decode Y_Law_name.2.1 13 = .ok (.iconst 1, 1) := by decide +kernel
theorem d_Law_name_14 : decode Y_Law_name.2.1 14 = .ok (.ireturn, 1) := by decide +kernel
theorem d_Law_name_15 : decode Y_Law_name.2.1 15 = .ok (.astore_n 3, 1) := by decide +kernel
theorem d_Law_name_16 : decode Y_Law_name.2.1 16 = .ok (.iconst 2, 1) := by decide +kernel
theorem d_Law_name_17 : decode Y_Law_name.2.1 17 = .ok (.ireturn, 1) := by decide +kernel
theorem d_Law_name_18 : decode Y_Law_name.2.1 18 = .ok (.iconst 0, 1) := by decide +kernel
theorem d_Law_name_19 : decode Y_Law_name.2.1 19 = .ok (.ireturn, 1) := by decide +kernel
theorem d_Law_addCase_0 : decode Y_Law_addCase.2.1 0 = .ok (.aload_n 2, 1) := by decide +kernel
theorem d_Law_addCase_1 : decode Y_Law_addCase.2.1 1 = .ok (.iconst 0, 1) := by decide +kernel
theorem d_Law_addCase_2 : decode Y_Law_addCase.2.1 2 = .ok (.aload_n 0, 1) := by decide +kernel
theorem d_Law_addCase_3 : decode Y_Law_addCase.2.1 3 = .ok (.iload_n 1, 1) := by decide +kernel
theorem d_Law_addCase_4 : decode Y_Law_addCase.2.1 4 = .ok (.invokevirtual 39, 3) := by decide +kernel
theorem d_Law_addCase_7 : decode Y_Law_addCase.2.1 7 = .ok (.i2l, 1) := by decide +kernel
theorem d_Law_addCase_8 : decode Y_Law_addCase.2.1 8 = .ok (.lastore, 1) := by decide +kernel
theorem d_Law_addCase_9 : decode Y_Law_addCase.2.1 9 = .ok (.goto 6, 3) := by decide +kernel
theorem d_Law_addCase_12 : decode Y_Law_addCase.2.1 12 = .ok (.astore_n 3, 1) := by decide +kernel
theorem d_Law_addCase_13 : decode Y_Law_addCase.2.1 13 = .ok (.iconst 1, 1) := by decide +kernel
theorem d_Law_addCase_14 : decode Y_Law_addCase.2.1 14 = .ok (.ireturn, 1) := by decide +kernel
theorem d_Law_addCase_15 : decode Y_Law_addCase.2.1 15 = .ok (.iconst 0, 1) := by decide +kernel
theorem d_Law_addCase_16 : decode Y_Law_addCase.2.1 16 = .ok (.ireturn, 1) := by decide +kernel
theorem d_Law_build_0 : decode Y_Law_build.2.1 0 = .ok (.aload_n 1, 1) := by decide +kernel
theorem d_Law_build_1 : decode Y_Law_build.2.1 1 = .ok (.iconst 0, 1) := by decide +kernel
theorem d_Law_build_2 : decode Y_Law_build.2.1 2 = .ok (.aload_n 0, 1) := by decide +kernel
theorem d_Law_build_3 : decode Y_Law_build.2.1 3 = .ok (.invokevirtual 43, 3) := by decide +kernel
theorem d_Law_build_6 : decode Y_Law_build.2.1 6 = .ok (.i2l, 1) := by decide +kernel
theorem d_Law_build_7 : decode Y_Law_build.2.1 7 = .ok (.lastore, 1) := by decide +kernel
theorem d_Law_build_8 : decode Y_Law_build.2.1 8 = .ok (.goto 9, 3) := by decide +kernel
theorem d_Law_build_11 : decode Y_Law_build.2.1 11 = .ok (.astore_n 2, 1) := by decide +kernel
theorem d_Law_build_12 : decode Y_Law_build.2.1 12 = .ok (.iconst 1, 1) := by decide +kernel
theorem d_Law_build_13 : decode Y_Law_build.2.1 13 = .ok (.ireturn, 1) := by decide +kernel
theorem d_Law_build_14 : decode Y_Law_build.2.1 14 = .ok (.astore_n 2, 1) := by decide +kernel
theorem d_Law_build_15 : decode Y_Law_build.2.1 15 = .ok (.iconst 2, 1) := by decide +kernel
theorem d_Law_build_16 : decode Y_Law_build.2.1 16 = .ok (.ireturn, 1) := by decide +kernel
theorem d_Law_build_17 : decode Y_Law_build.2.1 17 = .ok (.iconst 0, 1) := by decide +kernel
theorem d_Law_build_18 : decode Y_Law_build.2.1 18 = .ok (.ireturn, 1) := by decide +kernel
theorem d_Law_match_0 : decode Y_Law_match.2.1 0 = .ok (.aload_n 2, 1) := by decide +kernel
theorem d_Law_match_1 : decode Y_Law_match.2.1 1 = .ok (.iconst 0, 1) := by decide +kernel
theorem d_Law_match_2 : decode Y_Law_match.2.1 2 = .ok (.aload_n 0, 1) := by decide +kernel
theorem d_Law_match_3 : decode Y_Law_match.2.1 3 = .ok (.iload_n 1, 1) := by decide +kernel
theorem d_Law_match_4 : decode Y_Law_match.2.1 4 = .ok (.invokevirtual 48, 3) := by decide +kernel
theorem d_Law_match_7 : decode Y_Law_match.2.1 7 = .ok (.i2l, 1) := by decide +kernel
theorem d_Law_match_8 : decode Y_Law_match.2.1 8 = .ok (.lastore, 1) := by decide +kernel
theorem d_Law_match_9 : decode Y_Law_match.2.1 9 = .ok (.goto 6, 3) := by decide +kernel
theorem d_Law_match_12 : decode Y_Law_match.2.1 12 = .ok (.astore_n 3, 1) := by decide +kernel
theorem d_Law_match_13 : decode Y_Law_match.2.1 13 = .ok (.iconst 1, 1) := by decide +kernel
theorem d_Law_match_14 : decode Y_Law_match.2.1 14 = .ok (.ireturn, 1) := by decide +kernel
theorem d_Law_match_15 : decode Y_Law_match.2.1 15 = .ok (.iconst 0, 1) := by decide +kernel
theorem d_Law_match_16 : decode Y_Law_match.2.1 16 = .ok (.ireturn, 1) := by decide +kernel
theorem d_Law_bound_0 : decode Y_Law_bound.2.1 0 = .ok (.aload_n 2, 1) := by decide +kernel
theorem d_Law_bound_1 : decode Y_Law_bound.2.1 1 = .ok (.iconst 0, 1) := by decide +kernel
theorem d_Law_bound_2 : decode Y_Law_bound.2.1 2 = .ok (.aload_n 0, 1) := by decide +kernel
theorem d_Law_bound_3 : decode Y_Law_bound.2.1 3 = .ok (.iload_n 1, 1) := by decide +kernel
theorem d_Law_bound_4 : decode Y_Law_bound.2.1 4 = .ok (.invokevirtual 51, 3) := by decide +kernel
theorem d_Law_bound_7 : decode Y_Law_bound.2.1 7 = .ok (.i2l, 1) := by decide +kernel
theorem d_Law_bound_8 : decode Y_Law_bound.2.1 8 = .ok (.lastore, 1) := by decide +kernel
theorem d_Law_bound_9 : decode Y_Law_bound.2.1 9 = .ok (.goto 6, 3) := by decide +kernel
theorem d_Law_bound_12 : decode Y_Law_bound.2.1 12 = .ok (.astore_n 3, 1) := by decide +kernel
theorem d_Law_bound_13 : decode Y_Law_bound.2.1 13 = .ok (.iconst 1, 1) := by decide +kernel
theorem d_Law_bound_14 : decode Y_Law_bound.2.1 14 = .ok (.ireturn, 1) := by decide +kernel
theorem d_Law_bound_15 : decode Y_Law_bound.2.1 15 = .ok (.iconst 0, 1) := by decide +kernel
theorem d_Law_bound_16 : decode Y_Law_bound.2.1 16 = .ok (.ireturn, 1) := by decide +kernel
theorem d_Law_boundAt_0 : decode Y_Law_boundAt.2.1 0 = .ok (.aload_n 3, 1) := by decide +kernel
theorem d_Law_boundAt_1 : decode Y_Law_boundAt.2.1 1 = .ok (.iconst 0, 1) := by decide +kernel
theorem d_Law_boundAt_2 : decode Y_Law_boundAt.2.1 2 = .ok (.aload_n 0, 1) := by decide +kernel
theorem d_Law_boundAt_3 : decode Y_Law_boundAt.2.1 3 = .ok (.iload_n 1, 1) := by decide +kernel
theorem d_Law_boundAt_4 : decode Y_Law_boundAt.2.1 4 = .ok (.iload_n 2, 1) := by decide +kernel
theorem d_Law_boundAt_5 : decode Y_Law_boundAt.2.1 5 = .ok (.invokevirtual 54, 3) := by decide +kernel
theorem d_Law_boundAt_8 : decode Y_Law_boundAt.2.1 8 = .ok (.i2l, 1) := by decide +kernel
theorem d_Law_boundAt_9 : decode Y_Law_boundAt.2.1 9 = .ok (.lastore, 1) := by decide +kernel
theorem d_Law_boundAt_10 : decode Y_Law_boundAt.2.1 10 = .ok (.goto 7, 3) := by decide +kernel
theorem d_Law_boundAt_13 : decode Y_Law_boundAt.2.1 13 = .ok (.astore 4, 2) := by decide +kernel
theorem d_Law_boundAt_15 : decode Y_Law_boundAt.2.1 15 = .ok (.iconst 1, 1) := by decide +kernel
theorem d_Law_boundAt_16 : decode Y_Law_boundAt.2.1 16 = .ok (.ireturn, 1) := by decide +kernel
theorem d_Law_boundAt_17 : decode Y_Law_boundAt.2.1 17 = .ok (.iconst 0, 1) := by decide +kernel
theorem d_Law_boundAt_18 : decode Y_Law_boundAt.2.1 18 = .ok (.ireturn, 1) := by decide +kernel
theorem d_Law_question_0 : decode Y_Law_question.2.1 0 = .ok (.aload_n 3, 1) := by decide +kernel
theorem d_Law_question_1 : decode Y_Law_question.2.1 1 = .ok (.iconst 0, 1) := by decide +kernel
theorem d_Law_question_2 : decode Y_Law_question.2.1 2 = .ok (.aload_n 0, 1) := by decide +kernel
theorem d_Law_question_3 : decode Y_Law_question.2.1 3 = .ok (.iload_n 1, 1) := by decide +kernel
theorem d_Law_question_4 : decode Y_Law_question.2.1 4 = .ok (.iload_n 2, 1) := by decide +kernel
theorem d_Law_question_5 : decode Y_Law_question.2.1 5 = .ok (.invokevirtual 58, 3) := by decide +kernel
theorem d_Law_question_8 : decode Y_Law_question.2.1 8 = .ok (.i2l, 1) := by decide +kernel
theorem d_Law_question_9 : decode Y_Law_question.2.1 9 = .ok (.lastore, 1) := by decide +kernel
theorem d_Law_question_10 : decode Y_Law_question.2.1 10 = .ok (.goto 7, 3) := by decide +kernel
theorem d_Law_question_13 : decode Y_Law_question.2.1 13 = .ok (.astore 4, 2) := by decide +kernel
theorem d_Law_question_15 : decode Y_Law_question.2.1 15 = .ok (.iconst 1, 1) := by decide +kernel
theorem d_Law_question_16 : decode Y_Law_question.2.1 16 = .ok (.ireturn, 1) := by decide +kernel
theorem d_Law_question_17 : decode Y_Law_question.2.1 17 = .ok (.iconst 0, 1) := by decide +kernel
theorem d_Law_question_18 : decode Y_Law_question.2.1 18 = .ok (.ireturn, 1) := by decide +kernel
theorem d_Law_about_0 : decode Y_Law_about.2.1 0 = .ok (.aload_n 2, 1) := by decide +kernel
theorem d_Law_about_1 : decode Y_Law_about.2.1 1 = .ok (.iconst 0, 1) := by decide +kernel
theorem d_Law_about_2 : decode Y_Law_about.2.1 2 = .ok (.aload_n 0, 1) := by decide +kernel
theorem d_Law_about_3 : decode Y_Law_about.2.1 3 = .ok (.iload_n 1, 1) := by decide +kernel
theorem d_Law_about_4 : decode Y_Law_about.2.1 4 = .ok (.invokevirtual 61, 3) := by decide +kernel
theorem d_Law_about_7 : decode Y_Law_about.2.1 7 = .ok (.i2l, 1) := by decide +kernel
theorem d_Law_about_8 : decode Y_Law_about.2.1 8 = .ok (.lastore, 1) := by decide +kernel
theorem d_Law_about_9 : decode Y_Law_about.2.1 9 = .ok (.goto 6, 3) := by decide +kernel
theorem d_Law_about_12 : decode Y_Law_about.2.1 12 = .ok (.astore_n 3, 1) := by decide +kernel
theorem d_Law_about_13 : decode Y_Law_about.2.1 13 = .ok (.iconst 1, 1) := by decide +kernel
theorem d_Law_about_14 : decode Y_Law_about.2.1 14 = .ok (.ireturn, 1) := by decide +kernel
theorem d_Law_about_15 : decode Y_Law_about.2.1 15 = .ok (.iconst 0, 1) := by decide +kernel
theorem d_Law_about_16 : decode Y_Law_about.2.1 16 = .ok (.ireturn, 1) := by decide +kernel
section WR
variable {E : gE} {d : Nat} {G : gS} {a w : Nat} {fs : List Value} {Qc : gO → gS → Prop} {R : Int32 → gS → Prop}
set_option maxHeartbeats 400000 in
set_option maxRecDepth 100000 in
theorem w_type (p0 p1 : Int32) (ha : G.1 a = some (.inr (12, fs))) (hM : GM E Y_Mill_type d [.ref a, .int p0, .int p1] G Qc) (kr : ∀ v G', Qc (.inl v) G' → v = none ∧ R 0 G') (kt : ∀ D G', Qc (.inr D) G' → (D = "java/lang/IllegalArgumentException" ∧ R 1 G') ∨ (D = "java/lang/IllegalStateException" ∧ R 2 G')) : GM E Y_Law_type (d + 1) [.ref a, .int p0, .int p1] G (fun o G' => ∃ c, o = .inl (some (.int c)) ∧ R c G') := by
  refine g_entry (by decide) (by simp [Value.category]) (Nat.le_of_ble_eq_true rfl) ?_
  refine g_aload_n d_Law_type_0 rfl ?_
  refine g_iload_n d_Law_type_1 rfl ?_
  refine g_iload_n d_Law_type_2 rfl ?_
  refine c_VH (as := [.int p0, .int p1]) kv_Mill_type ml_Law_7 rfl ha hM rfl (Nat.le_of_ble_eq_true rfl) d_Law_type_3 (fun v G' hq => ?_) (fun hB D G' hq => ?_)
  · obtain ⟨rfl, hR⟩ := kr v G' hq
    show GT E Y_Law_type (d + 1) G 6 _ [] G' _
    refine g_goto (tgt := 15) d_Law_type_6 (by decide) ?_
    refine g_iconst (v := 0) d_Law_type_15 (by decide) ?_
    refine g_iret rfl d_Law_type_16 ?_
    exact ⟨0, rfl, hR⟩
  · rcases kt D G' hq with ⟨rfl, hR⟩ | ⟨rfl, hR⟩
    · refine ⟨9, ⟨[], [(0, 6, 12, 15)], (0, 6, 9, 13), rfl, rfl, by decide, by decide, by decide, cl_Law_13, ca_IAE_IAE, fun z hz => by cases hz⟩, fun q => ?_⟩
      refine g_astore_n d_Law_type_9 (by decide) rfl ?_
      refine g_iconst (v := 1) d_Law_type_10 (by decide) ?_
      refine g_iret rfl d_Law_type_11 ?_
      exact ⟨1, rfl, hR⟩
    · refine ⟨12, ⟨[(0, 6, 9, 13)], [], (0, 6, 12, 15), rfl, rfl, by decide, by decide, by decide, cl_Law_15, ca_ISE_ISE, fun z hz => by
      have e := List.mem_singleton.mp hz
      subst e
      exact ⟨by decide, "java/lang/IllegalArgumentException", cl_Law_13, hB.2.2.2.2.2.1⟩⟩, fun q => ?_⟩
      refine g_astore_n d_Law_type_12 (by decide) rfl ?_
      refine g_iconst (v := 2) d_Law_type_13 (by decide) ?_
      refine g_iret rfl d_Law_type_14 ?_
      exact ⟨2, rfl, hR⟩
set_option maxHeartbeats 400000 in
set_option maxRecDepth 100000 in
theorem w_argument (p0 p1 p2 : Int32) (ha : G.1 a = some (.inr (12, fs))) (hM : GM E Y_Mill_argument d [.ref a, .int p0, .int p1, .int p2] G Qc) (kr : ∀ v G', Qc (.inl v) G' → ∃ (x : Int32) (fo : Nat → Int64), v = some (.int x) ∧ G'.1 w = some (gAJ E 1 fo) ∧ R 0 (gUp G' w (gAJ E 1 (vp_updL fo 0 x.toInt64)))) (kt : ∀ D G', Qc (.inr D) G' → (D = "java/lang/IllegalArgumentException" ∧ R 1 G') ∨ (D = "java/lang/IllegalStateException" ∧ R 2 G')) : GM E Y_Law_argument (d + 1) [.ref a, .int p0, .int p1, .int p2, .ref w] G (fun o G' => ∃ c, o = .inl (some (.int c)) ∧ R c G') := by
  refine g_entry (by decide) (by simp [Value.category]) (Nat.le_of_ble_eq_true rfl) ?_
  refine g_aload d_Law_argument_0 rfl ?_
  refine g_iconst (v := 0) d_Law_argument_2 (by decide) ?_
  refine g_aload_n d_Law_argument_3 rfl ?_
  refine g_iload_n d_Law_argument_4 rfl ?_
  refine g_iload_n d_Law_argument_5 rfl ?_
  refine g_iload_n d_Law_argument_6 rfl ?_
  refine c_VH (as := [.int p0, .int p1, .int p2]) kv_Mill_argument ml_Law_17 rfl ha hM rfl (Nat.le_of_ble_eq_true rfl) d_Law_argument_7 (fun v G' hq => ?_) (fun hB D G' hq => ?_)
  · obtain ⟨x, fo, rfl, hw, hR⟩ := kr v G' hq
    show GT E Y_Law_argument (d + 1) G 10 _ [.int x, .int 0, .ref w] G' _
    refine g_i2l d_Law_argument_10 rfl ?_
    refine g_last (j := 0) hw (by decide) (by decide) d_Law_argument_11 ?_
    refine g_goto (tgt := 23) d_Law_argument_12 (by decide) ?_
    refine g_iconst (v := 0) d_Law_argument_23 (by decide) ?_
    refine g_iret rfl d_Law_argument_24 ?_
    exact ⟨0, rfl, hR⟩
  · rcases kt D G' hq with ⟨rfl, hR⟩ | ⟨rfl, hR⟩
    · refine ⟨15, ⟨[], [(0, 12, 19, 15)], (0, 12, 15, 13), rfl, rfl, by decide, by decide, by decide, cl_Law_13, ca_IAE_IAE, fun z hz => by cases hz⟩, fun q => ?_⟩
      refine g_astore d_Law_argument_15 (by decide) rfl ?_
      refine g_iconst (v := 1) d_Law_argument_17 (by decide) ?_
      refine g_iret rfl d_Law_argument_18 ?_
      exact ⟨1, rfl, hR⟩
    · refine ⟨19, ⟨[(0, 12, 15, 13)], [], (0, 12, 19, 15), rfl, rfl, by decide, by decide, by decide, cl_Law_15, ca_ISE_ISE, fun z hz => by
      have e := List.mem_singleton.mp hz
      subst e
      exact ⟨by decide, "java/lang/IllegalArgumentException", cl_Law_13, hB.2.2.2.2.2.1⟩⟩, fun q => ?_⟩
      refine g_astore d_Law_argument_19 (by decide) rfl ?_
      refine g_iconst (v := 2) d_Law_argument_21 (by decide) ?_
      refine g_iret rfl d_Law_argument_22 ?_
      exact ⟨2, rfl, hR⟩
set_option maxHeartbeats 400000 in
set_option maxRecDepth 100000 in
theorem w_any (p0 : Int32) (ha : G.1 a = some (.inr (12, fs))) (hM : GM E Y_Mill_any d [.ref a, .int p0] G Qc) (kr : ∀ v G', Qc (.inl v) G' → ∃ (x : Int32) (fo : Nat → Int64), v = some (.int x) ∧ G'.1 w = some (gAJ E 1 fo) ∧ R 0 (gUp G' w (gAJ E 1 (vp_updL fo 0 x.toInt64)))) (kt : ∀ D G', Qc (.inr D) G' → (D = "java/lang/IllegalArgumentException" ∧ R 1 G') ∨ (D = "java/lang/IllegalStateException" ∧ R 2 G')) : GM E Y_Law_any (d + 1) [.ref a, .int p0, .ref w] G (fun o G' => ∃ c, o = .inl (some (.int c)) ∧ R c G') := by
  refine g_entry (by decide) (by simp [Value.category]) (Nat.le_of_ble_eq_true rfl) ?_
  refine g_aload_n d_Law_any_0 rfl ?_
  refine g_iconst (v := 0) d_Law_any_1 (by decide) ?_
  refine g_aload_n d_Law_any_2 rfl ?_
  refine g_iload_n d_Law_any_3 rfl ?_
  refine c_VH (as := [.int p0]) kv_Mill_any ml_Law_21 rfl ha hM rfl (Nat.le_of_ble_eq_true rfl) d_Law_any_4 (fun v G' hq => ?_) (fun hB D G' hq => ?_)
  · obtain ⟨x, fo, rfl, hw, hR⟩ := kr v G' hq
    show GT E Y_Law_any (d + 1) G 7 _ [.int x, .int 0, .ref w] G' _
    refine g_i2l d_Law_any_7 rfl ?_
    refine g_last (j := 0) hw (by decide) (by decide) d_Law_any_8 ?_
    refine g_goto (tgt := 18) d_Law_any_9 (by decide) ?_
    refine g_iconst (v := 0) d_Law_any_18 (by decide) ?_
    refine g_iret rfl d_Law_any_19 ?_
    exact ⟨0, rfl, hR⟩
  · rcases kt D G' hq with ⟨rfl, hR⟩ | ⟨rfl, hR⟩
    · refine ⟨12, ⟨[], [(0, 9, 15, 15)], (0, 9, 12, 13), rfl, rfl, by decide, by decide, by decide, cl_Law_13, ca_IAE_IAE, fun z hz => by cases hz⟩, fun q => ?_⟩
      refine g_astore_n d_Law_any_12 (by decide) rfl ?_
      refine g_iconst (v := 1) d_Law_any_13 (by decide) ?_
      refine g_iret rfl d_Law_any_14 ?_
      exact ⟨1, rfl, hR⟩
    · refine ⟨15, ⟨[(0, 9, 12, 13)], [], (0, 9, 15, 15), rfl, rfl, by decide, by decide, by decide, cl_Law_15, ca_ISE_ISE, fun z hz => by
      have e := List.mem_singleton.mp hz
      subst e
      exact ⟨by decide, "java/lang/IllegalArgumentException", cl_Law_13, hB.2.2.2.2.2.1⟩⟩, fun q => ?_⟩
      refine g_astore_n d_Law_any_15 (by decide) rfl ?_
      refine g_iconst (v := 2) d_Law_any_16 (by decide) ?_
      refine g_iret rfl d_Law_any_17 ?_
      exact ⟨2, rfl, hR⟩
set_option maxHeartbeats 400000 in
set_option maxRecDepth 100000 in
theorem w_number (p0 p1 p2 : Int32) (ha : G.1 a = some (.inr (12, fs))) (hM : GM E Y_Mill_number d [.ref a, .int p0, .int p1, .int p2] G Qc) (kr : ∀ v G', Qc (.inl v) G' → ∃ (x : Int32) (fo : Nat → Int64), v = some (.int x) ∧ G'.1 w = some (gAJ E 1 fo) ∧ R 0 (gUp G' w (gAJ E 1 (vp_updL fo 0 x.toInt64)))) (kt : ∀ D G', Qc (.inr D) G' → (D = "java/lang/IllegalArgumentException" ∧ R 1 G') ∨ (D = "java/lang/IllegalStateException" ∧ R 2 G')) : GM E Y_Law_number (d + 1) [.ref a, .int p0, .int p1, .int p2, .ref w] G (fun o G' => ∃ c, o = .inl (some (.int c)) ∧ R c G') := by
  refine g_entry (by decide) (by simp [Value.category]) (Nat.le_of_ble_eq_true rfl) ?_
  refine g_aload d_Law_number_0 rfl ?_
  refine g_iconst (v := 0) d_Law_number_2 (by decide) ?_
  refine g_aload_n d_Law_number_3 rfl ?_
  refine g_iload_n d_Law_number_4 rfl ?_
  refine g_iload_n d_Law_number_5 rfl ?_
  refine g_iload_n d_Law_number_6 rfl ?_
  refine c_VH (as := [.int p0, .int p1, .int p2]) kv_Mill_number ml_Law_25 rfl ha hM rfl (Nat.le_of_ble_eq_true rfl) d_Law_number_7 (fun v G' hq => ?_) (fun hB D G' hq => ?_)
  · obtain ⟨x, fo, rfl, hw, hR⟩ := kr v G' hq
    show GT E Y_Law_number (d + 1) G 10 _ [.int x, .int 0, .ref w] G' _
    refine g_i2l d_Law_number_10 rfl ?_
    refine g_last (j := 0) hw (by decide) (by decide) d_Law_number_11 ?_
    refine g_goto (tgt := 23) d_Law_number_12 (by decide) ?_
    refine g_iconst (v := 0) d_Law_number_23 (by decide) ?_
    refine g_iret rfl d_Law_number_24 ?_
    exact ⟨0, rfl, hR⟩
  · rcases kt D G' hq with ⟨rfl, hR⟩ | ⟨rfl, hR⟩
    · refine ⟨15, ⟨[], [(0, 12, 19, 15)], (0, 12, 15, 13), rfl, rfl, by decide, by decide, by decide, cl_Law_13, ca_IAE_IAE, fun z hz => by cases hz⟩, fun q => ?_⟩
      refine g_astore d_Law_number_15 (by decide) rfl ?_
      refine g_iconst (v := 1) d_Law_number_17 (by decide) ?_
      refine g_iret rfl d_Law_number_18 ?_
      exact ⟨1, rfl, hR⟩
    · refine ⟨19, ⟨[(0, 12, 15, 13)], [], (0, 12, 19, 15), rfl, rfl, by decide, by decide, by decide, cl_Law_15, ca_ISE_ISE, fun z hz => by
      have e := List.mem_singleton.mp hz
      subst e
      exact ⟨by decide, "java/lang/IllegalArgumentException", cl_Law_13, hB.2.2.2.2.2.1⟩⟩, fun q => ?_⟩
      refine g_astore d_Law_number_19 (by decide) rfl ?_
      refine g_iconst (v := 2) d_Law_number_21 (by decide) ?_
      refine g_iret rfl d_Law_number_22 ?_
      exact ⟨2, rfl, hR⟩
set_option maxHeartbeats 400000 in
set_option maxRecDepth 100000 in
theorem w_make (p0 p1 p2 : Int32) (ha : G.1 a = some (.inr (12, fs))) (hM : GM E Y_Mill_make d [.ref a, .int p0, .int p1, .int p2] G Qc) (kr : ∀ v G', Qc (.inl v) G' → ∃ (x : Int32) (fo : Nat → Int64), v = some (.int x) ∧ G'.1 w = some (gAJ E 1 fo) ∧ R 0 (gUp G' w (gAJ E 1 (vp_updL fo 0 x.toInt64)))) (kt : ∀ D G', Qc (.inr D) G' → (D = "java/lang/IllegalArgumentException" ∧ R 1 G') ∨ (D = "java/lang/IllegalStateException" ∧ R 2 G')) : GM E Y_Law_make (d + 1) [.ref a, .int p0, .int p1, .int p2, .ref w] G (fun o G' => ∃ c, o = .inl (some (.int c)) ∧ R c G') := by
  refine g_entry (by decide) (by simp [Value.category]) (Nat.le_of_ble_eq_true rfl) ?_
  refine g_aload d_Law_make_0 rfl ?_
  refine g_iconst (v := 0) d_Law_make_2 (by decide) ?_
  refine g_aload_n d_Law_make_3 rfl ?_
  refine g_iload_n d_Law_make_4 rfl ?_
  refine g_iload_n d_Law_make_5 rfl ?_
  refine g_iload_n d_Law_make_6 rfl ?_
  refine c_VH (as := [.int p0, .int p1, .int p2]) kv_Mill_make ml_Law_29 rfl ha hM rfl (Nat.le_of_ble_eq_true rfl) d_Law_make_7 (fun v G' hq => ?_) (fun hB D G' hq => ?_)
  · obtain ⟨x, fo, rfl, hw, hR⟩ := kr v G' hq
    show GT E Y_Law_make (d + 1) G 10 _ [.int x, .int 0, .ref w] G' _
    refine g_i2l d_Law_make_10 rfl ?_
    refine g_last (j := 0) hw (by decide) (by decide) d_Law_make_11 ?_
    refine g_goto (tgt := 23) d_Law_make_12 (by decide) ?_
    refine g_iconst (v := 0) d_Law_make_23 (by decide) ?_
    refine g_iret rfl d_Law_make_24 ?_
    exact ⟨0, rfl, hR⟩
  · rcases kt D G' hq with ⟨rfl, hR⟩ | ⟨rfl, hR⟩
    · refine ⟨15, ⟨[], [(0, 12, 19, 15)], (0, 12, 15, 13), rfl, rfl, by decide, by decide, by decide, cl_Law_13, ca_IAE_IAE, fun z hz => by cases hz⟩, fun q => ?_⟩
      refine g_astore d_Law_make_15 (by decide) rfl ?_
      refine g_iconst (v := 1) d_Law_make_17 (by decide) ?_
      refine g_iret rfl d_Law_make_18 ?_
      exact ⟨1, rfl, hR⟩
    · refine ⟨19, ⟨[(0, 12, 15, 13)], [], (0, 12, 19, 15), rfl, rfl, by decide, by decide, by decide, cl_Law_15, ca_ISE_ISE, fun z hz => by
      have e := List.mem_singleton.mp hz
      subst e
      exact ⟨by decide, "java/lang/IllegalArgumentException", cl_Law_13, hB.2.2.2.2.2.1⟩⟩, fun q => ?_⟩
      refine g_astore d_Law_make_19 (by decide) rfl ?_
      refine g_iconst (v := 2) d_Law_make_21 (by decide) ?_
      refine g_iret rfl d_Law_make_22 ?_
      exact ⟨2, rfl, hR⟩
set_option maxHeartbeats 400000 in
set_option maxRecDepth 100000 in
theorem w_either (ha : G.1 a = some (.inr (12, fs))) (hM : GM E Y_Mill_either d [.ref a] G Qc) (kr : ∀ v G', Qc (.inl v) G' → ∃ (x : Int32) (fo : Nat → Int64), v = some (.int x) ∧ G'.1 w = some (gAJ E 1 fo) ∧ R 0 (gUp G' w (gAJ E 1 (vp_updL fo 0 x.toInt64)))) (kt : ∀ D G', Qc (.inr D) G' → (D = "java/lang/IllegalStateException" ∧ R 1 G')) : GM E Y_Law_either (d + 1) [.ref a, .ref w] G (fun o G' => ∃ c, o = .inl (some (.int c)) ∧ R c G') := by
  refine g_entry (by decide) (by simp [Value.category]) (Nat.le_of_ble_eq_true rfl) ?_
  refine g_aload_n d_Law_either_0 rfl ?_
  refine g_iconst (v := 0) d_Law_either_1 (by decide) ?_
  refine g_aload_n d_Law_either_2 rfl ?_
  refine c_VH (as := []) kv_Mill_either ml_Law_32 rfl ha hM rfl (Nat.le_of_ble_eq_true rfl) d_Law_either_3 (fun v G' hq => ?_) (fun hB D G' hq => ?_)
  · obtain ⟨x, fo, rfl, hw, hR⟩ := kr v G' hq
    show GT E Y_Law_either (d + 1) G 6 _ [.int x, .int 0, .ref w] G' _
    refine g_i2l d_Law_either_6 rfl ?_
    refine g_last (j := 0) hw (by decide) (by decide) d_Law_either_7 ?_
    refine g_goto (tgt := 14) d_Law_either_8 (by decide) ?_
    refine g_iconst (v := 0) d_Law_either_14 (by decide) ?_
    refine g_iret rfl d_Law_either_15 ?_
    exact ⟨0, rfl, hR⟩
  · rcases kt D G' hq with ⟨rfl, hR⟩
    refine ⟨11, ⟨[], [], (0, 8, 11, 15), rfl, rfl, by decide, by decide, by decide, cl_Law_15, ca_ISE_ISE, fun z hz => by cases hz⟩, fun q => ?_⟩
    refine g_astore_n d_Law_either_11 (by decide) rfl ?_
    refine g_iconst (v := 1) d_Law_either_12 (by decide) ?_
    refine g_iret rfl d_Law_either_13 ?_
    exact ⟨1, rfl, hR⟩
set_option maxHeartbeats 400000 in
set_option maxRecDepth 100000 in
theorem w_name (p0 : Int32) (ha : G.1 a = some (.inr (12, fs))) (hM : GM E Y_Mill_name d [.ref a, .int p0] G Qc) (kr : ∀ v G', Qc (.inl v) G' → ∃ (x : Int32) (fo : Nat → Int64), v = some (.int x) ∧ G'.1 w = some (gAJ E 1 fo) ∧ R 0 (gUp G' w (gAJ E 1 (vp_updL fo 0 x.toInt64)))) (kt : ∀ D G', Qc (.inr D) G' → (D = "java/lang/IllegalArgumentException" ∧ R 1 G') ∨ (D = "java/lang/IllegalStateException" ∧ R 2 G')) : GM E Y_Law_name (d + 1) [.ref a, .int p0, .ref w] G (fun o G' => ∃ c, o = .inl (some (.int c)) ∧ R c G') := by
  refine g_entry (by decide) (by simp [Value.category]) (Nat.le_of_ble_eq_true rfl) ?_
  refine g_aload_n d_Law_name_0 rfl ?_
  refine g_iconst (v := 0) d_Law_name_1 (by decide) ?_
  refine g_aload_n d_Law_name_2 rfl ?_
  refine g_iload_n d_Law_name_3 rfl ?_
  refine c_VH (as := [.int p0]) kv_Mill_name ml_Law_36 rfl ha hM rfl (Nat.le_of_ble_eq_true rfl) d_Law_name_4 (fun v G' hq => ?_) (fun hB D G' hq => ?_)
  · obtain ⟨x, fo, rfl, hw, hR⟩ := kr v G' hq
    show GT E Y_Law_name (d + 1) G 7 _ [.int x, .int 0, .ref w] G' _
    refine g_i2l d_Law_name_7 rfl ?_
    refine g_last (j := 0) hw (by decide) (by decide) d_Law_name_8 ?_
    refine g_goto (tgt := 18) d_Law_name_9 (by decide) ?_
    refine g_iconst (v := 0) d_Law_name_18 (by decide) ?_
    refine g_iret rfl d_Law_name_19 ?_
    exact ⟨0, rfl, hR⟩
  · rcases kt D G' hq with ⟨rfl, hR⟩ | ⟨rfl, hR⟩
    · refine ⟨12, ⟨[], [(0, 9, 15, 15)], (0, 9, 12, 13), rfl, rfl, by decide, by decide, by decide, cl_Law_13, ca_IAE_IAE, fun z hz => by cases hz⟩, fun q => ?_⟩
      refine g_astore_n d_Law_name_12 (by decide) rfl ?_
      refine g_iconst (v := 1) d_Law_name_13 (by decide) ?_
      refine g_iret rfl d_Law_name_14 ?_
      exact ⟨1, rfl, hR⟩
    · refine ⟨15, ⟨[(0, 9, 12, 13)], [], (0, 9, 15, 15), rfl, rfl, by decide, by decide, by decide, cl_Law_15, ca_ISE_ISE, fun z hz => by
      have e := List.mem_singleton.mp hz
      subst e
      exact ⟨by decide, "java/lang/IllegalArgumentException", cl_Law_13, hB.2.2.2.2.2.1⟩⟩, fun q => ?_⟩
      refine g_astore_n d_Law_name_15 (by decide) rfl ?_
      refine g_iconst (v := 2) d_Law_name_16 (by decide) ?_
      refine g_iret rfl d_Law_name_17 ?_
      exact ⟨2, rfl, hR⟩
set_option maxHeartbeats 400000 in
set_option maxRecDepth 100000 in
theorem w_addCase (p0 : Int32) (ha : G.1 a = some (.inr (12, fs))) (hM : GM E Y_Mill_addCase d [.ref a, .int p0] G Qc) (kr : ∀ v G', Qc (.inl v) G' → ∃ (x : Int32) (fo : Nat → Int64), v = some (.int x) ∧ G'.1 w = some (gAJ E 1 fo) ∧ R 0 (gUp G' w (gAJ E 1 (vp_updL fo 0 x.toInt64)))) (kt : ∀ D G', Qc (.inr D) G' → (D = "java/lang/IllegalStateException" ∧ R 1 G')) : GM E Y_Law_addCase (d + 1) [.ref a, .int p0, .ref w] G (fun o G' => ∃ c, o = .inl (some (.int c)) ∧ R c G') := by
  refine g_entry (by decide) (by simp [Value.category]) (Nat.le_of_ble_eq_true rfl) ?_
  refine g_aload_n d_Law_addCase_0 rfl ?_
  refine g_iconst (v := 0) d_Law_addCase_1 (by decide) ?_
  refine g_aload_n d_Law_addCase_2 rfl ?_
  refine g_iload_n d_Law_addCase_3 rfl ?_
  refine c_VH (as := [.int p0]) kv_Mill_addCase ml_Law_39 rfl ha hM rfl (Nat.le_of_ble_eq_true rfl) d_Law_addCase_4 (fun v G' hq => ?_) (fun hB D G' hq => ?_)
  · obtain ⟨x, fo, rfl, hw, hR⟩ := kr v G' hq
    show GT E Y_Law_addCase (d + 1) G 7 _ [.int x, .int 0, .ref w] G' _
    refine g_i2l d_Law_addCase_7 rfl ?_
    refine g_last (j := 0) hw (by decide) (by decide) d_Law_addCase_8 ?_
    refine g_goto (tgt := 15) d_Law_addCase_9 (by decide) ?_
    refine g_iconst (v := 0) d_Law_addCase_15 (by decide) ?_
    refine g_iret rfl d_Law_addCase_16 ?_
    exact ⟨0, rfl, hR⟩
  · rcases kt D G' hq with ⟨rfl, hR⟩
    refine ⟨12, ⟨[], [], (0, 9, 12, 15), rfl, rfl, by decide, by decide, by decide, cl_Law_15, ca_ISE_ISE, fun z hz => by cases hz⟩, fun q => ?_⟩
    refine g_astore_n d_Law_addCase_12 (by decide) rfl ?_
    refine g_iconst (v := 1) d_Law_addCase_13 (by decide) ?_
    refine g_iret rfl d_Law_addCase_14 ?_
    exact ⟨1, rfl, hR⟩
set_option maxHeartbeats 400000 in
set_option maxRecDepth 100000 in
theorem w_build (ha : G.1 a = some (.inr (12, fs))) (hM : GM E Y_Mill_build d [.ref a] G Qc) (kr : ∀ v G', Qc (.inl v) G' → ∃ (x : Int32) (fo : Nat → Int64), v = some (.int x) ∧ G'.1 w = some (gAJ E 1 fo) ∧ R 0 (gUp G' w (gAJ E 1 (vp_updL fo 0 x.toInt64)))) (kt : ∀ D G', Qc (.inr D) G' → (D = "java/lang/IllegalStateException" ∧ R 1 G') ∨ (D = "java/lang/UnsupportedOperationException" ∧ R 2 G')) : GM E Y_Law_build (d + 1) [.ref a, .ref w] G (fun o G' => ∃ c, o = .inl (some (.int c)) ∧ R c G') := by
  refine g_entry (by decide) (by simp [Value.category]) (Nat.le_of_ble_eq_true rfl) ?_
  refine g_aload_n d_Law_build_0 rfl ?_
  refine g_iconst (v := 0) d_Law_build_1 (by decide) ?_
  refine g_aload_n d_Law_build_2 rfl ?_
  refine c_VH (as := []) kv_Mill_build ml_Law_43 rfl ha hM rfl (Nat.le_of_ble_eq_true rfl) d_Law_build_3 (fun v G' hq => ?_) (fun hB D G' hq => ?_)
  · obtain ⟨x, fo, rfl, hw, hR⟩ := kr v G' hq
    show GT E Y_Law_build (d + 1) G 6 _ [.int x, .int 0, .ref w] G' _
    refine g_i2l d_Law_build_6 rfl ?_
    refine g_last (j := 0) hw (by decide) (by decide) d_Law_build_7 ?_
    refine g_goto (tgt := 17) d_Law_build_8 (by decide) ?_
    refine g_iconst (v := 0) d_Law_build_17 (by decide) ?_
    refine g_iret rfl d_Law_build_18 ?_
    exact ⟨0, rfl, hR⟩
  · rcases kt D G' hq with ⟨rfl, hR⟩ | ⟨rfl, hR⟩
    · refine ⟨11, ⟨[], [(0, 8, 14, 46)], (0, 8, 11, 15), rfl, rfl, by decide, by decide, by decide, cl_Law_15, ca_ISE_ISE, fun z hz => by cases hz⟩, fun q => ?_⟩
      refine g_astore_n d_Law_build_11 (by decide) rfl ?_
      refine g_iconst (v := 1) d_Law_build_12 (by decide) ?_
      refine g_iret rfl d_Law_build_13 ?_
      exact ⟨1, rfl, hR⟩
    · refine ⟨14, ⟨[(0, 8, 11, 15)], [], (0, 8, 14, 46), rfl, rfl, by decide, by decide, by decide, cl_Law_46, ca_UOE_UOE, fun z hz => by
      have e := List.mem_singleton.mp hz
      subst e
      exact ⟨by decide, "java/lang/IllegalStateException", cl_Law_15, hB.2.2.2.2.2.2⟩⟩, fun q => ?_⟩
      refine g_astore_n d_Law_build_14 (by decide) rfl ?_
      refine g_iconst (v := 2) d_Law_build_15 (by decide) ?_
      refine g_iret rfl d_Law_build_16 ?_
      exact ⟨2, rfl, hR⟩
set_option maxHeartbeats 400000 in
set_option maxRecDepth 100000 in
theorem w_match (p0 : Int32) (ha : G.1 a = some (.inr (12, fs))) (hM : GM E Y_Mill_match d [.ref a, .int p0] G Qc) (kr : ∀ v G', Qc (.inl v) G' → ∃ (x : Int32) (fo : Nat → Int64), v = some (.int x) ∧ G'.1 w = some (gAJ E 1 fo) ∧ R 0 (gUp G' w (gAJ E 1 (vp_updL fo 0 x.toInt64)))) (kt : ∀ D G', Qc (.inr D) G' → (D = "java/lang/IllegalStateException" ∧ R 1 G')) : GM E Y_Law_match (d + 1) [.ref a, .int p0, .ref w] G (fun o G' => ∃ c, o = .inl (some (.int c)) ∧ R c G') := by
  refine g_entry (by decide) (by simp [Value.category]) (Nat.le_of_ble_eq_true rfl) ?_
  refine g_aload_n d_Law_match_0 rfl ?_
  refine g_iconst (v := 0) d_Law_match_1 (by decide) ?_
  refine g_aload_n d_Law_match_2 rfl ?_
  refine g_iload_n d_Law_match_3 rfl ?_
  refine c_VH (as := [.int p0]) kv_Mill_match ml_Law_48 rfl ha hM rfl (Nat.le_of_ble_eq_true rfl) d_Law_match_4 (fun v G' hq => ?_) (fun hB D G' hq => ?_)
  · obtain ⟨x, fo, rfl, hw, hR⟩ := kr v G' hq
    show GT E Y_Law_match (d + 1) G 7 _ [.int x, .int 0, .ref w] G' _
    refine g_i2l d_Law_match_7 rfl ?_
    refine g_last (j := 0) hw (by decide) (by decide) d_Law_match_8 ?_
    refine g_goto (tgt := 15) d_Law_match_9 (by decide) ?_
    refine g_iconst (v := 0) d_Law_match_15 (by decide) ?_
    refine g_iret rfl d_Law_match_16 ?_
    exact ⟨0, rfl, hR⟩
  · rcases kt D G' hq with ⟨rfl, hR⟩
    refine ⟨12, ⟨[], [], (0, 9, 12, 15), rfl, rfl, by decide, by decide, by decide, cl_Law_15, ca_ISE_ISE, fun z hz => by cases hz⟩, fun q => ?_⟩
    refine g_astore_n d_Law_match_12 (by decide) rfl ?_
    refine g_iconst (v := 1) d_Law_match_13 (by decide) ?_
    refine g_iret rfl d_Law_match_14 ?_
    exact ⟨1, rfl, hR⟩
set_option maxHeartbeats 400000 in
set_option maxRecDepth 100000 in
theorem w_bound (p0 : Int32) (ha : G.1 a = some (.inr (12, fs))) (hM : GM E Y_Mill_bound d [.ref a, .int p0] G Qc) (kr : ∀ v G', Qc (.inl v) G' → ∃ (x : Int32) (fo : Nat → Int64), v = some (.int x) ∧ G'.1 w = some (gAJ E 1 fo) ∧ R 0 (gUp G' w (gAJ E 1 (vp_updL fo 0 x.toInt64)))) (kt : ∀ D G', Qc (.inr D) G' → (D = "java/lang/IllegalArgumentException" ∧ R 1 G')) : GM E Y_Law_bound (d + 1) [.ref a, .int p0, .ref w] G (fun o G' => ∃ c, o = .inl (some (.int c)) ∧ R c G') := by
  refine g_entry (by decide) (by simp [Value.category]) (Nat.le_of_ble_eq_true rfl) ?_
  refine g_aload_n d_Law_bound_0 rfl ?_
  refine g_iconst (v := 0) d_Law_bound_1 (by decide) ?_
  refine g_aload_n d_Law_bound_2 rfl ?_
  refine g_iload_n d_Law_bound_3 rfl ?_
  refine c_VH (as := [.int p0]) kv_Mill_bound ml_Law_51 rfl ha hM rfl (Nat.le_of_ble_eq_true rfl) d_Law_bound_4 (fun v G' hq => ?_) (fun hB D G' hq => ?_)
  · obtain ⟨x, fo, rfl, hw, hR⟩ := kr v G' hq
    show GT E Y_Law_bound (d + 1) G 7 _ [.int x, .int 0, .ref w] G' _
    refine g_i2l d_Law_bound_7 rfl ?_
    refine g_last (j := 0) hw (by decide) (by decide) d_Law_bound_8 ?_
    refine g_goto (tgt := 15) d_Law_bound_9 (by decide) ?_
    refine g_iconst (v := 0) d_Law_bound_15 (by decide) ?_
    refine g_iret rfl d_Law_bound_16 ?_
    exact ⟨0, rfl, hR⟩
  · rcases kt D G' hq with ⟨rfl, hR⟩
    refine ⟨12, ⟨[], [], (0, 9, 12, 13), rfl, rfl, by decide, by decide, by decide, cl_Law_13, ca_IAE_IAE, fun z hz => by cases hz⟩, fun q => ?_⟩
    refine g_astore_n d_Law_bound_12 (by decide) rfl ?_
    refine g_iconst (v := 1) d_Law_bound_13 (by decide) ?_
    refine g_iret rfl d_Law_bound_14 ?_
    exact ⟨1, rfl, hR⟩
set_option maxHeartbeats 400000 in
set_option maxRecDepth 100000 in
theorem w_boundAt (p0 p1 : Int32) (ha : G.1 a = some (.inr (12, fs))) (hM : GM E Y_Mill_boundAt d [.ref a, .int p0, .int p1] G Qc) (kr : ∀ v G', Qc (.inl v) G' → ∃ (x : Int32) (fo : Nat → Int64), v = some (.int x) ∧ G'.1 w = some (gAJ E 1 fo) ∧ R 0 (gUp G' w (gAJ E 1 (vp_updL fo 0 x.toInt64)))) (kt : ∀ D G', Qc (.inr D) G' → (D = "java/lang/IllegalArgumentException" ∧ R 1 G')) : GM E Y_Law_boundAt (d + 1) [.ref a, .int p0, .int p1, .ref w] G (fun o G' => ∃ c, o = .inl (some (.int c)) ∧ R c G') := by
  refine g_entry (by decide) (by simp [Value.category]) (Nat.le_of_ble_eq_true rfl) ?_
  refine g_aload_n d_Law_boundAt_0 rfl ?_
  refine g_iconst (v := 0) d_Law_boundAt_1 (by decide) ?_
  refine g_aload_n d_Law_boundAt_2 rfl ?_
  refine g_iload_n d_Law_boundAt_3 rfl ?_
  refine g_iload_n d_Law_boundAt_4 rfl ?_
  refine c_VH (as := [.int p0, .int p1]) kv_Mill_boundAt ml_Law_54 rfl ha hM rfl (Nat.le_of_ble_eq_true rfl) d_Law_boundAt_5 (fun v G' hq => ?_) (fun hB D G' hq => ?_)
  · obtain ⟨x, fo, rfl, hw, hR⟩ := kr v G' hq
    show GT E Y_Law_boundAt (d + 1) G 8 _ [.int x, .int 0, .ref w] G' _
    refine g_i2l d_Law_boundAt_8 rfl ?_
    refine g_last (j := 0) hw (by decide) (by decide) d_Law_boundAt_9 ?_
    refine g_goto (tgt := 17) d_Law_boundAt_10 (by decide) ?_
    refine g_iconst (v := 0) d_Law_boundAt_17 (by decide) ?_
    refine g_iret rfl d_Law_boundAt_18 ?_
    exact ⟨0, rfl, hR⟩
  · rcases kt D G' hq with ⟨rfl, hR⟩
    refine ⟨13, ⟨[], [], (0, 10, 13, 13), rfl, rfl, by decide, by decide, by decide, cl_Law_13, ca_IAE_IAE, fun z hz => by cases hz⟩, fun q => ?_⟩
    refine g_astore d_Law_boundAt_13 (by decide) rfl ?_
    refine g_iconst (v := 1) d_Law_boundAt_15 (by decide) ?_
    refine g_iret rfl d_Law_boundAt_16 ?_
    exact ⟨1, rfl, hR⟩
set_option maxHeartbeats 400000 in
set_option maxRecDepth 100000 in
theorem w_question (p0 p1 : Int32) (ha : G.1 a = some (.inr (12, fs))) (hM : GM E Y_Mill_question d [.ref a, .int p0, .int p1] G Qc) (kr : ∀ v G', Qc (.inl v) G' → ∃ (x : Int32) (fo : Nat → Int64), v = some (.int x) ∧ G'.1 w = some (gAJ E 1 fo) ∧ R 0 (gUp G' w (gAJ E 1 (vp_updL fo 0 x.toInt64)))) (kt : ∀ D G', Qc (.inr D) G' → (D = "java/lang/IllegalArgumentException" ∧ R 1 G')) : GM E Y_Law_question (d + 1) [.ref a, .int p0, .int p1, .ref w] G (fun o G' => ∃ c, o = .inl (some (.int c)) ∧ R c G') := by
  refine g_entry (by decide) (by simp [Value.category]) (Nat.le_of_ble_eq_true rfl) ?_
  refine g_aload_n d_Law_question_0 rfl ?_
  refine g_iconst (v := 0) d_Law_question_1 (by decide) ?_
  refine g_aload_n d_Law_question_2 rfl ?_
  refine g_iload_n d_Law_question_3 rfl ?_
  refine g_iload_n d_Law_question_4 rfl ?_
  refine c_VH (as := [.int p0, .int p1]) kv_Mill_question ml_Law_58 rfl ha hM rfl (Nat.le_of_ble_eq_true rfl) d_Law_question_5 (fun v G' hq => ?_) (fun hB D G' hq => ?_)
  · obtain ⟨x, fo, rfl, hw, hR⟩ := kr v G' hq
    show GT E Y_Law_question (d + 1) G 8 _ [.int x, .int 0, .ref w] G' _
    refine g_i2l d_Law_question_8 rfl ?_
    refine g_last (j := 0) hw (by decide) (by decide) d_Law_question_9 ?_
    refine g_goto (tgt := 17) d_Law_question_10 (by decide) ?_
    refine g_iconst (v := 0) d_Law_question_17 (by decide) ?_
    refine g_iret rfl d_Law_question_18 ?_
    exact ⟨0, rfl, hR⟩
  · rcases kt D G' hq with ⟨rfl, hR⟩
    refine ⟨13, ⟨[], [], (0, 10, 13, 13), rfl, rfl, by decide, by decide, by decide, cl_Law_13, ca_IAE_IAE, fun z hz => by cases hz⟩, fun q => ?_⟩
    refine g_astore d_Law_question_13 (by decide) rfl ?_
    refine g_iconst (v := 1) d_Law_question_15 (by decide) ?_
    refine g_iret rfl d_Law_question_16 ?_
    exact ⟨1, rfl, hR⟩
set_option maxHeartbeats 400000 in
set_option maxRecDepth 100000 in
theorem w_about (p0 : Int32) (ha : G.1 a = some (.inr (12, fs))) (hM : GM E Y_Mill_about d [.ref a, .int p0] G Qc) (kr : ∀ v G', Qc (.inl v) G' → ∃ (x : Int32) (fo : Nat → Int64), v = some (.int x) ∧ G'.1 w = some (gAJ E 1 fo) ∧ R 0 (gUp G' w (gAJ E 1 (vp_updL fo 0 x.toInt64)))) (kt : ∀ D G', Qc (.inr D) G' → (D = "java/lang/IllegalArgumentException" ∧ R 1 G')) : GM E Y_Law_about (d + 1) [.ref a, .int p0, .ref w] G (fun o G' => ∃ c, o = .inl (some (.int c)) ∧ R c G') := by
  refine g_entry (by decide) (by simp [Value.category]) (Nat.le_of_ble_eq_true rfl) ?_
  refine g_aload_n d_Law_about_0 rfl ?_
  refine g_iconst (v := 0) d_Law_about_1 (by decide) ?_
  refine g_aload_n d_Law_about_2 rfl ?_
  refine g_iload_n d_Law_about_3 rfl ?_
  refine c_VH (as := [.int p0]) kv_Mill_about ml_Law_61 rfl ha hM rfl (Nat.le_of_ble_eq_true rfl) d_Law_about_4 (fun v G' hq => ?_) (fun hB D G' hq => ?_)
  · obtain ⟨x, fo, rfl, hw, hR⟩ := kr v G' hq
    show GT E Y_Law_about (d + 1) G 7 _ [.int x, .int 0, .ref w] G' _
    refine g_i2l d_Law_about_7 rfl ?_
    refine g_last (j := 0) hw (by decide) (by decide) d_Law_about_8 ?_
    refine g_goto (tgt := 15) d_Law_about_9 (by decide) ?_
    refine g_iconst (v := 0) d_Law_about_15 (by decide) ?_
    refine g_iret rfl d_Law_about_16 ?_
    exact ⟨0, rfl, hR⟩
  · rcases kt D G' hq with ⟨rfl, hR⟩
    refine ⟨12, ⟨[], [], (0, 9, 12, 13), rfl, rfl, by decide, by decide, by decide, cl_Law_13, ca_IAE_IAE, fun z hz => by cases hz⟩, fun q => ?_⟩
    refine g_astore_n d_Law_about_12 (by decide) rfl ?_
    refine g_iconst (v := 1) d_Law_about_13 (by decide) ?_
    refine g_iret rfl d_Law_about_14 ?_
    exact ⟨1, rfl, hR⟩
end WR
