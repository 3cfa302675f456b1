theorem dX9_feed_41 : decode cX9_feed 41 = .ok (.iadd, 1) := by decide +kernel
theorem dX9_feed_42 : decode cX9_feed 42 = .ok (.invokevirtual 71, 3) := by decide +kernel
theorem dX9_feed_45 : decode cX9_feed 45 = .ok (.aload_n 0, 1) := by decide +kernel
theorem dX9_feed_46 : decode cX9_feed 46 = .ok (.iload 4, 2) := by decide +kernel
theorem dX9_feed_48 : decode cX9_feed 48 = .ok (.aload_n 0, 1) := by decide +kernel
theorem dX9_feed_49 : decode cX9_feed 49 = .ok (.getfield 68, 3) := by decide +kernel
theorem dX9_feed_52 : decode cX9_feed 52 = .ok (.bipush 12, 2) := by decide +kernel
theorem dX9_feed_54 : decode cX9_feed 54 = .ok (.iadd, 1) := by decide +kernel
theorem dX9_feed_55 : decode cX9_feed 55 = .ok (.invokevirtual 71, 3) := by decide +kernel
theorem dX9_feed_58 : decode cX9_feed 58 = .ok (.aload_n 0, 1) := by decide +kernel
theorem dX9_feed_59 : decode cX9_feed 59 = .ok (.iload 5, 2) := by decide +kernel
theorem dX9_feed_61 : decode cX9_feed 61 = .ok (.aload_n 0, 1) := by decide +kernel
theorem dX9_feed_62 : decode cX9_feed 62 = .ok (.getfield 68, 3) := by decide +kernel
theorem dX9_feed_65 : decode cX9_feed 65 = .ok (.bipush 16, 2) := by decide +kernel
theorem dX9_feed_67 : decode cX9_feed 67 = .ok (.iadd, 1) := by decide +kernel
theorem dX9_feed_68 : decode cX9_feed 68 = .ok (.invokevirtual 71, 3) := by decide +kernel
theorem dX9_feed_71 : decode cX9_feed 71 = .ok (.aload_n 0, 1) := by decide +kernel
theorem dX9_feed_72 : decode cX9_feed 72 = .ok (.dup, 1) := by decide +kernel
theorem dX9_feed_73 : decode cX9_feed 73 = .ok (.getfield 68, 3) := by decide +kernel
theorem dX9_feed_76 : decode cX9_feed 76 = .ok (.bipush 20, 2) := by decide +kernel
theorem dX9_feed_78 : decode cX9_feed 78 = .ok (.iadd, 1) := by decide +kernel
theorem dX9_feed_79 : decode cX9_feed 79 = .ok (.putfield 68, 3) := by decide +kernel
theorem dX9_feed_82 : decode cX9_feed 82 = .ok (.aload_n 0, 1) := by decide +kernel
theorem dX9_feed_83 : decode cX9_feed 83 = .ok (.getfield 68, 3) := by decide +kernel
theorem dX9_feed_86 : decode cX9_feed 86 = .ok (.ireturn, 1) := by decide +kernel
theorem dX9_four_0 : decode cX9_four 0 = .ok (.iconst 0, 1) := by decide +kernel
theorem dX9_four_1 : decode cX9_four 1 = .ok (.istore_n 3, 1) := by decide +kernel
theorem dX9_four_2 : decode cX9_four 2 = .ok (.iload_n 3, 1) := by decide +kernel
theorem dX9_four_3 : decode cX9_four 3 = .ok (.iconst 4, 1) := by decide +kernel
theorem dX9_four_4 : decode cX9_four 4 = .ok (.if_icmp .ge 30, 3) := by decide +kernel
theorem dX9_four_7 : decode cX9_four 7 = .ok (.aload_n 0, 1) := by decide +kernel
theorem dX9_four_8 : decode cX9_four 8 = .ok (.getfield 9, 3) := by decide +kernel
theorem dX9_four_11 : decode cX9_four 11 = .ok (.iload_n 2, 1) := by decide +kernel
theorem dX9_four_12 : decode cX9_four 12 = .ok (.iload_n 3, 1) := by decide +kernel
theorem dX9_four_13 : decode cX9_four 13 = .ok (.iadd, 1) := by decide +kernel
theorem dX9_four_14 : decode cX9_four 14 = .ok (.iload_n 1, 1) := by decide +kernel
theorem dX9_four_15 : decode cX9_four 15 = .ok (.bipush 24, 2) := by decide +kernel
theorem dX9_four_17 : decode cX9_four 17 = .ok (.bipush 8, 2) := by decide +kernel
theorem dX9_four_19 : decode cX9_four 19 = .ok (.iload_n 3, 1) := by decide +kernel
theorem dX9_four_20 : decode cX9_four 20 = .ok (.imul, 1) := by decide +kernel
theorem dX9_four_21 : decode cX9_four 21 = .ok (.isub, 1) := by decide +kernel
theorem dX9_four_22 : decode cX9_four 22 = .ok (.ishr, 1) := by decide +kernel
theorem dX9_four_23 : decode cX9_four 23 = .ok (.sipush 255, 3) := by decide +kernel
theorem dX9_four_26 : decode cX9_four 26 = .ok (.iand, 1) := by decide +kernel
theorem dX9_four_27 : decode cX9_four 27 = .ok (.iastore, 1) := by decide +kernel
theorem dX9_four_28 : decode cX9_four 28 = .ok (.iinc 3 1, 3) := by decide +kernel
theorem dX9_four_31 : decode cX9_four 31 = .ok (.goto (-29), 3) := by decide +kernel
theorem dX9_four_34 : decode cX9_four 34 = .ok (.return_, 1) := by decide +kernel
theorem dX9_end_0 : decode cX9_end 0 = .ok (.iload_n 1, 1) := by decide +kernel
theorem dX9_end_1 : decode cX9_end 1 = .ok (.iconst 0, 1) := by decide +kernel
theorem dX9_end_2 : decode cX9_end 2 = .ok (.aload_n 0, 1) := by decide +kernel
theorem dX9_end_3 : decode cX9_end 3 = .ok (.getfield 68, 3) := by decide +kernel
theorem dX9_end_6 : decode cX9_end 6 = .ok (.invokestatic 75, 3) := by decide +kernel
theorem dX9_end_9 : decode cX9_end 9 = .ok (.ifCond .eq 5, 3) := by decide +kernel
theorem dX9_end_12 : decode cX9_end 12 = .ok (.iconst (-1), 1) := by decide +kernel
theorem dX9_end_13 : decode cX9_end 13 = .ok (.ireturn, 1) := by decide +kernel
theorem dX9_end_14 : decode cX9_end 14 = .ok (.aload_n 0, 1) := by decide +kernel
theorem dX9_end_15 : decode cX9_end 15 = .ok (.getfield 68, 3) := by decide +kernel
theorem dX9_end_18 : decode cX9_end 18 = .ok (.iload_n 1, 1) := by decide +kernel
theorem dX9_end_19 : decode cX9_end 19 = .ok (.isub, 1) := by decide +kernel
theorem dX9_end_20 : decode cX9_end 20 = .ok (.istore_n 2, 1) := by decide +kernel
theorem dX9_end_21 : decode cX9_end 21 = .ok (.aload_n 0, 1) := by decide +kernel
theorem dX9_end_22 : decode cX9_end 22 = .ok (.iload_n 1, 1) := by decide +kernel
theorem dX9_end_23 : decode cX9_end 23 = .ok (.putfield 68, 3) := by decide +kernel
theorem dX9_end_26 : decode cX9_end 26 = .ok (.iload_n 2, 1) := by decide +kernel
theorem dX9_end_27 : decode cX9_end 27 = .ok (.ireturn, 1) := by decide +kernel
theorem dX9_out_0 : decode cX9_out 0 = .ok (.iload_n 1, 1) := by decide +kernel
theorem dX9_out_1 : decode cX9_out 1 = .ok (.iconst 0, 1) := by decide +kernel
theorem dX9_out_2 : decode cX9_out 2 = .ok (.aload_n 0, 1) := by decide +kernel
theorem dX9_out_3 : decode cX9_out 3 = .ok (.getfield 79, 3) := by decide +kernel
theorem dX9_out_6 : decode cX9_out 6 = .ok (.iconst 1, 1) := by decide +kernel
theorem dX9_out_7 : decode cX9_out 7 = .ok (.isub, 1) := by decide +kernel
theorem dX9_out_8 : decode cX9_out 8 = .ok (.invokestatic 75, 3) := by decide +kernel
theorem dX9_out_11 : decode cX9_out 11 = .ok (.ifCond .eq 7, 3) := by decide +kernel
theorem dX9_out_14 : decode cX9_out 14 = .ok (.iconst (-1), 1) := by decide +kernel
theorem dX9_out_15 : decode cX9_out 15 = .ok (.goto 9, 3) := by decide +kernel
theorem dX9_out_18 : decode cX9_out 18 = .ok (.aload_n 0, 1) := by decide +kernel
theorem dX9_out_19 : decode cX9_out 19 = .ok (.getfield 13, 3) := by decide +kernel
theorem dX9_out_22 : decode cX9_out 22 = .ok (.iload_n 1, 1) := by decide +kernel
theorem dX9_out_23 : decode cX9_out 23 = .ok (.iaload, 1) := by decide +kernel
theorem dX9_out_24 : decode cX9_out 24 = .ok (.ireturn, 1) := by decide +kernel
theorem dX9_back_0 : decode cX9_back 0 = .ok (.aload_n 0, 1) := by decide +kernel
theorem dX9_back_1 : decode cX9_back 1 = .ok (.getfield 79, 3) := by decide +kernel
theorem dX9_back_4 : decode cX9_back 4 = .ok (.sipush 2000, 3) := by decide +kernel
theorem dX9_back_7 : decode cX9_back 7 = .ok (.if_icmp .le 6, 3) := by decide +kernel
theorem dX9_back_10 : decode cX9_back 10 = .ok (.bipush (-3), 2) := by decide +kernel
theorem dX9_back_12 : decode cX9_back 12 = .ok (.ireturn, 1) := by decide +kernel
theorem dX9_back_13 : decode cX9_back 13 = .ok (.iconst 0, 1) := by decide +kernel
theorem dX9_back_14 : decode cX9_back 14 = .ok (.istore_n 1, 1) := by decide +kernel
theorem dX9_back_15 : decode cX9_back 15 = .ok (.iload_n 1, 1) := by decide +kernel
theorem dX9_back_16 : decode cX9_back 16 = .ok (.aload_n 0, 1) := by decide +kernel
theorem dX9_back_17 : decode cX9_back 17 = .ok (.getfield 79, 3) := by decide +kernel
theorem dX9_back_20 : decode cX9_back 20 = .ok (.if_icmp .ge 21, 3) := by decide +kernel
theorem dX9_back_23 : decode cX9_back 23 = .ok (.aload_n 0, 1) := by decide +kernel
theorem dX9_back_24 : decode cX9_back 24 = .ok (.getfield 9, 3) := by decide +kernel
theorem dX9_back_27 : decode cX9_back 27 = .ok (.iload_n 1, 1) := by decide +kernel
theorem dX9_back_28 : decode cX9_back 28 = .ok (.aload_n 0, 1) := by decide +kernel
theorem dX9_back_29 : decode cX9_back 29 = .ok (.getfield 13, 3) := by decide +kernel
theorem dX9_back_32 : decode cX9_back 32 = .ok (.iload_n 1, 1) := by decide +kernel
theorem dX9_back_33 : decode cX9_back 33 = .ok (.iaload, 1) := by decide +kernel
theorem dX9_back_34 : decode cX9_back 34 = .ok (.iastore, 1) := by decide +kernel
theorem dX9_back_35 : decode cX9_back 35 = .ok (.iinc 1 1, 3) := by decide +kernel
theorem dX9_back_38 : decode cX9_back 38 = .ok (.goto (-23), 3) := by decide +kernel
theorem dX9_back_41 : decode cX9_back 41 = .ok (.aload_n 0, 1) := by decide +kernel
theorem dX9_back_42 : decode cX9_back 42 = .ok (.aload_n 0, 1) := by decide +kernel
theorem dX9_back_43 : decode cX9_back 43 = .ok (.getfield 79, 3) := by decide +kernel
theorem dX9_back_46 : decode cX9_back 46 = .ok (.putfield 68, 3) := by decide +kernel
theorem dX9_back_49 : decode cX9_back 49 = .ok (.aload_n 0, 1) := by decide +kernel
theorem dX9_back_50 : decode cX9_back 50 = .ok (.getfield 68, 3) := by decide +kernel
theorem dX9_back_53 : decode cX9_back 53 = .ok (.ireturn, 1) := by decide +kernel
theorem dX9_story_0 : decode cX9_story 0 = .ok (.aload_n 0, 1) := by decide +kernel
theorem dX9_story_1 : decode cX9_story 1 = .ok (.getfield 68, 3) := by decide +kernel
theorem dX9_story_4 : decode cX9_story 4 = .ok (.istore_n 1, 1) := by decide +kernel
theorem dX9_story_5 : decode cX9_story 5 = .ok (.aload_n 0, 1) := by decide +kernel
theorem dX9_story_6 : decode cX9_story 6 = .ok (.iconst 0, 1) := by decide +kernel
theorem dX9_story_7 : decode cX9_story 7 = .ok (.putfield 68, 3) := by decide +kernel
theorem dX9_story_10 : decode cX9_story 10 = .ok (.iload_n 1, 1) := by decide +kernel
theorem dX9_story_11 : decode cX9_story 11 = .ok (.bipush 11, 2) := by decide +kernel
theorem dX9_story_13 : decode cX9_story 13 = .ok (.sipush 1010, 3) := by decide +kernel
theorem dX9_story_16 : decode cX9_story 16 = .ok (.invokestatic 75, 3) := by decide +kernel
theorem dX9_story_19 : decode cX9_story 19 = .ok (.ifCond .eq 5, 3) := by decide +kernel
theorem dX9_story_22 : decode cX9_story 22 = .ok (.iconst (-1), 1) := by decide +kernel
theorem dX9_story_23 : decode cX9_story 23 = .ok (.ireturn, 1) := by decide +kernel
theorem dX9_story_24 : decode cX9_story 24 = .ok (.iconst 0, 1) := by decide +kernel
theorem dX9_story_25 : decode cX9_story 25 = .ok (.istore_n 2, 1) := by decide +kernel
theorem dX9_story_26 : decode cX9_story 26 = .ok (.iload_n 2, 1) := by decide +kernel
theorem dX9_story_27 : decode cX9_story 27 = .ok (.bipush 10, 2) := by decide +kernel
theorem dX9_story_29 : decode cX9_story 29 = .ok (.if_icmp .ge 21, 3) := by decide +kernel
theorem dX9_story_32 : decode cX9_story 32 = .ok (.aload_n 0, 1) := by decide +kernel
theorem dX9_story_33 : decode cX9_story 33 = .ok (.getfield 26, 3) := by decide +kernel
theorem dX9_story_36 : decode cX9_story 36 = .ok (.iload_n 2, 1) := by decide +kernel
theorem dX9_story_37 : decode cX9_story 37 = .ok (.aload_n 0, 1) := by decide +kernel
theorem dX9_story_38 : decode cX9_story 38 = .ok (.getfield 9, 3) := by decide +kernel
theorem dX9_story_41 : decode cX9_story 41 = .ok (.iload_n 2, 1) := by decide +kernel
theorem dX9_story_42 : decode cX9_story 42 = .ok (.iaload, 1) := by decide +kernel
theorem dX9_story_43 : decode cX9_story 43 = .ok (.iastore, 1) := by decide +kernel
theorem dX9_story_44 : decode cX9_story 44 = .ok (.iinc 2 1, 3) := by decide +kernel
theorem dX9_story_47 : decode cX9_story 47 = .ok (.goto (-21), 3) := by decide +kernel
theorem dX9_story_50 : decode cX9_story 50 = .ok (.aload_n 0, 1) := by decide +kernel
theorem dX9_story_51 : decode cX9_story 51 = .ok (.iload_n 1, 1) := by decide +kernel
theorem dX9_story_52 : decode cX9_story 52 = .ok (.bipush 10, 2) := by decide +kernel
theorem dX9_story_54 : decode cX9_story 54 = .ok (.isub, 1) := by decide +kernel
theorem dX9_story_55 : decode cX9_story 55 = .ok (.putfield 82, 3) := by decide +kernel
theorem dX9_story_58 : decode cX9_story 58 = .ok (.iconst 0, 1) := by decide +kernel
theorem dX9_story_59 : decode cX9_story 59 = .ok (.istore_n 2, 1) := by decide +kernel
theorem dX9_story_60 : decode cX9_story 60 = .ok (.iload_n 2, 1) := by decide +kernel
theorem dX9_story_61 : decode cX9_story 61 = .ok (.aload_n 0, 1) := by decide +kernel
theorem dX9_story_62 : decode cX9_story 62 = .ok (.getfield 82, 3) := by decide +kernel
theorem dX9_story_65 : decode cX9_story 65 = .ok (.if_icmp .ge 24, 3) := by decide +kernel
theorem dX9_story_68 : decode cX9_story 68 = .ok (.aload_n 0, 1) := by decide +kernel
theorem dX9_story_69 : decode cX9_story 69 = .ok (.getfield 29, 3) := by decide +kernel
theorem dX9_story_72 : decode cX9_story 72 = .ok (.iload_n 2, 1) := by decide +kernel
theorem dX9_story_73 : decode cX9_story 73 = .ok (.aload_n 0, 1) := by decide +kernel
theorem dX9_story_74 : decode cX9_story 74 = .ok (.getfield 9, 3) := by decide +kernel
theorem dX9_story_77 : decode cX9_story 77 = .ok (.bipush 10, 2) := by decide +kernel
theorem dX9_story_79 : decode cX9_story 79 = .ok (.iload_n 2, 1) := by decide +kernel
theorem dX9_story_80 : decode cX9_story 80 = .ok (.iadd, 1) := by decide +kernel
theorem dX9_story_81 : decode cX9_story 81 = .ok (.iaload, 1) := by decide +kernel
theorem dX9_story_82 : decode cX9_story 82 = .ok (.iastore, 1) := by decide +kernel
theorem dX9_story_83 : decode cX9_story 83 = .ok (.iinc 2 1, 3) := by decide +kernel
theorem dX9_story_86 : decode cX9_story 86 = .ok (.goto (-26), 3) := by decide +kernel
theorem dX9_story_89 : decode cX9_story 89 = .ok (.aload_n 0, 1) := by decide +kernel
theorem dX9_story_90 : decode cX9_story 90 = .ok (.invokevirtual 85, 3) := by decide +kernel
theorem dX9_story_93 : decode cX9_story 93 = .ok (.aload_n 0, 1) := by decide +kernel
theorem dX9_story_94 : decode cX9_story 94 = .ok (.iconst 0, 1) := by decide +kernel
theorem dX9_story_95 : decode cX9_story 95 = .ok (.putfield 88, 3) := by decide +kernel
theorem dX9_story_98 : decode cX9_story 98 = .ok (.aload_n 0, 1) := by decide +kernel
theorem dX9_story_99 : decode cX9_story 99 = .ok (.iconst 0, 1) := by decide +kernel
theorem dX9_story_100 : decode cX9_story 100 = .ok (.putfield 91, 3) := by decide +kernel
theorem dX9_story_103 : decode cX9_story 103 = .ok (.aload_n 0, 1) := by decide +kernel
theorem dX9_story_104 : decode cX9_story 104 = .ok (.getfield 82, 3) := by decide +kernel
theorem dX9_story_107 : decode cX9_story 107 = .ok (.ireturn, 1) := by decide +kernel
theorem dX9_begin_0 : decode cX9_begin 0 = .ok (.iconst 0, 1) := by decide +kernel
theorem dX9_begin_1 : decode cX9_begin 1 = .ok (.istore_n 1, 1) := by decide +kernel
theorem dX9_begin_2 : decode cX9_begin 2 = .ok (.iload_n 1, 1) := by decide +kernel
theorem dX9_begin_3 : decode cX9_begin 3 = .ok (.sipush 2202, 3) := by decide +kernel
theorem dX9_begin_6 : decode cX9_begin 6 = .ok (.if_icmp .ge 33, 3) := by decide +kernel
theorem dX9_begin_9 : decode cX9_begin 9 = .ok (.aload_n 0, 1) := by decide +kernel
theorem dX9_begin_10 : decode cX9_begin 10 = .ok (.getfield 32, 3) := by decide +kernel
theorem dX9_begin_13 : decode cX9_begin 13 = .ok (.iload_n 1, 1) := by decide +kernel
theorem dX9_begin_14 : decode cX9_begin 14 = .ok (.iload_n 1, 1) := by decide +kernel
theorem dX9_begin_15 : decode cX9_begin 15 = .ok (.aload_n 0, 1) := by decide +kernel
theorem dX9_begin_16 : decode cX9_begin 16 = .ok (.getfield 82, 3) := by decide +kernel
theorem dX9_begin_19 : decode cX9_begin 19 = .ok (.if_icmp .ge 12, 3) := by decide +kernel
theorem dX9_begin_22 : decode cX9_begin 22 = .ok (.aload_n 0, 1) := by decide +kernel
theorem dX9_begin_23 : decode cX9_begin 23 = .ok (.getfield 29, 3) := by decide +kernel
theorem dX9_begin_26 : decode cX9_begin 26 = .ok (.iload_n 1, 1) := by decide +kernel
theorem dX9_begin_27 : decode cX9_begin 27 = .ok (.iaload, 1) := by decide +kernel
theorem dX9_begin_28 : decode cX9_begin 28 = .ok (.goto 4, 3) := by decide +kernel
theorem dX9_begin_31 : decode cX9_begin 31 = .ok (.iconst 0, 1) := by decide +kernel
theorem dX9_begin_32 : decode cX9_begin 32 = .ok (.iastore, 1) := by decide +kernel
theorem dX9_begin_33 : decode cX9_begin 33 = .ok (.iinc 1 1, 3) := by decide +kernel
theorem dX9_begin_36 : decode cX9_begin 36 = .ok (.goto (-34), 3) := by decide +kernel
theorem dX9_begin_39 : decode cX9_begin 39 = .ok (.aload_n 0, 1) := by decide +kernel
theorem dX9_begin_40 : decode cX9_begin 40 = .ok (.getfield 32, 3) := by decide +kernel
theorem dX9_begin_43 : decode cX9_begin 43 = .ok (.sipush 1001, 3) := by decide +kernel
theorem dX9_begin_46 : decode cX9_begin 46 = .ok (.iconst 1, 1) := by decide +kernel
theorem dX9_begin_47 : decode cX9_begin 47 = .ok (.iastore, 1) := by decide +kernel
theorem dX9_begin_48 : decode cX9_begin 48 = .ok (.return_, 1) := by decide +kernel
theorem dX9_bits_0 : decode cX9_bits 0 = .ok (.aload_n 0, 1) := by decide +kernel
theorem dX9_bits_1 : decode cX9_bits 1 = .ok (.getfield 82, 3) := by decide +kernel
theorem dX9_bits_4 : decode cX9_bits 4 = .ok (.bipush 17, 2) := by decide +kernel
theorem dX9_bits_6 : decode cX9_bits 6 = .ok (.if_icmp .le 15, 3) := by decide +kernel
theorem dX9_bits_9 : decode cX9_bits 9 = .ok (.aload_n 0, 1) := by decide +kernel
theorem dX9_bits_10 : decode cX9_bits 10 = .ok (.getfield 32, 3) := by decide +kernel
theorem dX9_bits_13 : decode cX9_bits 13 = .ok (.bipush 17, 2) := by decide +kernel
theorem dX9_bits_15 : decode cX9_bits 15 = .ok (.iaload, 1) := by decide +kernel
theorem dX9_bits_16 : decode cX9_bits 16 = .ok (.iconst 3, 1) := by decide +kernel
theorem dX9_bits_17 : decode cX9_bits 17 = .ok (.iand, 1) := by decide +kernel
theorem dX9_bits_18 : decode cX9_bits 18 = .ok (.goto 4, 3) := by decide +kernel
theorem dX9_bits_21 : decode cX9_bits 21 = .ok (.iconst 0, 1) := by decide +kernel
theorem dX9_bits_22 : decode cX9_bits 22 = .ok (.ireturn, 1) := by decide +kernel
theorem dX9_stay_0 : decode cX9_stay 0 = .ok (.aload_n 0, 1) := by decide +kernel
theorem dX9_stay_1 : decode cX9_stay 1 = .ok (.getfield 82, 3) := by decide +kernel
theorem dX9_stay_4 : decode cX9_stay 4 = .ok (.bipush 17, 2) := by decide +kernel
theorem dX9_stay_6 : decode cX9_stay 6 = .ok (.if_icmp .le 23, 3) := by decide +kernel
theorem dX9_stay_9 : decode cX9_stay 9 = .ok (.aload_n 0, 1) := by decide +kernel
theorem dX9_stay_10 : decode cX9_stay 10 = .ok (.getfield 32, 3) := by decide +kernel
theorem dX9_stay_13 : decode cX9_stay 13 = .ok (.bipush 17, 2) := by decide +kernel
theorem dX9_stay_15 : decode cX9_stay 15 = .ok (.aload_n 0, 1) := by decide +kernel
theorem dX9_stay_16 : decode cX9_stay 16 = .ok (.getfield 32, 3) := by decide +kernel
theorem dX9_stay_19 : decode cX9_stay 19 = .ok (.bipush 17, 2) := by decide +kernel
theorem dX9_stay_21 : decode cX9_stay 21 = .ok (.iaload, 1) := by decide +kernel
theorem dX9_stay_22 : decode cX9_stay 22 = .ok (.sipush 252, 3) := by decide +kernel
theorem dX9_stay_25 : decode cX9_stay 25 = .ok (.iand, 1) := by decide +kernel
theorem dX9_stay_26 : decode cX9_stay 26 = .ok (.iload_n 1, 1) := by decide +kernel
theorem dX9_stay_27 : decode cX9_stay 27 = .ok (.ior, 1) := by decide +kernel
theorem dX9_stay_28 : decode cX9_stay 28 = .ok (.iastore, 1) := by decide +kernel
theorem dX9_stay_29 : decode cX9_stay 29 = .ok (.return_, 1) := by decide +kernel
theorem dX9_poke_0 : decode cX9_poke 0 = .ok (.aload_n 0, 1) := by decide +kernel
theorem dX9_poke_1 : decode cX9_poke 1 = .ok (.getfield 82, 3) := by decide +kernel
theorem dX9_poke_4 : decode cX9_poke 4 = .ok (.ifCond .ne 6, 3) := by decide +kernel
theorem dX9_poke_7 : decode cX9_poke 7 = .ok (.bipush (-4), 2) := by decide +kernel
theorem dX9_poke_9 : decode cX9_poke 9 = .ok (.ireturn, 1) := by decide +kernel
theorem dX9_poke_10 : decode cX9_poke 10 = .ok (.iload_n 1, 1) := by decide +kernel
theorem dX9_poke_11 : decode cX9_poke 11 = .ok (.iconst 0, 1) := by decide +kernel
theorem dX9_poke_12 : decode cX9_poke 12 = .ok (.aload_n 0, 1) := by decide +kernel
theorem dX9_poke_13 : decode cX9_poke 13 = .ok (.getfield 82, 3) := by decide +kernel
theorem dX9_poke_16 : decode cX9_poke 16 = .ok (.iconst 1, 1) := by decide +kernel
theorem dX9_poke_17 : decode cX9_poke 17 = .ok (.isub, 1) := by decide +kernel
theorem dX9_poke_18 : decode cX9_poke 18 = .ok (.invokestatic 75, 3) := by decide +kernel
theorem dX9_poke_21 : decode cX9_poke 21 = .ok (.ifCond .ne 14, 3) := by decide +kernel
theorem dX9_poke_24 : decode cX9_poke 24 = .ok (.iload_n 2, 1) := by decide +kernel
theorem dX9_poke_25 : decode cX9_poke 25 = .ok (.iconst 0, 1) := by decide +kernel
theorem dX9_poke_26 : decode cX9_poke 26 = .ok (.sipush 255, 3) := by decide +kernel
theorem dX9_poke_29 : decode cX9_poke 29 = .ok (.invokestatic 75, 3) := by decide +kernel
theorem dX9_poke_32 : decode cX9_poke 32 = .ok (.ifCond .eq 5, 3) := by decide +kernel
theorem dX9_poke_35 : decode cX9_poke 35 = .ok (.iconst (-1), 1) := by decide +kernel
theorem dX9_poke_36 : decode cX9_poke 36 = .ok (.ireturn, 1) := by decide +kernel
theorem dX9_poke_37 : decode cX9_poke 37 = .ok (.aload_n 0, 1) := by decide +kernel
theorem dX9_poke_38 : decode cX9_poke 38 = .ok (.getfield 32, 3) := by decide +kernel
theorem dX9_poke_41 : decode cX9_poke 41 = .ok (.iload_n 1, 1) := by decide +kernel
theorem dX9_poke_42 : decode cX9_poke 42 = .ok (.iaload, 1) := by decide +kernel
theorem dX9_poke_43 : decode cX9_poke 43 = .ok (.istore_n 3, 1) := by decide +kernel
theorem dX9_poke_44 : decode cX9_poke 44 = .ok (.aload_n 0, 1) := by decide +kernel
theorem dX9_poke_45 : decode cX9_poke 45 = .ok (.getfield 32, 3) := by decide +kernel
theorem dX9_poke_48 : decode cX9_poke 48 = .ok (.iload_n 1, 1) := by decide +kernel
theorem dX9_poke_49 : decode cX9_poke 49 = .ok (.iload_n 2, 1) := by decide +kernel
theorem dX9_poke_50 : decode cX9_poke 50 = .ok (.iastore, 1) := by decide +kernel
theorem dX9_poke_51 : decode cX9_poke 51 = .ok (.iload_n 3, 1) := by decide +kernel
theorem dX9_poke_52 : decode cX9_poke 52 = .ok (.ireturn, 1) := by decide +kernel
theorem dX9_peek_0 : decode cX9_peek 0 = .ok (.aload_n 0, 1) := by decide +kernel
theorem dX9_peek_1 : decode cX9_peek 1 = .ok (.getfield 82, 3) := by decide +kernel
theorem dX9_peek_4 : decode cX9_peek 4 = .ok (.ifCond .ne 8, 3) := by decide +kernel
theorem dX9_peek_7 : decode cX9_peek 7 = .ok (.bipush (-4), 2) := by decide +kernel
theorem dX9_peek_9 : decode cX9_peek 9 = .ok (.goto 27, 3) := by decide +kernel
theorem dX9_peek_12 : decode cX9_peek 12 = .ok (.iload_n 1, 1) := by decide +kernel
theorem dX9_peek_13 : decode cX9_peek 13 = .ok (.iconst 0, 1) := by decide +kernel
theorem dX9_peek_14 : decode cX9_peek 14 = .ok (.aload_n 0, 1) := by decide +kernel
theorem dX9_peek_15 : decode cX9_peek 15 = .ok (.getfield 82, 3) := by decide +kernel
theorem dX9_peek_18 : decode cX9_peek 18 = .ok (.iconst 1, 1) := by decide +kernel
theorem dX9_peek_19 : decode cX9_peek 19 = .ok (.isub, 1) := by decide +kernel
theorem dX9_peek_20 : decode cX9_peek 20 = .ok (.invokestatic 75, 3) := by decide +kernel
theorem dX9_peek_23 : decode cX9_peek 23 = .ok (.ifCond .eq 7, 3) := by decide +kernel
theorem dX9_peek_26 : decode cX9_peek 26 = .ok (.iconst (-1), 1) := by decide +kernel
theorem dX9_peek_27 : decode cX9_peek 27 = .ok (.goto 9, 3) := by decide +kernel
theorem dX9_peek_30 : decode cX9_peek 30 = .ok (.aload_n 0, 1) := by decide +kernel
theorem dX9_peek_31 : decode cX9_peek 31 = .ok (.getfield 32, 3) := by decide +kernel
theorem dX9_peek_34 : decode cX9_peek 34 = .ok (.iload_n 1, 1) := by decide +kernel
theorem dX9_peek_35 : decode cX9_peek 35 = .ok (.iaload, 1) := by decide +kernel
theorem dX9_peek_36 : decode cX9_peek 36 = .ok (.ireturn, 1) := by decide +kernel
theorem dX9_jump_0 : decode cX9_jump 0 = .ok (.aload_n 0, 1) := by decide +kernel
theorem dX9_jump_1 : decode cX9_jump 1 = .ok (.getfield 82, 3) := by decide +kernel
theorem dX9_jump_4 : decode cX9_jump 4 = .ok (.ifCond .ne 6, 3) := by decide +kernel
theorem dX9_jump_7 : decode cX9_jump 7 = .ok (.bipush (-4), 2) := by decide +kernel
theorem dX9_jump_9 : decode cX9_jump 9 = .ok (.ireturn, 1) := by decide +kernel
theorem dX9_jump_10 : decode cX9_jump 10 = .ok (.iload_n 1, 1) := by decide +kernel
theorem dX9_jump_11 : decode cX9_jump 11 = .ok (.iconst 0, 1) := by decide +kernel
theorem dX9_jump_12 : decode cX9_jump 12 = .ok (.ldc 94, 2) := by decide +kernel
theorem dX9_jump_14 : decode cX9_jump 14 = .ok (.invokestatic 75, 3) := by decide +kernel
theorem dX9_jump_17 : decode cX9_jump 17 = .ok (.ifCond .eq 5, 3) := by decide +kernel
theorem dX9_jump_20 : decode cX9_jump 20 = .ok (.iconst (-1), 1) := by decide +kernel
theorem dX9_jump_21 : decode cX9_jump 21 = .ok (.ireturn, 1) := by decide +kernel
theorem dX9_jump_22 : decode cX9_jump 22 = .ok (.aload_n 0, 1) := by decide +kernel
theorem dX9_jump_23 : decode cX9_jump 23 = .ok (.getfield 32, 3) := by decide +kernel
theorem dX9_jump_26 : decode cX9_jump 26 = .ok (.sipush 1000, 3) := by decide +kernel
theorem dX9_jump_29 : decode cX9_jump 29 = .ok (.iaload, 1) := by decide +kernel
theorem dX9_jump_30 : decode cX9_jump 30 = .ok (.istore_n 2, 1) := by decide +kernel
theorem dX9_jump_31 : decode cX9_jump 31 = .ok (.aload_n 0, 1) := by decide +kernel
theorem dX9_jump_32 : decode cX9_jump 32 = .ok (.getfield 32, 3) := by decide +kernel
theorem dX9_jump_35 : decode cX9_jump 35 = .ok (.sipush 1000, 3) := by decide +kernel
theorem dX9_jump_38 : decode cX9_jump 38 = .ok (.iload_n 1, 1) := by decide +kernel
theorem dX9_jump_39 : decode cX9_jump 39 = .ok (.iastore, 1) := by decide +kernel
theorem dX9_jump_40 : decode cX9_jump 40 = .ok (.iload_n 2, 1) := by decide +kernel
theorem dX9_jump_41 : decode cX9_jump 41 = .ok (.ireturn, 1) := by decide +kernel
theorem dX9_newest_0 : decode cX9_newest 0 = .ok (.sipush 1002, 3) := by decide +kernel
theorem dX9_newest_3 : decode cX9_newest 3 = .ok (.aload_n 0, 1) := by decide +kernel
theorem dX9_newest_4 : decode cX9_newest 4 = .ok (.getfield 32, 3) := by decide +kernel
theorem dX9_newest_7 : decode cX9_newest 7 = .ok (.sipush 1001, 3) := by decide +kernel
theorem dX9_newest_10 : decode cX9_newest 10 = .ok (.iaload, 1) := by decide +kernel
theorem dX9_newest_11 : decode cX9_newest 11 = .ok (.iconst 1, 1) := by decide +kernel
theorem dX9_newest_12 : decode cX9_newest 12 = .ok (.isub, 1) := by decide +kernel
theorem dX9_newest_13 : decode cX9_newest 13 = .ok (.bipush 60, 2) := by decide +kernel
theorem dX9_newest_15 : decode cX9_newest 15 = .ok (.imul, 1) := by decide +kernel
theorem dX9_newest_16 : decode cX9_newest 16 = .ok (.iadd, 1) := by decide +kernel
theorem dX9_newest_17 : decode cX9_newest 17 = .ok (.ireturn, 1) := by decide +kernel
theorem dX9_call_0 : decode cX9_call 0 = .ok (.aload_n 0, 1) := by decide +kernel
theorem dX9_call_1 : decode cX9_call 1 = .ok (.getfield 82, 3) := by decide +kernel
theorem dX9_call_4 : decode cX9_call 4 = .ok (.ifCond .ne 6, 3) := by decide +kernel
theorem dX9_call_7 : decode cX9_call 7 = .ok (.bipush (-4), 2) := by decide +kernel
theorem dX9_call_9 : decode cX9_call 9 = .ok (.ireturn, 1) := by decide +kernel
theorem dX9_call_10 : decode cX9_call 10 = .ok (.iload_n 1, 1) := by decide +kernel
theorem dX9_call_11 : decode cX9_call 11 = .ok (.iconst 0, 1) := by decide +kernel
theorem dX9_call_12 : decode cX9_call 12 = .ok (.ldc 94, 2) := by decide +kernel
theorem dX9_call_14 : decode cX9_call 14 = .ok (.invokestatic 75, 3) := by decide +kernel
theorem dX9_call_17 : decode cX9_call 17 = .ok (.ifCond .ne 41, 3) := by decide +kernel
theorem dX9_call_20 : decode cX9_call 20 = .ok (.iload_n 2, 1) := by decide +kernel
theorem dX9_call_21 : decode cX9_call 21 = .ok (.bipush (-2), 2) := by decide +kernel
theorem dX9_call_23 : decode cX9_call 23 = .ok (.if_icmp .eq 14, 3) := by decide +kernel
theorem dX9_call_26 : decode cX9_call 26 = .ok (.iload_n 2, 1) := by decide +kernel
theorem dX9_call_27 : decode cX9_call 27 = .ok (.iconst 0, 1) := by decide +kernel
theorem dX9_call_28 : decode cX9_call 28 = .ok (.sipush 255, 3) := by decide +kernel
theorem dX9_call_31 : decode cX9_call 31 = .ok (.invokestatic 75, 3) := by decide +kernel
theorem dX9_call_34 : decode cX9_call 34 = .ok (.ifCond .ne 24, 3) := by decide +kernel
theorem dX9_call_37 : decode cX9_call 37 = .ok (.iload_n 3, 1) := by decide +kernel
theorem dX9_call_38 : decode cX9_call 38 = .ok (.iconst 0, 1) := by decide +kernel
theorem dX9_call_39 : decode cX9_call 39 = .ok (.bipush 7, 2) := by decide +kernel
theorem dX9_call_41 : decode cX9_call 41 = .ok (.invokestatic 75, 3) := by decide +kernel
theorem dX9_call_44 : decode cX9_call 44 = .ok (.ifCond .ne 14, 3) := by decide +kernel
theorem dX9_call_47 : decode cX9_call 47 = .ok (.iload 4, 2) := by decide +kernel
theorem dX9_call_49 : decode cX9_call 49 = .ok (.iconst 0, 1) := by decide +kernel
theorem dX9_call_50 : decode cX9_call 50 = .ok (.bipush 15, 2) := by decide +kernel
theorem dX9_call_52 : decode cX9_call 52 = .ok (.invokestatic 75, 3) := by decide +kernel
theorem dX9_call_55 : decode cX9_call 55 = .ok (.ifCond .eq 5, 3) := by decide +kernel
theorem dX9_call_58 : decode cX9_call 58 = .ok (.iconst (-1), 1) := by decide +kernel
theorem dX9_call_59 : decode cX9_call 59 = .ok (.ireturn, 1) := by decide +kernel
theorem dX9_call_60 : decode cX9_call 60 = .ok (.aload_n 0, 1) := by decide +kernel
theorem dX9_call_61 : decode cX9_call 61 = .ok (.getfield 32, 3) := by decide +kernel
theorem dX9_call_64 : decode cX9_call 64 = .ok (.sipush 1001, 3) := by decide +kernel
theorem dX9_call_67 : decode cX9_call 67 = .ok (.iaload, 1) := by decide +kernel
theorem dX9_call_68 : decode cX9_call 68 = .ok (.bipush 20, 2) := by decide +kernel
theorem dX9_call_70 : decode cX9_call 70 = .ok (.if_icmp .ne 6, 3) := by decide +kernel
theorem dX9_call_73 : decode cX9_call 73 = .ok (.bipush (-3), 2) := by decide +kernel
theorem dX9_call_75 : decode cX9_call 75 = .ok (.ireturn, 1) := by decide +kernel
theorem dX9_call_76 : decode cX9_call 76 = .ok (.aload_n 0, 1) := by decide +kernel
theorem dX9_call_77 : decode cX9_call 77 = .ok (.getfield 32, 3) := by decide +kernel
theorem dX9_call_80 : decode cX9_call 80 = .ok (.sipush 1001, 3) := by decide +kernel
theorem dX9_call_83 : decode cX9_call 83 = .ok (.dup2, 1) := by decide +kernel
theorem dX9_call_84 : decode cX9_call 84 = .ok (.iaload, 1) := by decide +kernel
theorem dX9_call_85 : decode cX9_call 85 = .ok (.iconst 1, 1) := by decide +kernel
theorem dX9_call_86 : decode cX9_call 86 = .ok (.iadd, 1) := by decide +kernel
theorem dX9_call_87 : decode cX9_call 87 = .ok (.iastore, 1) := by decide +kernel
theorem dX9_call_88 : decode cX9_call 88 = .ok (.aload_n 0, 1) := by decide +kernel
theorem dX9_call_89 : decode cX9_call 89 = .ok (.invokevirtual 95, 3) := by decide +kernel
theorem dX9_call_92 : decode cX9_call 92 = .ok (.istore 5, 2) := by decide +kernel
theorem dX9_call_94 : decode cX9_call 94 = .ok (.iconst 0, 1) := by decide +kernel
theorem dX9_call_95 : decode cX9_call 95 = .ok (.istore 6, 2) := by decide +kernel
theorem dX9_call_97 : decode cX9_call 97 = .ok (.iload 6, 2) := by decide +kernel
theorem dX9_call_99 : decode cX9_call 99 = .ok (.bipush 60, 2) := by decide +kernel
theorem dX9_call_101 : decode cX9_call 101 = .ok (.if_icmp .ge 20, 3) := by decide +kernel
theorem dX9_call_104 : decode cX9_call 104 = .ok (.aload_n 0, 1) := by decide +kernel
theorem dX9_call_105 : decode cX9_call 105 = .ok (.getfield 32, 3) := by decide +kernel
theorem dX9_call_108 : decode cX9_call 108 = .ok (.iload 5, 2) := by decide +kernel
theorem dX9_call_110 : decode cX9_call 110 = .ok (.iload 6, 2) := by decide +kernel
theorem dX9_call_112 : decode cX9_call 112 = .ok (.iadd, 1) := by decide +kernel
theorem dX9_call_113 : decode cX9_call 113 = .ok (.iconst 0, 1) := by decide +kernel
theorem dX9_call_114 : decode cX9_call 114 = .ok (.iastore, 1) := by decide +kernel
theorem dX9_call_115 : decode cX9_call 115 = .ok (.iinc 6 1, 3) := by decide +kernel
theorem dX9_call_118 : decode cX9_call 118 = .ok (.goto (-21), 3) := by decide +kernel
theorem dX9_call_121 : decode cX9_call 121 = .ok (.aload_n 0, 1) := by decide +kernel
theorem dX9_call_122 : decode cX9_call 122 = .ok (.getfield 32, 3) := by decide +kernel
theorem dX9_call_125 : decode cX9_call 125 = .ok (.iload 5, 2) := by decide +kernel
theorem dX9_call_127 : decode cX9_call 127 = .ok (.aload_n 0, 1) := by decide +kernel
theorem dX9_call_128 : decode cX9_call 128 = .ok (.getfield 32, 3) := by decide +kernel
theorem dX9_call_131 : decode cX9_call 131 = .ok (.sipush 1000, 3) := by decide +kernel
theorem dX9_call_134 : decode cX9_call 134 = .ok (.iaload, 1) := by decide +kernel
theorem dX9_call_135 : decode cX9_call 135 = .ok (.iastore, 1) := by decide +kernel
theorem dX9_call_136 : decode cX9_call 136 = .ok (.aload_n 0, 1) := by decide +kernel
theorem dX9_call_137 : decode cX9_call 137 = .ok (.getfield 32, 3) := by decide +kernel
theorem dX9_call_140 : decode cX9_call 140 = .ok (.iload 5, 2) := by decide +kernel
theorem dX9_call_142 : decode cX9_call 142 = .ok (.iconst 1, 1) := by decide +kernel
theorem dX9_call_143 : decode cX9_call 143 = .ok (.iadd, 1) := by decide +kernel
theorem dX9_call_144 : decode cX9_call 144 = .ok (.iload_n 2, 1) := by decide +kernel
theorem dX9_call_145 : decode cX9_call 145 = .ok (.iastore, 1) := by decide +kernel
theorem dX9_call_146 : decode cX9_call 146 = .ok (.aload_n 0, 1) := by decide +kernel
theorem dX9_call_147 : decode cX9_call 147 = .ok (.getfield 32, 3) := by decide +kernel
theorem dX9_call_150 : decode cX9_call 150 = .ok (.iload 5, 2) := by decide +kernel
theorem dX9_call_152 : decode cX9_call 152 = .ok (.iconst 2, 1) := by decide +kernel
theorem dX9_call_153 : decode cX9_call 153 = .ok (.iadd, 1) := by decide +kernel
theorem dX9_call_154 : decode cX9_call 154 = .ok (.iload_n 3, 1) := by decide +kernel
theorem dX9_call_155 : decode cX9_call 155 = .ok (.iastore, 1) := by decide +kernel
theorem dX9_call_156 : decode cX9_call 156 = .ok (.aload_n 0, 1) := by decide +kernel
theorem dX9_call_157 : decode cX9_call 157 = .ok (.getfield 32, 3) := by decide +kernel
theorem dX9_call_160 : decode cX9_call 160 = .ok (.iload 5, 2) := by decide +kernel
theorem dX9_call_162 : decode cX9_call 162 = .ok (.iconst 3, 1) := by decide +kernel
theorem dX9_call_163 : decode cX9_call 163 = .ok (.iadd, 1) := by decide +kernel
theorem dX9_call_164 : decode cX9_call 164 = .ok (.iload 4, 2) := by decide +kernel
theorem dX9_call_166 : decode cX9_call 166 = .ok (.iastore, 1) := by decide +kernel
theorem dX9_call_167 : decode cX9_call 167 = .ok (.aload_n 0, 1) := by decide +kernel
theorem dX9_call_168 : decode cX9_call 168 = .ok (.getfield 32, 3) := by decide +kernel
theorem dX9_call_171 : decode cX9_call 171 = .ok (.sipush 1000, 3) := by decide +kernel
theorem dX9_call_174 : decode cX9_call 174 = .ok (.iload_n 1, 1) := by decide +kernel
theorem dX9_call_175 : decode cX9_call 175 = .ok (.iastore, 1) := by decide +kernel
theorem dX9_call_176 : decode cX9_call 176 = .ok (.aload_n 0, 1) := by decide +kernel
theorem dX9_call_177 : decode cX9_call 177 = .ok (.getfield 32, 3) := by decide +kernel
theorem dX9_call_180 : decode cX9_call 180 = .ok (.sipush 1001, 3) := by decide +kernel
theorem dX9_call_183 : decode cX9_call 183 = .ok (.iaload, 1) := by decide +kernel
theorem dX9_call_184 : decode cX9_call 184 = .ok (.ireturn, 1) := by decide +kernel
theorem dX9_leave_0 : decode cX9_leave 0 = .ok (.aload_n 0, 1) := by decide +kernel
theorem dX9_leave_1 : decode cX9_leave 1 = .ok (.getfield 82, 3) := by decide +kernel
theorem dX9_leave_4 : decode cX9_leave 4 = .ok (.ifCond .ne 6, 3) := by decide +kernel
theorem dX9_leave_7 : decode cX9_leave 7 = .ok (.bipush (-4), 2) := by decide +kernel
theorem dX9_leave_9 : decode cX9_leave 9 = .ok (.ireturn, 1) := by decide +kernel
theorem dX9_leave_10 : decode cX9_leave 10 = .ok (.aload_n 0, 1) := by decide +kernel
theorem dX9_leave_11 : decode cX9_leave 11 = .ok (.getfield 32, 3) := by decide +kernel
theorem dX9_leave_14 : decode cX9_leave 14 = .ok (.sipush 1001, 3) := by decide +kernel
theorem dX9_leave_17 : decode cX9_leave 17 = .ok (.iaload, 1) := by decide +kernel
theorem dX9_leave_18 : decode cX9_leave 18 = .ok (.iconst 1, 1) := by decide +kernel
theorem dX9_leave_19 : decode cX9_leave 19 = .ok (.if_icmp .ne 6, 3) := by decide +kernel
theorem dX9_leave_22 : decode cX9_leave 22 = .ok (.bipush (-2), 2) := by decide +kernel
theorem dX9_leave_24 : decode cX9_leave 24 = .ok (.ireturn, 1) := by decide +kernel
theorem dX9_leave_25 : decode cX9_leave 25 = .ok (.aload_n 0, 1) := by decide +kernel
theorem dX9_leave_26 : decode cX9_leave 26 = .ok (.getfield 32, 3) := by decide +kernel
theorem dX9_leave_29 : decode cX9_leave 29 = .ok (.sipush 1000, 3) := by decide +kernel
theorem dX9_leave_32 : decode cX9_leave 32 = .ok (.aload_n 0, 1) := by decide +kernel
theorem dX9_leave_33 : decode cX9_leave 33 = .ok (.getfield 32, 3) := by decide +kernel
theorem dX9_leave_36 : decode cX9_leave 36 = .ok (.aload_n 0, 1) := by decide +kernel
theorem dX9_leave_37 : decode cX9_leave 37 = .ok (.invokevirtual 95, 3) := by decide +kernel
theorem dX9_leave_40 : decode cX9_leave 40 = .ok (.iaload, 1) := by decide +kernel
theorem dX9_leave_41 : decode cX9_leave 41 = .ok (.iastore, 1) := by decide +kernel
theorem dX9_leave_42 : decode cX9_leave 42 = .ok (.aload_n 0, 1) := by decide +kernel
theorem dX9_leave_43 : decode cX9_leave 43 = .ok (.getfield 32, 3) := by decide +kernel
theorem dX9_leave_46 : decode cX9_leave 46 = .ok (.sipush 1001, 3) := by decide +kernel
theorem dX9_leave_49 : decode cX9_leave 49 = .ok (.dup2, 1) := by decide +kernel
theorem dX9_leave_50 : decode cX9_leave 50 = .ok (.iaload, 1) := by decide +kernel
theorem dX9_leave_51 : decode cX9_leave 51 = .ok (.iconst 1, 1) := by decide +kernel
theorem dX9_leave_52 : decode cX9_leave 52 = .ok (.isub, 1) := by decide +kernel
theorem dX9_leave_53 : decode cX9_leave 53 = .ok (.iastore, 1) := by decide +kernel
theorem dX9_leave_54 : decode cX9_leave 54 = .ok (.aload_n 0, 1) := by decide +kernel
theorem dX9_leave_55 : decode cX9_leave 55 = .ok (.getfield 32, 3) := by decide +kernel
theorem dX9_leave_58 : decode cX9_leave 58 = .ok (.sipush 1000, 3) := by decide +kernel
theorem dX9_leave_61 : decode cX9_leave 61 = .ok (.iaload, 1) := by decide +kernel
theorem dX9_leave_62 : decode cX9_leave 62 = .ok (.ireturn, 1) := by decide +kernel
theorem dX9_local_0 : decode cX9_local 0 = .ok (.aload_n 0, 1) := by decide +kernel
theorem dX9_local_1 : decode cX9_local 1 = .ok (.getfield 82, 3) := by decide +kernel
theorem dX9_local_4 : decode cX9_local 4 = .ok (.ifCond .ne 6, 3) := by decide +kernel
theorem dX9_local_7 : decode cX9_local 7 = .ok (.bipush (-4), 2) := by decide +kernel
theorem dX9_local_9 : decode cX9_local 9 = .ok (.ireturn, 1) := by decide +kernel
theorem dX9_local_10 : decode cX9_local 10 = .ok (.aload_n 0, 1) := by decide +kernel
theorem dX9_local_11 : decode cX9_local 11 = .ok (.invokevirtual 95, 3) := by decide +kernel
theorem dX9_local_14 : decode cX9_local 14 = .ok (.istore_n 3, 1) := by decide +kernel
theorem dX9_local_15 : decode cX9_local 15 = .ok (.iload_n 1, 1) := by decide +kernel
theorem dX9_local_16 : decode cX9_local 16 = .ok (.iconst 0, 1) := by decide +kernel
theorem dX9_local_17 : decode cX9_local 17 = .ok (.aload_n 0, 1) := by decide +kernel
theorem dX9_local_18 : decode cX9_local 18 = .ok (.getfield 32, 3) := by decide +kernel
theorem dX9_local_21 : decode cX9_local 21 = .ok (.iload_n 3, 1) := by decide +kernel
theorem dX9_local_22 : decode cX9_local 22 = .ok (.iconst 3, 1) := by decide +kernel
theorem dX9_local_23 : decode cX9_local 23 = .ok (.iadd, 1) := by decide +kernel
theorem dX9_local_24 : decode cX9_local 24 = .ok (.iaload, 1) := by decide +kernel
theorem dX9_local_25 : decode cX9_local 25 = .ok (.iconst 1, 1) := by decide +kernel
theorem dX9_local_26 : decode cX9_local 26 = .ok (.isub, 1) := by decide +kernel
theorem dX9_local_27 : decode cX9_local 27 = .ok (.invokestatic 75, 3) := by decide +kernel
theorem dX9_local_30 : decode cX9_local 30 = .ok (.ifCond .ne 13, 3) := by decide +kernel
theorem dX9_local_33 : decode cX9_local 33 = .ok (.iload_n 2, 1) := by decide +kernel
theorem dX9_local_34 : decode cX9_local 34 = .ok (.iconst 0, 1) := by decide +kernel
theorem dX9_local_35 : decode cX9_local 35 = .ok (.ldc 99, 2) := by decide +kernel
theorem dX9_local_37 : decode cX9_local 37 = .ok (.invokestatic 75, 3) := by decide +kernel
theorem dX9_local_40 : decode cX9_local 40 = .ok (.ifCond .eq 5, 3) := by decide +kernel
theorem dX9_local_43 : decode cX9_local 43 = .ok (.iconst (-1), 1) := by decide +kernel
theorem dX9_local_44 : decode cX9_local 44 = .ok (.ireturn, 1) := by decide +kernel
theorem dX9_local_45 : decode cX9_local 45 = .ok (.aload_n 0, 1) := by decide +kernel
theorem dX9_local_46 : decode cX9_local 46 = .ok (.getfield 32, 3) := by decide +kernel
theorem dX9_local_49 : decode cX9_local 49 = .ok (.iload_n 3, 1) := by decide +kernel
theorem dX9_local_50 : decode cX9_local 50 = .ok (.iconst 5, 1) := by decide +kernel
theorem dX9_local_51 : decode cX9_local 51 = .ok (.iadd, 1) := by decide +kernel
theorem dX9_local_52 : decode cX9_local 52 = .ok (.iload_n 1, 1) := by decide +kernel
theorem dX9_local_53 : decode cX9_local 53 = .ok (.iadd, 1) := by decide +kernel
theorem dX9_local_54 : decode cX9_local 54 = .ok (.iaload, 1) := by decide +kernel
theorem dX9_local_55 : decode cX9_local 55 = .ok (.istore 4, 2) := by decide +kernel
theorem dX9_local_57 : decode cX9_local 57 = .ok (.aload_n 0, 1) := by decide +kernel
theorem dX9_local_58 : decode cX9_local 58 = .ok (.getfield 32, 3) := by decide +kernel
theorem dX9_local_61 : decode cX9_local 61 = .ok (.iload_n 3, 1) := by decide +kernel
theorem dX9_local_62 : decode cX9_local 62 = .ok (.iconst 5, 1) := by decide +kernel
theorem dX9_local_63 : decode cX9_local 63 = .ok (.iadd, 1) := by decide +kernel
theorem dX9_local_64 : decode cX9_local 64 = .ok (.iload_n 1, 1) := by decide +kernel
theorem dX9_local_65 : decode cX9_local 65 = .ok (.iadd, 1) := by decide +kernel
theorem dX9_local_66 : decode cX9_local 66 = .ok (.iload_n 2, 1) := by decide +kernel
theorem dX9_local_67 : decode cX9_local 67 = .ok (.iastore, 1) := by decide +kernel
theorem dX9_local_68 : decode cX9_local 68 = .ok (.iload 4, 2) := by decide +kernel
theorem dX9_local_70 : decode cX9_local 70 = .ok (.ireturn, 1) := by decide +kernel
theorem dX9_push_0 : decode cX9_push 0 = .ok (.aload_n 0, 1) := by decide +kernel
theorem dX9_push_1 : decode cX9_push 1 = .ok (.getfield 82, 3) := by decide +kernel
theorem dX9_push_4 : decode cX9_push 4 = .ok (.ifCond .ne 6, 3) := by decide +kernel
theorem dX9_push_7 : decode cX9_push 7 = .ok (.bipush (-4), 2) := by decide +kernel
theorem dX9_push_9 : decode cX9_push 9 = .ok (.ireturn, 1) := by decide +kernel
theorem dX9_push_10 : decode cX9_push 10 = .ok (.iload_n 1, 1) := by decide +kernel
theorem dX9_push_11 : decode cX9_push 11 = .ok (.iconst 0, 1) := by decide +kernel
theorem dX9_push_12 : decode cX9_push 12 = .ok (.ldc 99, 2) := by decide +kernel
theorem dX9_push_14 : decode cX9_push 14 = .ok (.invokestatic 75, 3) := by decide +kernel
theorem dX9_push_17 : decode cX9_push 17 = .ok (.ifCond .eq 5, 3) := by decide +kernel
theorem dX9_push_20 : decode cX9_push 20 = .ok (.iconst (-1), 1) := by decide +kernel
theorem dX9_push_21 : decode cX9_push 21 = .ok (.ireturn, 1) := by decide +kernel
theorem dX9_push_22 : decode cX9_push 22 = .ok (.aload_n 0, 1) := by decide +kernel
theorem dX9_push_23 : decode cX9_push 23 = .ok (.invokevirtual 95, 3) := by decide +kernel
theorem dX9_push_26 : decode cX9_push 26 = .ok (.istore_n 2, 1) := by decide +kernel
theorem dX9_push_27 : decode cX9_push 27 = .ok (.aload_n 0, 1) := by decide +kernel
theorem dX9_push_28 : decode cX9_push 28 = .ok (.getfield 32, 3) := by decide +kernel
theorem dX9_push_31 : decode cX9_push 31 = .ok (.iload_n 2, 1) := by decide +kernel
theorem dX9_push_32 : decode cX9_push 32 = .ok (.iconst 4, 1) := by decide +kernel
theorem dX9_push_33 : decode cX9_push 33 = .ok (.iadd, 1) := by decide +kernel
theorem dX9_push_34 : decode cX9_push 34 = .ok (.iaload, 1) := by decide +kernel
theorem dX9_push_35 : decode cX9_push 35 = .ok (.bipush 40, 2) := by decide +kernel
theorem dX9_push_37 : decode cX9_push 37 = .ok (.if_icmp .ne 6, 3) := by decide +kernel
theorem dX9_push_40 : decode cX9_push 40 = .ok (.bipush (-3), 2) := by decide +kernel
theorem dX9_push_42 : decode cX9_push 42 = .ok (.ireturn, 1) := by decide +kernel
theorem dX9_push_43 : decode cX9_push 43 = .ok (.aload_n 0, 1) := by decide +kernel
theorem dX9_push_44 : decode cX9_push 44 = .ok (.getfield 32, 3) := by decide +kernel
theorem dX9_push_47 : decode cX9_push 47 = .ok (.iload_n 2, 1) := by decide +kernel
theorem dX9_push_48 : decode cX9_push 48 = .ok (.iconst 5, 1) := by decide +kernel
theorem dX9_push_49 : decode cX9_push 49 = .ok (.iadd, 1) := by decide +kernel
theorem dX9_push_50 : decode cX9_push 50 = .ok (.aload_n 0, 1) := by decide +kernel
theorem dX9_push_51 : decode cX9_push 51 = .ok (.getfield 32, 3) := by decide +kernel
theorem dX9_push_54 : decode cX9_push 54 = .ok (.iload_n 2, 1) := by decide +kernel
theorem dX9_push_55 : decode cX9_push 55 = .ok (.iconst 3, 1) := by decide +kernel
theorem dX9_push_56 : decode cX9_push 56 = .ok (.iadd, 1) := by decide +kernel
theorem dX9_push_57 : decode cX9_push 57 = .ok (.iaload, 1) := by decide +kernel
theorem dX9_push_58 : decode cX9_push 58 = .ok (.iadd, 1) := by decide +kernel
theorem dX9_push_59 : decode cX9_push 59 = .ok (.aload_n 0, 1) := by decide +kernel
theorem dX9_push_60 : decode cX9_push 60 = .ok (.getfield 32, 3) := by decide +kernel
theorem dX9_push_63 : decode cX9_push 63 = .ok (.iload_n 2, 1) := by decide +kernel
theorem dX9_push_64 : decode cX9_push 64 = .ok (.iconst 4, 1) := by decide +kernel
theorem dX9_push_65 : decode cX9_push 65 = .ok (.iadd, 1) := by decide +kernel
theorem dX9_push_66 : decode cX9_push 66 = .ok (.iaload, 1) := by decide +kernel
theorem dX9_push_67 : decode cX9_push 67 = .ok (.iadd, 1) := by decide +kernel
theorem dX9_push_68 : decode cX9_push 68 = .ok (.iload_n 1, 1) := by decide +kernel
theorem dX9_push_69 : decode cX9_push 69 = .ok (.iastore, 1) := by decide +kernel
theorem dX9_push_70 : decode cX9_push 70 = .ok (.aload_n 0, 1) := by decide +kernel
theorem dX9_push_71 : decode cX9_push 71 = .ok (.getfield 32, 3) := by decide +kernel
theorem dX9_push_74 : decode cX9_push 74 = .ok (.iload_n 2, 1) := by decide +kernel
theorem dX9_push_75 : decode cX9_push 75 = .ok (.iconst 4, 1) := by decide +kernel
theorem dX9_push_76 : decode cX9_push 76 = .ok (.iadd, 1) := by decide +kernel
theorem dX9_push_77 : decode cX9_push 77 = .ok (.dup2, 1) := by decide +kernel
theorem dX9_push_78 : decode cX9_push 78 = .ok (.iaload, 1) := by decide +kernel
theorem dX9_push_79 : decode cX9_push 79 = .ok (.iconst 1, 1) := by decide +kernel
theorem dX9_push_80 : decode cX9_push 80 = .ok (.iadd, 1) := by decide +kernel
theorem dX9_push_81 : decode cX9_push 81 = .ok (.iastore, 1) := by decide +kernel
theorem dX9_push_82 : decode cX9_push 82 = .ok (.aload_n 0, 1) := by decide +kernel
theorem dX9_push_83 : decode cX9_push 83 = .ok (.getfield 32, 3) := by decide +kernel
theorem dX9_push_86 : decode cX9_push 86 = .ok (.iload_n 2, 1) := by decide +kernel
theorem dX9_push_87 : decode cX9_push 87 = .ok (.iconst 4, 1) := by decide +kernel
theorem dX9_push_88 : decode cX9_push 88 = .ok (.iadd, 1) := by decide +kernel
theorem dX9_push_89 : decode cX9_push 89 = .ok (.iaload, 1) := by decide +kernel
theorem dX9_push_90 : decode cX9_push 90 = .ok (.ireturn, 1) := by decide +kernel
theorem dX9_pop_0 : decode cX9_pop 0 = .ok (.aload_n 0, 1) := by decide +kernel
theorem dX9_pop_1 : decode cX9_pop 1 = .ok (.getfield 82, 3) := by decide +kernel
theorem dX9_pop_4 : decode cX9_pop 4 = .ok (.ifCond .ne 6, 3) := by decide +kernel
theorem dX9_pop_7 : decode cX9_pop 7 = .ok (.bipush (-4), 2) := by decide +kernel
theorem dX9_pop_9 : decode cX9_pop 9 = .ok (.ireturn, 1) := by decide +kernel
theorem dX9_pop_10 : decode cX9_pop 10 = .ok (.aload_n 0, 1) := by decide +kernel
theorem dX9_pop_11 : decode cX9_pop 11 = .ok (.invokevirtual 95, 3) := by decide +kernel
theorem dX9_pop_14 : decode cX9_pop 14 = .ok (.istore_n 1, 1) := by decide +kernel
theorem dX9_pop_15 : decode cX9_pop 15 = .ok (.aload_n 0, 1) := by decide +kernel
theorem dX9_pop_16 : decode cX9_pop 16 = .ok (.getfield 32, 3) := by decide +kernel
theorem dX9_pop_19 : decode cX9_pop 19 = .ok (.iload_n 1, 1) := by decide +kernel
theorem dX9_pop_20 : decode cX9_pop 20 = .ok (.iconst 4, 1) := by decide +kernel
theorem dX9_pop_21 : decode cX9_pop 21 = .ok (.iadd, 1) := by decide +kernel
theorem dX9_pop_22 : decode cX9_pop 22 = .ok (.iaload, 1) := by decide +kernel
theorem dX9_pop_23 : decode cX9_pop 23 = .ok (.ifCond .ne 6, 3) := by decide +kernel
theorem dX9_pop_26 : decode cX9_pop 26 = .ok (.bipush (-2), 2) := by decide +kernel
theorem dX9_pop_28 : decode cX9_pop 28 = .ok (.ireturn, 1) := by decide +kernel
theorem dX9_pop_29 : decode cX9_pop 29 = .ok (.aload_n 0, 1) := by decide +kernel
theorem dX9_pop_30 : decode cX9_pop 30 = .ok (.getfield 32, 3) := by decide +kernel
theorem dX9_pop_33 : decode cX9_pop 33 = .ok (.iload_n 1, 1) := by decide +kernel
theorem dX9_pop_34 : decode cX9_pop 34 = .ok (.iconst 4, 1) := by decide +kernel
theorem dX9_pop_35 : decode cX9_pop 35 = .ok (.iadd, 1) := by decide +kernel
theorem dX9_pop_36 : decode cX9_pop 36 = .ok (.dup2, 1) := by decide +kernel
theorem dX9_pop_37 : decode cX9_pop 37 = .ok (.iaload, 1) := by decide +kernel
theorem dX9_pop_38 : decode cX9_pop 38 = .ok (.iconst 1, 1) := by decide +kernel
theorem dX9_pop_39 : decode cX9_pop 39 = .ok (.isub, 1) := by decide +kernel
theorem dX9_pop_40 : decode cX9_pop 40 = .ok (.iastore, 1) := by decide +kernel
theorem dX9_pop_41 : decode cX9_pop 41 = .ok (.aload_n 0, 1) := by decide +kernel
theorem dX9_pop_42 : decode cX9_pop 42 = .ok (.getfield 32, 3) := by decide +kernel
theorem dX9_pop_45 : decode cX9_pop 45 = .ok (.iload_n 1, 1) := by decide +kernel
theorem dX9_pop_46 : decode cX9_pop 46 = .ok (.iconst 5, 1) := by decide +kernel
theorem dX9_pop_47 : decode cX9_pop 47 = .ok (.iadd, 1) := by decide +kernel
theorem dX9_pop_48 : decode cX9_pop 48 = .ok (.aload_n 0, 1) := by decide +kernel
theorem dX9_pop_49 : decode cX9_pop 49 = .ok (.getfield 32, 3) := by decide +kernel
theorem dX9_pop_52 : decode cX9_pop 52 = .ok (.iload_n 1, 1) := by decide +kernel
theorem dX9_pop_53 : decode cX9_pop 53 = .ok (.iconst 3, 1) := by decide +kernel
theorem dX9_pop_54 : decode cX9_pop 54 = .ok (.iadd, 1) := by decide +kernel
theorem dX9_pop_55 : decode cX9_pop 55 = .ok (.iaload, 1) := by decide +kernel
theorem dX9_pop_56 : decode cX9_pop 56 = .ok (.iadd, 1) := by decide +kernel
theorem dX9_pop_57 : decode cX9_pop 57 = .ok (.aload_n 0, 1) := by decide +kernel
theorem dX9_pop_58 : decode cX9_pop 58 = .ok (.getfield 32, 3) := by decide +kernel
theorem dX9_pop_61 : decode cX9_pop 61 = .ok (.iload_n 1, 1) := by decide +kernel
theorem dX9_pop_62 : decode cX9_pop 62 = .ok (.iconst 4, 1) := by decide +kernel
theorem dX9_pop_63 : decode cX9_pop 63 = .ok (.iadd, 1) := by decide +kernel
theorem dX9_pop_64 : decode cX9_pop 64 = .ok (.iaload, 1) := by decide +kernel
theorem dX9_pop_65 : decode cX9_pop 65 = .ok (.iadd, 1) := by decide +kernel
theorem dX9_pop_66 : decode cX9_pop 66 = .ok (.iaload, 1) := by decide +kernel
theorem dX9_pop_67 : decode cX9_pop 67 = .ok (.ireturn, 1) := by decide +kernel
theorem dX9_frame_0 : decode cX9_frame 0 = .ok (.aload_n 0, 1) := by decide +kernel
theorem dX9_frame_1 : decode cX9_frame 1 = .ok (.getfield 82, 3) := by decide +kernel
theorem dX9_frame_4 : decode cX9_frame 4 = .ok (.ifCond .ne 6, 3) := by decide +kernel
theorem dX9_frame_7 : decode cX9_frame 7 = .ok (.bipush (-4), 2) := by decide +kernel
theorem dX9_frame_9 : decode cX9_frame 9 = .ok (.ireturn, 1) := by decide +kernel
theorem dX9_frame_10 : decode cX9_frame 10 = .ok (.iload_n 1, 1) := by decide +kernel
theorem dX9_frame_11 : decode cX9_frame 11 = .ok (.iconst 0, 1) := by decide +kernel
theorem dX9_frame_12 : decode cX9_frame 12 = .ok (.aload_n 0, 1) := by decide +kernel
theorem dX9_frame_13 : decode cX9_frame 13 = .ok (.getfield 32, 3) := by decide +kernel
theorem dX9_frame_16 : decode cX9_frame 16 = .ok (.sipush 1001, 3) := by decide +kernel
theorem dX9_frame_19 : decode cX9_frame 19 = .ok (.iaload, 1) := by decide +kernel
theorem dX9_frame_20 : decode cX9_frame 20 = .ok (.iconst 1, 1) := by decide +kernel
theorem dX9_frame_21 : decode cX9_frame 21 = .ok (.isub, 1) := by decide +kernel
theorem dX9_frame_22 : decode cX9_frame 22 = .ok (.invokestatic 75, 3) := by decide +kernel
theorem dX9_frame_25 : decode cX9_frame 25 = .ok (.ifCond .eq 6, 3) := by decide +kernel
theorem dX9_frame_28 : decode cX9_frame 28 = .ok (.bipush (-2), 2) := by decide +kernel
theorem dX9_frame_30 : decode cX9_frame 30 = .ok (.ireturn, 1) := by decide +kernel
theorem dX9_frame_31 : decode cX9_frame 31 = .ok (.sipush 1002, 3) := by decide +kernel
theorem dX9_frame_34 : decode cX9_frame 34 = .ok (.iload_n 1, 1) := by decide +kernel
theorem dX9_frame_35 : decode cX9_frame 35 = .ok (.bipush 60, 2) := by decide +kernel
theorem dX9_frame_37 : decode cX9_frame 37 = .ok (.imul, 1) := by decide +kernel
theorem dX9_frame_38 : decode cX9_frame 38 = .ok (.iadd, 1) := by decide +kernel
theorem dX9_frame_39 : decode cX9_frame 39 = .ok (.istore_n 3, 1) := by decide +kernel
theorem dX9_frame_40 : decode cX9_frame 40 = .ok (.iload_n 2, 1) := by decide +kernel
theorem dX9_frame_41 : decode cX9_frame 41 = .ok (.ifCond .lt 17, 3) := by decide +kernel
theorem dX9_frame_44 : decode cX9_frame 44 = .ok (.iload_n 2, 1) := by decide +kernel
theorem dX9_frame_45 : decode cX9_frame 45 = .ok (.iconst 4, 1) := by decide +kernel
theorem dX9_frame_46 : decode cX9_frame 46 = .ok (.if_icmp .gt 12, 3) := by decide +kernel
theorem dX9_frame_49 : decode cX9_frame 49 = .ok (.aload_n 0, 1) := by decide +kernel
theorem dX9_frame_50 : decode cX9_frame 50 = .ok (.getfield 32, 3) := by decide +kernel
theorem dX9_frame_53 : decode cX9_frame 53 = .ok (.iload_n 3, 1) := by decide +kernel
theorem dX9_frame_54 : decode cX9_frame 54 = .ok (.iload_n 2, 1) := by decide +kernel
theorem dX9_frame_55 : decode cX9_frame 55 = .ok (.iadd, 1) := by decide +kernel
theorem dX9_frame_56 : decode cX9_frame 56 = .ok (.iaload, 1) := by decide +kernel
theorem dX9_frame_57 : decode cX9_frame 57 = .ok (.ireturn, 1) := by decide +kernel
theorem dX9_frame_58 : decode cX9_frame 58 = .ok (.iload_n 2, 1) := by decide +kernel
theorem dX9_frame_59 : decode cX9_frame 59 = .ok (.bipush 10, 2) := by decide +kernel
theorem dX9_frame_61 : decode cX9_frame 61 = .ok (.if_icmp .ge 5, 3) := by decide +kernel
theorem dX9_frame_64 : decode cX9_frame 64 = .ok (.iconst (-1), 1) := by decide +kernel
theorem dX9_frame_65 : decode cX9_frame 65 = .ok (.ireturn, 1) := by decide +kernel
theorem dX9_frame_66 : decode cX9_frame 66 = .ok (.iload_n 2, 1) := by decide +kernel
theorem dX9_frame_67 : decode cX9_frame 67 = .ok (.bipush 10, 2) := by decide +kernel
theorem dX9_frame_69 : decode cX9_frame 69 = .ok (.isub, 1) := by decide +kernel
theorem dX9_frame_70 : decode cX9_frame 70 = .ok (.aload_n 0, 1) := by decide +kernel
theorem dX9_frame_71 : decode cX9_frame 71 = .ok (.getfield 32, 3) := by decide +kernel
theorem dX9_frame_74 : decode cX9_frame 74 = .ok (.iload_n 3, 1) := by decide +kernel
theorem dX9_frame_75 : decode cX9_frame 75 = .ok (.iconst 3, 1) := by decide +kernel
theorem dX9_frame_76 : decode cX9_frame 76 = .ok (.iadd, 1) := by decide +kernel
theorem dX9_frame_77 : decode cX9_frame 77 = .ok (.iaload, 1) := by decide +kernel
theorem dX9_frame_78 : decode cX9_frame 78 = .ok (.aload_n 0, 1) := by decide +kernel
theorem dX9_frame_79 : decode cX9_frame 79 = .ok (.getfield 32, 3) := by decide +kernel
theorem dX9_frame_82 : decode cX9_frame 82 = .ok (.iload_n 3, 1) := by decide +kernel
theorem dX9_frame_83 : decode cX9_frame 83 = .ok (.iconst 4, 1) := by decide +kernel
theorem dX9_frame_84 : decode cX9_frame 84 = .ok (.iadd, 1) := by decide +kernel
theorem dX9_frame_85 : decode cX9_frame 85 = .ok (.iaload, 1) := by decide +kernel
theorem dX9_frame_86 : decode cX9_frame 86 = .ok (.iadd, 1) := by decide +kernel
theorem dX9_frame_87 : decode cX9_frame 87 = .ok (.if_icmp .ge 19, 3) := by decide +kernel
theorem dX9_frame_90 : decode cX9_frame 90 = .ok (.aload_n 0, 1) := by decide +kernel
theorem dX9_frame_91 : decode cX9_frame 91 = .ok (.getfield 32, 3) := by decide +kernel
theorem dX9_frame_94 : decode cX9_frame 94 = .ok (.iload_n 3, 1) := by decide +kernel
theorem dX9_frame_95 : decode cX9_frame 95 = .ok (.iconst 5, 1) := by decide +kernel
theorem dX9_frame_96 : decode cX9_frame 96 = .ok (.iadd, 1) := by decide +kernel
theorem dX9_frame_97 : decode cX9_frame 97 = .ok (.iload_n 2, 1) := by decide +kernel
theorem dX9_frame_98 : decode cX9_frame 98 = .ok (.iadd, 1) := by decide +kernel
theorem dX9_frame_99 : decode cX9_frame 99 = .ok (.bipush 10, 2) := by decide +kernel
theorem dX9_frame_101 : decode cX9_frame 101 = .ok (.isub, 1) := by decide +kernel
theorem dX9_frame_102 : decode cX9_frame 102 = .ok (.iaload, 1) := by decide +kernel
theorem dX9_frame_103 : decode cX9_frame 103 = .ok (.goto 5, 3) := by decide +kernel
theorem dX9_frame_106 : decode cX9_frame 106 = .ok (.bipush (-2), 2) := by decide +kernel
theorem dX9_frame_108 : decode cX9_frame 108 = .ok (.ireturn, 1) := by decide +kernel
theorem dX9_number_0 : decode cX9_number 0 = .ok (.iload_n 2, 1) := by decide +kernel
theorem dX9_number_1 : decode cX9_number 1 = .ok (.iconst 1, 1) := by decide +kernel
theorem dX9_number_2 : decode cX9_number 2 = .ok (.isub, 1) := by decide +kernel
theorem dX9_number_3 : decode cX9_number 3 = .ok (.istore_n 3, 1) := by decide +kernel
theorem dX9_number_4 : decode cX9_number 4 = .ok (.iload_n 3, 1) := by decide +kernel
theorem dX9_number_5 : decode cX9_number 5 = .ok (.ifCond .lt 38, 3) := by decide +kernel
theorem dX9_number_8 : decode cX9_number 8 = .ok (.aload_n 0, 1) := by decide +kernel
theorem dX9_number_9 : decode cX9_number 9 = .ok (.getfield 65, 3) := by decide +kernel
theorem dX9_number_12 : decode cX9_number 12 = .ok (.aload_n 0, 1) := by decide +kernel
theorem dX9_number_13 : decode cX9_number 13 = .ok (.getfield 100, 3) := by decide +kernel
theorem dX9_number_16 : decode cX9_number 16 = .ok (.iload_n 1, 1) := by decide +kernel
theorem dX9_number_17 : decode cX9_number 17 = .ok (.bipush 8, 2) := by decide +kernel
theorem dX9_number_19 : decode cX9_number 19 = .ok (.iload_n 3, 1) := by decide +kernel
theorem dX9_number_20 : decode cX9_number 20 = .ok (.imul, 1) := by decide +kernel
theorem dX9_number_21 : decode cX9_number 21 = .ok (.ishr, 1) := by decide +kernel
theorem dX9_number_22 : decode cX9_number 22 = .ok (.sipush 255, 3) := by decide +kernel
theorem dX9_number_25 : decode cX9_number 25 = .ok (.iand, 1) := by decide +kernel
theorem dX9_number_26 : decode cX9_number 26 = .ok (.iastore, 1) := by decide +kernel
theorem dX9_number_27 : decode cX9_number 27 = .ok (.aload_n 0, 1) := by decide +kernel
theorem dX9_number_28 : decode cX9_number 28 = .ok (.dup, 1) := by decide +kernel
theorem dX9_number_29 : decode cX9_number 29 = .ok (.getfield 100, 3) := by decide +kernel
theorem dX9_number_32 : decode cX9_number 32 = .ok (.iconst 1, 1) := by decide +kernel
theorem dX9_number_33 : decode cX9_number 33 = .ok (.iadd, 1) := by decide +kernel
theorem dX9_number_34 : decode cX9_number 34 = .ok (.putfield 100, 3) := by decide +kernel
theorem dX9_number_37 : decode cX9_number 37 = .ok (.iinc 3 (-1), 3) := by decide +kernel
theorem dX9_number_40 : decode cX9_number 40 = .ok (.goto (-36), 3) := by decide +kernel
theorem dX9_number_43 : decode cX9_number 43 = .ok (.return_, 1) := by decide +kernel
theorem dX9_makeB_0 : decode cX9_makeB 0 = .ok (.iconst 0, 1) := by decide +kernel
theorem dX9_makeB_1 : decode cX9_makeB 1 = .ok (.istore_n 2, 1) := by decide +kernel
theorem dX9_makeB_2 : decode cX9_makeB 2 = .ok (.iconst 0, 1) := by decide +kernel
theorem dX9_makeB_3 : decode cX9_makeB 3 = .ok (.istore_n 3, 1) := by decide +kernel
theorem dX9_makeB_4 : decode cX9_makeB 4 = .ok (.iload_n 3, 1) := by decide +kernel
theorem dX9_makeB_5 : decode cX9_makeB 5 = .ok (.aload_n 0, 1) := by decide +kernel
theorem dX9_makeB_6 : decode cX9_makeB 6 = .ok (.getfield 82, 3) := by decide +kernel
theorem dX9_makeB_9 : decode cX9_makeB 9 = .ok (.if_icmp .ge 82, 3) := by decide +kernel
theorem dX9_makeB_12 : decode cX9_makeB 12 = .ok (.aload_n 1, 1) := by decide +kernel
theorem dX9_makeB_13 : decode cX9_makeB 13 = .ok (.iload_n 3, 1) := by decide +kernel
theorem dX9_makeB_14 : decode cX9_makeB 14 = .ok (.iaload, 1) := by decide +kernel
theorem dX9_makeB_15 : decode cX9_makeB 15 = .ok (.aload_n 0, 1) := by decide +kernel
theorem dX9_makeB_16 : decode cX9_makeB 16 = .ok (.getfield 29, 3) := by decide +kernel
theorem dX9_makeB_19 : decode cX9_makeB 19 = .ok (.iload_n 3, 1) := by decide +kernel
theorem dX9_makeB_20 : decode cX9_makeB 20 = .ok (.iaload, 1) := by decide +kernel
theorem dX9_makeB_21 : decode cX9_makeB 21 = .ok (.ixor, 1) := by decide +kernel
theorem dX9_makeB_22 : decode cX9_makeB 22 = .ok (.istore 4, 2) := by decide +kernel
theorem dX9_makeB_24 : decode cX9_makeB 24 = .ok (.iload 4, 2) := by decide +kernel
theorem dX9_makeB_26 : decode cX9_makeB 26 = .ok (.ifCond .ne 9, 3) := by decide +kernel
theorem dX9_makeB_29 : decode cX9_makeB 29 = .ok (.iinc 2 1, 3) := by decide +kernel
theorem dX9_makeB_32 : decode cX9_makeB 32 = .ok (.goto 53, 3) := by decide +kernel
theorem dX9_makeB_35 : decode cX9_makeB 35 = .ok (.iload_n 2, 1) := by decide +kernel
theorem dX9_makeB_36 : decode cX9_makeB 36 = .ok (.ifCond .le 42, 3) := by decide +kernel
theorem dX9_makeB_39 : decode cX9_makeB 39 = .ok (.iload_n 2, 1) := by decide +kernel
theorem dX9_makeB_40 : decode cX9_makeB 40 = .ok (.sipush 256, 3) := by decide +kernel
theorem dX9_makeB_43 : decode cX9_makeB 43 = .ok (.if_icmp .le 9, 3) := by decide +kernel
theorem dX9_makeB_46 : decode cX9_makeB 46 = .ok (.sipush 256, 3) := by decide +kernel
theorem dX9_makeB_49 : decode cX9_makeB 49 = .ok (.goto 4, 3) := by decide +kernel
theorem dX9_makeB_52 : decode cX9_makeB 52 = .ok (.iload_n 2, 1) := by decide +kernel
theorem dX9_makeB_53 : decode cX9_makeB 53 = .ok (.istore 5, 2) := by decide +kernel
theorem dX9_makeB_55 : decode cX9_makeB 55 = .ok (.aload_n 0, 1) := by decide +kernel
theorem dX9_makeB_56 : decode cX9_makeB 56 = .ok (.iconst 0, 1) := by decide +kernel
theorem dX9_makeB_57 : decode cX9_makeB 57 = .ok (.iconst 1, 1) := by decide +kernel
theorem dX9_makeB_58 : decode cX9_makeB 58 = .ok (.invokevirtual 103, 3) := by decide +kernel
theorem dX9_makeB_61 : decode cX9_makeB 61 = .ok (.aload_n 0, 1) := by decide +kernel
theorem dX9_makeB_62 : decode cX9_makeB 62 = .ok (.iload 5, 2) := by decide +kernel
theorem dX9_makeB_64 : decode cX9_makeB 64 = .ok (.iconst 1, 1) := by decide +kernel
theorem dX9_makeB_65 : decode cX9_makeB 65 = .ok (.isub, 1) := by decide +kernel
theorem dX9_makeB_66 : decode cX9_makeB 66 = .ok (.iconst 1, 1) := by decide +kernel
theorem dX9_makeB_67 : decode cX9_makeB 67 = .ok (.invokevirtual 103, 3) := by decide +kernel
theorem dX9_makeB_70 : decode cX9_makeB 70 = .ok (.iload_n 2, 1) := by decide +kernel
theorem dX9_makeB_71 : decode cX9_makeB 71 = .ok (.iload 5, 2) := by decide +kernel
theorem dX9_makeB_73 : decode cX9_makeB 73 = .ok (.isub, 1) := by decide +kernel
theorem dX9_makeB_74 : decode cX9_makeB 74 = .ok (.istore_n 2, 1) := by decide +kernel
theorem dX9_makeB_75 : decode cX9_makeB 75 = .ok (.goto (-40), 3) := by decide +kernel
theorem dX9_makeB_78 : decode cX9_makeB 78 = .ok (.aload_n 0, 1) := by decide +kernel
theorem dX9_makeB_79 : decode cX9_makeB 79 = .ok (.iload 4, 2) := by decide +kernel
theorem dX9_makeB_81 : decode cX9_makeB 81 = .ok (.iconst 1, 1) := by decide +kernel
theorem dX9_makeB_82 : decode cX9_makeB 82 = .ok (.invokevirtual 103, 3) := by decide +kernel
theorem dX9_makeB_85 : decode cX9_makeB 85 = .ok (.iinc 3 1, 3) := by decide +kernel
theorem dX9_makeB_88 : decode cX9_makeB 88 = .ok (.goto (-84), 3) := by decide +kernel
theorem dX9_makeB_91 : decode cX9_makeB 91 = .ok (.return_, 1) := by decide +kernel
theorem dX9_makeD_0 : decode cX9_makeD 0 = .ok (.iconst 0, 1) := by decide +kernel
theorem dX9_makeD_1 : decode cX9_makeD 1 = .ok (.istore_n 2, 1) := by decide +kernel
theorem dX9_makeD_2 : decode cX9_makeD 2 = .ok (.iload_n 2, 1) := by decide +kernel
theorem dX9_makeD_3 : decode cX9_makeD 3 = .ok (.aload_n 1, 1) := by decide +kernel
theorem dX9_makeD_4 : decode cX9_makeD 4 = .ok (.sipush 1001, 3) := by decide +kernel
theorem dX9_makeD_7 : decode cX9_makeD 7 = .ok (.iaload, 1) := by decide +kernel
theorem dX9_makeD_8 : decode cX9_makeD 8 = .ok (.if_icmp .ge 146, 3) := by decide +kernel
theorem dX9_makeD_11 : decode cX9_makeD 11 = .ok (.sipush 1002, 3) := by decide +kernel
theorem dX9_makeD_14 : decode cX9_makeD 14 = .ok (.iload_n 2, 1) := by decide +kernel
theorem dX9_makeD_15 : decode cX9_makeD 15 = .ok (.bipush 60, 2) := by decide +kernel
theorem dX9_makeD_17 : decode cX9_makeD 17 = .ok (.imul, 1) := by decide +kernel
theorem dX9_makeD_18 : decode cX9_makeD 18 = .ok (.iadd, 1) := by decide +kernel
theorem dX9_makeD_19 : decode cX9_makeD 19 = .ok (.istore_n 3, 1) := by decide +kernel
theorem dX9_makeD_20 : decode cX9_makeD 20 = .ok (.aload_n 1, 1) := by decide +kernel
theorem dX9_makeD_21 : decode cX9_makeD 21 = .ok (.iload_n 3, 1) := by decide +kernel
theorem dX9_makeD_22 : decode cX9_makeD 22 = .ok (.iconst 1, 1) := by decide +kernel
theorem dX9_makeD_23 : decode cX9_makeD 23 = .ok (.iadd, 1) := by decide +kernel
theorem dX9_makeD_24 : decode cX9_makeD 24 = .ok (.iaload, 1) := by decide +kernel
theorem dX9_makeD_25 : decode cX9_makeD 25 = .ok (.bipush (-2), 2) := by decide +kernel
theorem dX9_makeD_27 : decode cX9_makeD 27 = .ok (.if_icmp .ne 7, 3) := by decide +kernel
theorem dX9_makeD_30 : decode cX9_makeD 30 = .ok (.iconst 1, 1) := by decide +kernel
theorem dX9_makeD_31 : decode cX9_makeD 31 = .ok (.goto 4, 3) := by decide +kernel
theorem dX9_makeD_34 : decode cX9_makeD 34 = .ok (.iconst 0, 1) := by decide +kernel
theorem dX9_makeD_35 : decode cX9_makeD 35 = .ok (.istore 4, 2) := by decide +kernel
theorem dX9_makeD_37 : decode cX9_makeD 37 = .ok (.aload_n 0, 1) := by decide +kernel
theorem dX9_makeD_38 : decode cX9_makeD 38 = .ok (.aload_n 1, 1) := by decide +kernel
theorem dX9_makeD_39 : decode cX9_makeD 39 = .ok (.iload_n 3, 1) := by decide +kernel
theorem dX9_makeD_40 : decode cX9_makeD 40 = .ok (.iaload, 1) := by decide +kernel
theorem dX9_makeD_41 : decode cX9_makeD 41 = .ok (.iconst 3, 1) := by decide +kernel
theorem dX9_makeD_42 : decode cX9_makeD 42 = .ok (.invokevirtual 103, 3) := by decide +kernel
theorem dX9_makeD_45 : decode cX9_makeD 45 = .ok (.aload_n 0, 1) := by decide +kernel
theorem dX9_makeD_46 : decode cX9_makeD 46 = .ok (.aload_n 1, 1) := by decide +kernel
theorem dX9_makeD_47 : decode cX9_makeD 47 = .ok (.iload_n 3, 1) := by decide +kernel
theorem dX9_makeD_48 : decode cX9_makeD 48 = .ok (.iconst 3, 1) := by decide +kernel
theorem dX9_makeD_49 : decode cX9_makeD 49 = .ok (.iadd, 1) := by decide +kernel
theorem dX9_makeD_50 : decode cX9_makeD 50 = .ok (.iaload, 1) := by decide +kernel
theorem dX9_makeD_51 : decode cX9_makeD 51 = .ok (.iload 4, 2) := by decide +kernel
theorem dX9_makeD_53 : decode cX9_makeD 53 = .ok (.ifCond .eq 8, 3) := by decide +kernel
theorem dX9_makeD_56 : decode cX9_makeD 56 = .ok (.bipush 16, 2) := by decide +kernel
theorem dX9_makeD_58 : decode cX9_makeD 58 = .ok (.goto 4, 3) := by decide +kernel
theorem dX9_makeD_61 : decode cX9_makeD 61 = .ok (.iconst 0, 1) := by decide +kernel
theorem dX9_makeD_62 : decode cX9_makeD 62 = .ok (.iadd, 1) := by decide +kernel
theorem dX9_makeD_63 : decode cX9_makeD 63 = .ok (.iconst 1, 1) := by decide +kernel
theorem dX9_makeD_64 : decode cX9_makeD 64 = .ok (.invokevirtual 103, 3) := by decide +kernel
theorem dX9_makeD_67 : decode cX9_makeD 67 = .ok (.aload_n 0, 1) := by decide +kernel
theorem dX9_makeD_68 : decode cX9_makeD 68 = .ok (.iload 4, 2) := by decide +kernel
theorem dX9_makeD_70 : decode cX9_makeD 70 = .ok (.ifCond .eq 7, 3) := by decide +kernel
theorem dX9_makeD_73 : decode cX9_makeD 73 = .ok (.iconst 0, 1) := by decide +kernel
theorem dX9_makeD_74 : decode cX9_makeD 74 = .ok (.goto 8, 3) := by decide +kernel
theorem dX9_makeD_77 : decode cX9_makeD 77 = .ok (.aload_n 1, 1) := by decide +kernel
theorem dX9_makeD_78 : decode cX9_makeD 78 = .ok (.iload_n 3, 1) := by decide +kernel
theorem dX9_makeD_79 : decode cX9_makeD 79 = .ok (.iconst 1, 1) := by decide +kernel
theorem dX9_makeD_80 : decode cX9_makeD 80 = .ok (.iadd, 1) := by decide +kernel
theorem dX9_makeD_81 : decode cX9_makeD 81 = .ok (.iaload, 1) := by decide +kernel
theorem dX9_makeD_82 : decode cX9_makeD 82 = .ok (.iconst 1, 1) := by decide +kernel
theorem dX9_makeD_83 : decode cX9_makeD 83 = .ok (.invokevirtual 103, 3) := by decide +kernel
theorem dX9_makeD_86 : decode cX9_makeD 86 = .ok (.aload_n 0, 1) := by decide +kernel
theorem dX9_makeD_87 : decode cX9_makeD 87 = .ok (.iconst 1, 1) := by decide +kernel
theorem dX9_makeD_88 : decode cX9_makeD 88 = .ok (.aload_n 1, 1) := by decide +kernel
theorem dX9_makeD_89 : decode cX9_makeD 89 = .ok (.iload_n 3, 1) := by decide +kernel
theorem dX9_makeD_90 : decode cX9_makeD 90 = .ok (.iconst 2, 1) := by decide +kernel
theorem dX9_makeD_91 : decode cX9_makeD 91 = .ok (.iadd, 1) := by decide +kernel
theorem dX9_makeD_92 : decode cX9_makeD 92 = .ok (.iaload, 1) := by decide +kernel
theorem dX9_makeD_93 : decode cX9_makeD 93 = .ok (.ishl, 1) := by decide +kernel
theorem dX9_makeD_94 : decode cX9_makeD 94 = .ok (.iconst 1, 1) := by decide +kernel
theorem dX9_makeD_95 : decode cX9_makeD 95 = .ok (.isub, 1) := by decide +kernel
theorem dX9_makeD_96 : decode cX9_makeD 96 = .ok (.iconst 1, 1) := by decide +kernel
theorem dX9_makeD_97 : decode cX9_makeD 97 = .ok (.invokevirtual 103, 3) := by decide +kernel
theorem dX9_makeD_100 : decode cX9_makeD 100 = .ok (.aload_n 0, 1) := by decide +kernel
theorem dX9_makeD_101 : decode cX9_makeD 101 = .ok (.aload_n 1, 1) := by decide +kernel
theorem dX9_makeD_102 : decode cX9_makeD 102 = .ok (.iload_n 3, 1) := by decide +kernel
theorem dX9_makeD_103 : decode cX9_makeD 103 = .ok (.iconst 4, 1) := by decide +kernel
theorem dX9_makeD_104 : decode cX9_makeD 104 = .ok (.iadd, 1) := by decide +kernel
theorem dX9_makeD_105 : decode cX9_makeD 105 = .ok (.iaload, 1) := by decide +kernel
theorem dX9_makeD_106 : decode cX9_makeD 106 = .ok (.iconst 2, 1) := by decide +kernel
theorem dX9_makeD_107 : decode cX9_makeD 107 = .ok (.invokevirtual 103, 3) := by decide +kernel
theorem dX9_makeD_110 : decode cX9_makeD 110 = .ok (.iconst 0, 1) := by decide +kernel
theorem dX9_makeD_111 : decode cX9_makeD 111 = .ok (.istore 5, 2) := by decide +kernel
theorem dX9_makeD_113 : decode cX9_makeD 113 = .ok (.iload 5, 2) := by decide +kernel
theorem dX9_makeD_115 : decode cX9_makeD 115 = .ok (.aload_n 1, 1) := by decide +kernel
theorem dX9_makeD_116 : decode cX9_makeD 116 = .ok (.iload_n 3, 1) := by decide +kernel
theorem dX9_makeD_117 : decode cX9_makeD 117 = .ok (.iconst 3, 1) := by decide +kernel
theorem dX9_makeD_118 : decode cX9_makeD 118 = .ok (.iadd, 1) := by decide +kernel
theorem dX9_makeD_119 : decode cX9_makeD 119 = .ok (.iaload, 1) := by decide +kernel
theorem dX9_makeD_120 : decode cX9_makeD 120 = .ok (.aload_n 1, 1) := by decide +kernel
theorem dX9_makeD_121 : decode cX9_makeD 121 = .ok (.iload_n 3, 1) := by decide +kernel
theorem dX9_makeD_122 : decode cX9_makeD 122 = .ok (.iconst 4, 1) := by decide +kernel
theorem dX9_makeD_123 : decode cX9_makeD 123 = .ok (.iadd, 1) := by decide +kernel
theorem dX9_makeD_124 : decode cX9_makeD 124 = .ok (.iaload, 1) := by decide +kernel
theorem dX9_makeD_125 : decode cX9_makeD 125 = .ok (.iadd, 1) := by decide +kernel
theorem dX9_makeD_126 : decode cX9_makeD 126 = .ok (.if_icmp .ge 22, 3) := by decide +kernel
theorem dX9_makeD_129 : decode cX9_makeD 129 = .ok (.aload_n 0, 1) := by decide +kernel
theorem dX9_makeD_130 : decode cX9_makeD 130 = .ok (.aload_n 1, 1) := by decide +kernel
theorem dX9_makeD_131 : decode cX9_makeD 131 = .ok (.iload_n 3, 1) := by decide +kernel
theorem dX9_makeD_132 : decode cX9_makeD 132 = .ok (.iconst 5, 1) := by decide +kernel
theorem dX9_makeD_133 : decode cX9_makeD 133 = .ok (.iadd, 1) := by decide +kernel
theorem dX9_makeD_134 : decode cX9_makeD 134 = .ok (.iload 5, 2) := by decide +kernel
theorem dX9_makeD_136 : decode cX9_makeD 136 = .ok (.iadd, 1) := by decide +kernel
theorem dX9_makeD_137 : decode cX9_makeD 137 = .ok (.iaload, 1) := by decide +kernel
theorem dX9_makeD_138 : decode cX9_makeD 138 = .ok (.iconst 2, 1) := by decide +kernel
theorem dX9_makeD_139 : decode cX9_makeD 139 = .ok (.invokevirtual 103, 3) := by decide +kernel
theorem dX9_makeD_142 : decode cX9_makeD 142 = .ok (.iinc 5 1, 3) := by decide +kernel
theorem dX9_makeD_145 : decode cX9_makeD 145 = .ok (.goto (-32), 3) := by decide +kernel
theorem dX9_makeD_148 : decode cX9_makeD 148 = .ok (.iinc 2 1, 3) := by decide +kernel
theorem dX9_makeD_151 : decode cX9_makeD 151 = .ok (.goto (-149), 3) := by decide +kernel
theorem dX9_makeD_154 : decode cX9_makeD 154 = .ok (.return_, 1) := by decide +kernel
theorem dX9_weightOf_0 : decode cX9_weightOf 0 = .ok (.aload_n 0, 1) := by decide +kernel
theorem dX9_weightOf_1 : decode cX9_weightOf 1 = .ok (.iconst 0, 1) := by decide +kernel
theorem dX9_weightOf_2 : decode cX9_weightOf 2 = .ok (.putfield 100, 3) := by decide +kernel
theorem dX9_weightOf_5 : decode cX9_weightOf 5 = .ok (.aload_n 0, 1) := by decide +kernel
theorem dX9_weightOf_6 : decode cX9_weightOf 6 = .ok (.aload_n 1, 1) := by decide +kernel
theorem dX9_weightOf_7 : decode cX9_weightOf 7 = .ok (.invokevirtual 106, 3) := by decide +kernel
theorem dX9_weightOf_10 : decode cX9_weightOf 10 = .ok (.aload_n 0, 1) := by decide +kernel
theorem dX9_weightOf_11 : decode cX9_weightOf 11 = .ok (.aload_n 1, 1) := by decide +kernel
theorem dX9_weightOf_12 : decode cX9_weightOf 12 = .ok (.invokevirtual 110, 3) := by decide +kernel
theorem dX9_weightOf_15 : decode cX9_weightOf 15 = .ok (.aload_n 0, 1) := by decide +kernel
theorem dX9_weightOf_16 : decode cX9_weightOf 16 = .ok (.getfield 100, 3) := by decide +kernel
theorem dX9_weightOf_19 : decode cX9_weightOf 19 = .ok (.ireturn, 1) := by decide +kernel
theorem dX9_print_0 : decode cX9_print 0 = .ok (.aload_n 0, 1) := by decide +kernel
theorem dX9_print_1 : decode cX9_print 1 = .ok (.getfield 82, 3) := by decide +kernel
theorem dX9_print_4 : decode cX9_print 4 = .ok (.ifCond .ne 5, 3) := by decide +kernel
theorem dX9_print_7 : decode cX9_print 7 = .ok (.lconst 0, 1) := by decide +kernel
theorem dX9_print_8 : decode cX9_print 8 = .ok (.lreturn, 1) := by decide +kernel
theorem dX9_print_9 : decode cX9_print 9 = .ok (.aload_n 0, 1) := by decide +kernel
theorem dX9_print_10 : decode cX9_print 10 = .ok (.iconst 0, 1) := by decide +kernel
theorem dX9_print_11 : decode cX9_print 11 = .ok (.putfield 100, 3) := by decide +kernel
theorem dX9_print_14 : decode cX9_print 14 = .ok (.iconst 0, 1) := by decide +kernel
theorem dX9_print_15 : decode cX9_print 15 = .ok (.istore_n 1, 1) := by decide +kernel
theorem dX9_print_16 : decode cX9_print 16 = .ok (.iload_n 1, 1) := by decide +kernel
theorem dX9_print_17 : decode cX9_print 17 = .ok (.aload_n 0, 1) := by decide +kernel
theorem dX9_print_18 : decode cX9_print 18 = .ok (.getfield 82, 3) := by decide +kernel
theorem dX9_print_21 : decode cX9_print 21 = .ok (.if_icmp .ge 20, 3) := by decide +kernel
theorem dX9_print_24 : decode cX9_print 24 = .ok (.aload_n 0, 1) := by decide +kernel
theorem dX9_print_25 : decode cX9_print 25 = .ok (.aload_n 0, 1) := by decide +kernel
theorem dX9_print_26 : decode cX9_print 26 = .ok (.getfield 32, 3) := by decide +kernel
theorem dX9_print_29 : decode cX9_print 29 = .ok (.iload_n 1, 1) := by decide +kernel
theorem dX9_print_30 : decode cX9_print 30 = .ok (.iaload, 1) := by decide +kernel
theorem dX9_print_31 : decode cX9_print 31 = .ok (.iconst 1, 1) := by decide +kernel
theorem dX9_print_32 : decode cX9_print 32 = .ok (.invokevirtual 103, 3) := by decide +kernel
theorem dX9_print_35 : decode cX9_print 35 = .ok (.iinc 1 1, 3) := by decide +kernel
theorem dX9_print_38 : decode cX9_print 38 = .ok (.goto (-22), 3) := by decide +kernel
theorem dX9_print_41 : decode cX9_print 41 = .ok (.aload_n 0, 1) := by decide +kernel
theorem dX9_print_42 : decode cX9_print 42 = .ok (.aload_n 0, 1) := by decide +kernel
theorem dX9_print_43 : decode cX9_print 43 = .ok (.getfield 32, 3) := by decide +kernel
theorem dX9_print_46 : decode cX9_print 46 = .ok (.sipush 1000, 3) := by decide +kernel
theorem dX9_print_49 : decode cX9_print 49 = .ok (.iaload, 1) := by decide +kernel
theorem dX9_print_50 : decode cX9_print 50 = .ok (.iconst 3, 1) := by decide +kernel
theorem dX9_print_51 : decode cX9_print 51 = .ok (.invokevirtual 103, 3) := by decide +kernel
theorem dX9_print_54 : decode cX9_print 54 = .ok (.aload_n 0, 1) := by decide +kernel
theorem dX9_print_55 : decode cX9_print 55 = .ok (.aload_n 0, 1) := by decide +kernel
theorem dX9_print_56 : decode cX9_print 56 = .ok (.getfield 32, 3) := by decide +kernel
theorem dX9_print_59 : decode cX9_print 59 = .ok (.invokevirtual 110, 3) := by decide +kernel
theorem dX9_print_62 : decode cX9_print 62 = .ok (.ldc2_w 113, 3) := by decide +kernel
theorem dX9_print_65 : decode cX9_print 65 = .ok (.lstore_n 1, 1) := by decide +kernel
theorem dX9_print_66 : decode cX9_print 66 = .ok (.iconst 0, 1) := by decide +kernel
theorem dX9_print_67 : decode cX9_print 67 = .ok (.istore_n 3, 1) := by decide +kernel
theorem dX9_print_68 : decode cX9_print 68 = .ok (.iload_n 3, 1) := by decide +kernel
theorem dX9_print_69 : decode cX9_print 69 = .ok (.aload_n 0, 1) := by decide +kernel
theorem dX9_print_70 : decode cX9_print 70 = .ok (.getfield 100, 3) := by decide +kernel
theorem dX9_print_73 : decode cX9_print 73 = .ok (.if_icmp .ge 23, 3) := by decide +kernel
theorem dX9_print_76 : decode cX9_print 76 = .ok (.lload_n 1, 1) := by decide +kernel
theorem dX9_print_77 : decode cX9_print 77 = .ok (.aload_n 0, 1) := by decide +kernel
theorem dX9_print_78 : decode cX9_print 78 = .ok (.getfield 65, 3) := by decide +kernel
theorem dX9_print_81 : decode cX9_print 81 = .ok (.iload_n 3, 1) := by decide +kernel
theorem dX9_print_82 : decode cX9_print 82 = .ok (.iaload, 1) := by decide +kernel
theorem dX9_print_83 : decode cX9_print 83 = .ok (.i2l, 1) := by decide +kernel
theorem dX9_print_84 : decode cX9_print 84 = .ok (.lxor, 1) := by decide +kernel
theorem dX9_print_85 : decode cX9_print 85 = .ok (.ldc2_w 115, 3) := by decide +kernel
theorem dX9_print_88 : decode cX9_print 88 = .ok (.lmul, 1) := by decide +kernel
theorem dX9_print_89 : decode cX9_print 89 = .ok (.lstore_n 1, 1) := by decide +kernel
theorem dX9_print_90 : decode cX9_print 90 = .ok (.iinc 3 1, 3) := by decide +kernel
theorem dX9_print_93 : decode cX9_print 93 = .ok (.goto (-25), 3) := by decide +kernel
theorem dX9_print_96 : decode cX9_print 96 = .ok (.lload_n 1, 1) := by decide +kernel
theorem dX9_print_97 : decode cX9_print 97 = .ok (.lreturn, 1) := by decide +kernel
theorem dX9_open_0 : decode cX9_open 0 = .ok (.aload_n 0, 1) := by decide +kernel
theorem dX9_open_1 : decode cX9_open 1 = .ok (.iload_n 1, 1) := by decide +kernel
theorem dX9_open_2 : decode cX9_open 2 = .ok (.iconst 4, 1) := by decide +kernel
theorem dX9_open_3 : decode cX9_open 3 = .ok (.invokevirtual 103, 3) := by decide +kernel
theorem dX9_open_6 : decode cX9_open 6 = .ok (.aload_n 0, 1) := by decide +kernel
theorem dX9_open_7 : decode cX9_open 7 = .ok (.iconst 0, 1) := by decide +kernel
theorem dX9_open_8 : decode cX9_open 8 = .ok (.iconst 4, 1) := by decide +kernel
theorem dX9_open_9 : decode cX9_open 9 = .ok (.invokevirtual 103, 3) := by decide +kernel
theorem dX9_open_12 : decode cX9_open 12 = .ok (.aload_n 0, 1) := by decide +kernel
theorem dX9_open_13 : decode cX9_open 13 = .ok (.getfield 56, 3) := by decide +kernel
theorem dX9_open_16 : decode cX9_open 16 = .ok (.aload_n 0, 1) := by decide +kernel
theorem dX9_open_17 : decode cX9_open 17 = .ok (.getfield 117, 3) := by decide +kernel
theorem dX9_open_20 : decode cX9_open 20 = .ok (.iload_n 1, 1) := by decide +kernel
theorem dX9_open_21 : decode cX9_open 21 = .ok (.iastore, 1) := by decide +kernel
theorem dX9_open_22 : decode cX9_open 22 = .ok (.aload_n 0, 1) := by decide +kernel
theorem dX9_open_23 : decode cX9_open 23 = .ok (.getfield 59, 3) := by decide +kernel
theorem dX9_open_26 : decode cX9_open 26 = .ok (.aload_n 0, 1) := by decide +kernel
theorem dX9_open_27 : decode cX9_open 27 = .ok (.getfield 117, 3) := by decide +kernel
theorem dX9_open_30 : decode cX9_open 30 = .ok (.aload_n 0, 1) := by decide +kernel
theorem dX9_open_31 : decode cX9_open 31 = .ok (.getfield 100, 3) := by decide +kernel
theorem dX9_open_34 : decode cX9_open 34 = .ok (.iastore, 1) := by decide +kernel
theorem dX9_open_35 : decode cX9_open 35 = .ok (.return_, 1) := by decide +kernel
theorem dX9_close_0 : decode cX9_close 0 = .ok (.aload_n 0, 1) := by decide +kernel
theorem dX9_close_1 : decode cX9_close 1 = .ok (.getfield 100, 3) := by decide +kernel
theorem dX9_close_4 : decode cX9_close 4 = .ok (.aload_n 0, 1) := by decide +kernel
theorem dX9_close_5 : decode cX9_close 5 = .ok (.getfield 59, 3) := by decide +kernel
theorem dX9_close_8 : decode cX9_close 8 = .ok (.aload_n 0, 1) := by decide +kernel
theorem dX9_close_9 : decode cX9_close 9 = .ok (.getfield 117, 3) := by decide +kernel
theorem dX9_close_12 : decode cX9_close 12 = .ok (.iaload, 1) := by decide +kernel
theorem dX9_close_13 : decode cX9_close 13 = .ok (.isub, 1) := by decide +kernel
theorem dX9_close_14 : decode cX9_close 14 = .ok (.istore_n 1, 1) := by decide +kernel
theorem dX9_close_15 : decode cX9_close 15 = .ok (.aload_n 0, 1) := by decide +kernel
theorem dX9_close_16 : decode cX9_close 16 = .ok (.getfield 62, 3) := by decide +kernel
theorem dX9_close_19 : decode cX9_close 19 = .ok (.aload_n 0, 1) := by decide +kernel
theorem dX9_close_20 : decode cX9_close 20 = .ok (.getfield 117, 3) := by decide +kernel
theorem dX9_close_23 : decode cX9_close 23 = .ok (.iload_n 1, 1) := by decide +kernel
theorem dX9_close_24 : decode cX9_close 24 = .ok (.iastore, 1) := by decide +kernel
theorem dX9_close_25 : decode cX9_close 25 = .ok (.aload_n 0, 1) := by decide +kernel
theorem dX9_close_26 : decode cX9_close 26 = .ok (.aload_n 0, 1) := by decide +kernel
theorem dX9_close_27 : decode cX9_close 27 = .ok (.getfield 59, 3) := by decide +kernel
theorem dX9_close_30 : decode cX9_close 30 = .ok (.aload_n 0, 1) := by decide +kernel
theorem dX9_close_31 : decode cX9_close 31 = .ok (.getfield 117, 3) := by decide +kernel
theorem dX9_close_34 : decode cX9_close 34 = .ok (.iaload, 1) := by decide +kernel
theorem dX9_close_35 : decode cX9_close 35 = .ok (.iconst 4, 1) := by decide +kernel
theorem dX9_close_36 : decode cX9_close 36 = .ok (.isub, 1) := by decide +kernel
theorem dX9_close_37 : decode cX9_close 37 = .ok (.iload_n 1, 1) := by decide +kernel
theorem dX9_close_38 : decode cX9_close 38 = .ok (.invokevirtual 120, 3) := by decide +kernel
theorem dX9_close_41 : decode cX9_close 41 = .ok (.iload_n 1, 1) := by decide +kernel
theorem dX9_close_42 : decode cX9_close 42 = .ok (.iconst 2, 1) := by decide +kernel
theorem dX9_close_43 : decode cX9_close 43 = .ok (.irem, 1) := by decide +kernel
theorem dX9_close_44 : decode cX9_close 44 = .ok (.iconst 1, 1) := by decide +kernel
theorem dX9_close_45 : decode cX9_close 45 = .ok (.if_icmp .ne 9, 3) := by decide +kernel
theorem dX9_close_48 : decode cX9_close 48 = .ok (.aload_n 0, 1) := by decide +kernel
theorem dX9_close_49 : decode cX9_close 49 = .ok (.iconst 0, 1) := by decide +kernel
theorem dX9_close_50 : decode cX9_close 50 = .ok (.iconst 1, 1) := by decide +kernel
theorem dX9_close_51 : decode cX9_close 51 = .ok (.invokevirtual 103, 3) := by decide +kernel
theorem dX9_close_54 : decode cX9_close 54 = .ok (.aload_n 0, 1) := by decide +kernel
theorem dX9_close_55 : decode cX9_close 55 = .ok (.dup, 1) := by decide +kernel
theorem dX9_close_56 : decode cX9_close 56 = .ok (.getfield 117, 3) := by decide +kernel
theorem dX9_close_59 : decode cX9_close 59 = .ok (.iconst 1, 1) := by decide +kernel
theorem dX9_close_60 : decode cX9_close 60 = .ok (.iadd, 1) := by decide +kernel
theorem dX9_close_61 : decode cX9_close 61 = .ok (.putfield 117, 3) := by decide +kernel
theorem dX9_close_64 : decode cX9_close 64 = .ok (.return_, 1) := by decide +kernel
theorem dX9_patch_0 : decode cX9_patch 0 = .ok (.iconst 0, 1) := by decide +kernel
theorem dX9_patch_1 : decode cX9_patch 1 = .ok (.istore_n 3, 1) := by decide +kernel
theorem dX9_patch_2 : decode cX9_patch 2 = .ok (.iload_n 3, 1) := by decide +kernel
theorem dX9_patch_3 : decode cX9_patch 3 = .ok (.iconst 4, 1) := by decide +kernel
theorem dX9_patch_4 : decode cX9_patch 4 = .ok (.if_icmp .ge 30, 3) := by decide +kernel
theorem dX9_patch_7 : decode cX9_patch 7 = .ok (.aload_n 0, 1) := by decide +kernel
theorem dX9_patch_8 : decode cX9_patch 8 = .ok (.getfield 65, 3) := by decide +kernel
theorem dX9_patch_11 : decode cX9_patch 11 = .ok (.iload_n 1, 1) := by decide +kernel
theorem dX9_patch_12 : decode cX9_patch 12 = .ok (.iload_n 3, 1) := by decide +kernel
theorem dX9_patch_13 : decode cX9_patch 13 = .ok (.iadd, 1) := by decide +kernel
theorem dX9_patch_14 : decode cX9_patch 14 = .ok (.iload_n 2, 1) := by decide +kernel
theorem dX9_patch_15 : decode cX9_patch 15 = .ok (.bipush 24, 2) := by decide +kernel
theorem dX9_patch_17 : decode cX9_patch 17 = .ok (.bipush 8, 2) := by decide +kernel
theorem dX9_patch_19 : decode cX9_patch 19 = .ok (.iload_n 3, 1) := by decide +kernel
theorem dX9_patch_20 : decode cX9_patch 20 = .ok (.imul, 1) := by decide +kernel
theorem dX9_patch_21 : decode cX9_patch 21 = .ok (.isub, 1) := by decide +kernel
theorem dX9_patch_22 : decode cX9_patch 22 = .ok (.ishr, 1) := by decide +kernel
theorem dX9_patch_23 : decode cX9_patch 23 = .ok (.sipush 255, 3) := by decide +kernel
theorem dX9_patch_26 : decode cX9_patch 26 = .ok (.iand, 1) := by decide +kernel
theorem dX9_patch_27 : decode cX9_patch 27 = .ok (.iastore, 1) := by decide +kernel
theorem dX9_patch_28 : decode cX9_patch 28 = .ok (.iinc 3 1, 3) := by decide +kernel
theorem dX9_patch_31 : decode cX9_patch 31 = .ok (.goto (-29), 3) := by decide +kernel
theorem dX9_patch_34 : decode cX9_patch 34 = .ok (.return_, 1) := by decide +kernel
theorem dX9_save_0 : decode cX9_save 0 = .ok (.aload_n 0, 1) := by decide +kernel
theorem dX9_save_1 : decode cX9_save 1 = .ok (.getfield 82, 3) := by decide +kernel
theorem dX9_save_4 : decode cX9_save 4 = .ok (.ifCond .ne 6, 3) := by decide +kernel
theorem dX9_save_7 : decode cX9_save 7 = .ok (.bipush (-4), 2) := by decide +kernel
theorem dX9_save_9 : decode cX9_save 9 = .ok (.ireturn, 1) := by decide +kernel
theorem dX9_save_10 : decode cX9_save 10 = .ok (.aload_n 0, 1) := by decide +kernel
theorem dX9_save_11 : decode cX9_save 11 = .ok (.iconst 0, 1) := by decide +kernel
theorem dX9_save_12 : decode cX9_save 12 = .ok (.putfield 100, 3) := by decide +kernel
theorem dX9_save_15 : decode cX9_save 15 = .ok (.aload_n 0, 1) := by decide +kernel
theorem dX9_save_16 : decode cX9_save 16 = .ok (.iconst 0, 1) := by decide +kernel
theorem dX9_save_17 : decode cX9_save 17 = .ok (.putfield 117, 3) := by decide +kernel
theorem dX9_save_20 : decode cX9_save 20 = .ok (.aload_n 0, 1) := by decide +kernel
theorem dX9_save_21 : decode cX9_save 21 = .ok (.ldc 123, 2) := by decide +kernel
theorem dX9_save_23 : decode cX9_save 23 = .ok (.iconst 4, 1) := by decide +kernel
theorem dX9_save_24 : decode cX9_save 24 = .ok (.invokevirtual 103, 3) := by decide +kernel
theorem dX9_save_27 : decode cX9_save 27 = .ok (.aload_n 0, 1) := by decide +kernel
theorem dX9_save_28 : decode cX9_save 28 = .ok (.iconst 0, 1) := by decide +kernel
theorem dX9_save_29 : decode cX9_save 29 = .ok (.iconst 4, 1) := by decide +kernel
theorem dX9_save_30 : decode cX9_save 30 = .ok (.invokevirtual 103, 3) := by decide +kernel
theorem dX9_save_33 : decode cX9_save 33 = .ok (.aload_n 0, 1) := by decide +kernel
theorem dX9_save_34 : decode cX9_save 34 = .ok (.ldc 124, 2) := by decide +kernel
theorem dX9_save_36 : decode cX9_save 36 = .ok (.iconst 4, 1) := by decide +kernel
theorem dX9_save_37 : decode cX9_save 37 = .ok (.invokevirtual 103, 3) := by decide +kernel
theorem dX9_save_40 : decode cX9_save 40 = .ok (.aload_n 0, 1) := by decide +kernel
theorem dX9_save_41 : decode cX9_save 41 = .ok (.ldc 125, 2) := by decide +kernel
theorem dX9_save_43 : decode cX9_save 43 = .ok (.invokevirtual 126, 3) := by decide +kernel
theorem dX9_save_46 : decode cX9_save 46 = .ok (.iconst 0, 1) := by decide +kernel
theorem dX9_save_47 : decode cX9_save 47 = .ok (.istore_n 2, 1) := by decide +kernel
theorem dX9_save_48 : decode cX9_save 48 = .ok (.iload_n 2, 1) := by decide +kernel
theorem dX9_save_49 : decode cX9_save 49 = .ok (.bipush 10, 2) := by decide +kernel
theorem dX9_save_51 : decode cX9_save 51 = .ok (.if_icmp .ge 20, 3) := by decide +kernel
theorem dX9_save_54 : decode cX9_save 54 = .ok (.aload_n 0, 1) := by decide +kernel
theorem dX9_save_55 : decode cX9_save 55 = .ok (.aload_n 0, 1) := by decide +kernel
theorem dX9_save_56 : decode cX9_save 56 = .ok (.getfield 26, 3) := by decide +kernel
theorem dX9_save_59 : decode cX9_save 59 = .ok (.iload_n 2, 1) := by decide +kernel
theorem dX9_save_60 : decode cX9_save 60 = .ok (.iaload, 1) := by decide +kernel
theorem dX9_save_61 : decode cX9_save 61 = .ok (.iconst 1, 1) := by decide +kernel
theorem dX9_save_62 : decode cX9_save 62 = .ok (.invokevirtual 103, 3) := by decide +kernel
theorem dX9_save_65 : decode cX9_save 65 = .ok (.iinc 2 1, 3) := by decide +kernel
theorem dX9_save_68 : decode cX9_save 68 = .ok (.goto (-20), 3) := by decide +kernel
theorem dX9_save_71 : decode cX9_save 71 = .ok (.aload_n 0, 1) := by decide +kernel
theorem dX9_save_72 : decode cX9_save 72 = .ok (.aload_n 0, 1) := by decide +kernel
theorem dX9_save_73 : decode cX9_save 73 = .ok (.getfield 32, 3) := by decide +kernel
theorem dX9_save_76 : decode cX9_save 76 = .ok (.sipush 1000, 3) := by decide +kernel
theorem dX9_save_79 : decode cX9_save 79 = .ok (.iaload, 1) := by decide +kernel
theorem dX9_save_80 : decode cX9_save 80 = .ok (.iconst 3, 1) := by decide +kernel
theorem dX9_save_81 : decode cX9_save 81 = .ok (.invokevirtual 103, 3) := by decide +kernel
theorem dX9_save_84 : decode cX9_save 84 = .ok (.aload_n 0, 1) := by decide +kernel
theorem dX9_save_85 : decode cX9_save 85 = .ok (.invokevirtual 130, 3) := by decide +kernel
theorem dX9_save_88 : decode cX9_save 88 = .ok (.aload_n 0, 1) := by decide +kernel
theorem dX9_save_89 : decode cX9_save 89 = .ok (.iload_n 1, 1) := by decide +kernel
theorem dX9_save_90 : decode cX9_save 90 = .ok (.ifCond .eq 8, 3) := by decide +kernel
theorem dX9_save_93 : decode cX9_save 93 = .ok (.ldc 133, 2) := by decide +kernel
theorem dX9_save_95 : decode cX9_save 95 = .ok (.goto 5, 3) := by decide +kernel
theorem dX9_save_98 : decode cX9_save 98 = .ok (.ldc 134, 2) := by decide +kernel
theorem dX9_save_100 : decode cX9_save 100 = .ok (.invokevirtual 126, 3) := by decide +kernel
theorem dX9_save_103 : decode cX9_save 103 = .ok (.iload_n 1, 1) := by decide +kernel
theorem dX9_save_104 : decode cX9_save 104 = .ok (.ifCond .eq 33, 3) := by decide +kernel
theorem dX9_save_107 : decode cX9_save 107 = .ok (.iconst 0, 1) := by decide +kernel
theorem dX9_save_108 : decode cX9_save 108 = .ok (.istore_n 2, 1) := by decide +kernel
theorem dX9_save_109 : decode cX9_save 109 = .ok (.iload_n 2, 1) := by decide +kernel
theorem dX9_save_110 : decode cX9_save 110 = .ok (.aload_n 0, 1) := by decide +kernel
theorem dX9_save_111 : decode cX9_save 111 = .ok (.getfield 82, 3) := by decide +kernel
theorem dX9_save_114 : decode cX9_save 114 = .ok (.if_icmp .ge 20, 3) := by decide +kernel
theorem dX9_save_117 : decode cX9_save 117 = .ok (.aload_n 0, 1) := by decide +kernel
theorem dX9_save_118 : decode cX9_save 118 = .ok (.aload_n 0, 1) := by decide +kernel
theorem dX9_save_119 : decode cX9_save 119 = .ok (.getfield 32, 3) := by decide +kernel
theorem dX9_save_122 : decode cX9_save 122 = .ok (.iload_n 2, 1) := by decide +kernel
theorem dX9_save_123 : decode cX9_save 123 = .ok (.iaload, 1) := by decide +kernel
theorem dX9_save_124 : decode cX9_save 124 = .ok (.iconst 1, 1) := by decide +kernel
theorem dX9_save_125 : decode cX9_save 125 = .ok (.invokevirtual 103, 3) := by decide +kernel
theorem dX9_save_128 : decode cX9_save 128 = .ok (.iinc 2 1, 3) := by decide +kernel
theorem dX9_save_131 : decode cX9_save 131 = .ok (.goto (-22), 3) := by decide +kernel
theorem dX9_save_134 : decode cX9_save 134 = .ok (.goto 11, 3) := by decide +kernel
theorem dX9_save_137 : decode cX9_save 137 = .ok (.aload_n 0, 1) := by decide +kernel
theorem dX9_save_138 : decode cX9_save 138 = .ok (.aload_n 0, 1) := by decide +kernel
theorem dX9_save_139 : decode cX9_save 139 = .ok (.getfield 32, 3) := by decide +kernel
theorem dX9_save_142 : decode cX9_save 142 = .ok (.invokevirtual 106, 3) := by decide +kernel
theorem dX9_save_145 : decode cX9_save 145 = .ok (.aload_n 0, 1) := by decide +kernel
theorem dX9_save_146 : decode cX9_save 146 = .ok (.invokevirtual 130, 3) := by decide +kernel
theorem dX9_save_149 : decode cX9_save 149 = .ok (.aload_n 0, 1) := by decide +kernel
theorem dX9_save_150 : decode cX9_save 150 = .ok (.ldc 135, 2) := by decide +kernel
theorem dX9_save_152 : decode cX9_save 152 = .ok (.invokevirtual 126, 3) := by decide +kernel
theorem dX9_save_155 : decode cX9_save 155 = .ok (.aload_n 0, 1) := by decide +kernel
theorem dX9_save_156 : decode cX9_save 156 = .ok (.aload_n 0, 1) := by decide +kernel
theorem dX9_save_157 : decode cX9_save 157 = .ok (.getfield 32, 3) := by decide +kernel
theorem dX9_save_160 : decode cX9_save 160 = .ok (.invokevirtual 110, 3) := by decide +kernel
theorem dX9_save_163 : decode cX9_save 163 = .ok (.aload_n 0, 1) := by decide +kernel
theorem dX9_save_164 : decode cX9_save 164 = .ok (.invokevirtual 130, 3) := by decide +kernel
theorem dX9_save_167 : decode cX9_save 167 = .ok (.iconst 0, 1) := by decide +kernel
theorem dX9_save_168 : decode cX9_save 168 = .ok (.istore_n 2, 1) := by decide +kernel
theorem dX9_save_169 : decode cX9_save 169 = .ok (.iload_n 2, 1) := by decide +kernel
theorem dX9_save_170 : decode cX9_save 170 = .ok (.aload_n 0, 1) := by decide +kernel
theorem dX9_save_171 : decode cX9_save 171 = .ok (.getfield 88, 3) := by decide +kernel
theorem dX9_save_174 : decode cX9_save 174 = .ok (.if_icmp .ge 70, 3) := by decide +kernel
theorem dX9_save_177 : decode cX9_save 177 = .ok (.aload_n 0, 1) := by decide +kernel
theorem dX9_save_178 : decode cX9_save 178 = .ok (.aload_n 0, 1) := by decide +kernel
theorem dX9_save_179 : decode cX9_save 179 = .ok (.getfield 47, 3) := by decide +kernel
theorem dX9_save_182 : decode cX9_save 182 = .ok (.sipush 202, 3) := by decide +kernel
theorem dX9_save_185 : decode cX9_save 185 = .ok (.iload_n 2, 1) := by decide +kernel
theorem dX9_save_186 : decode cX9_save 186 = .ok (.imul, 1) := by decide +kernel
theorem dX9_save_187 : decode cX9_save 187 = .ok (.iaload, 1) := by decide +kernel
theorem dX9_save_188 : decode cX9_save 188 = .ok (.invokevirtual 126, 3) := by decide +kernel
theorem dX9_save_191 : decode cX9_save 191 = .ok (.iconst 0, 1) := by decide +kernel
theorem dX9_save_192 : decode cX9_save 192 = .ok (.istore_n 3, 1) := by decide +kernel
theorem dX9_save_193 : decode cX9_save 193 = .ok (.iload_n 3, 1) := by decide +kernel
theorem dX9_save_194 : decode cX9_save 194 = .ok (.aload_n 0, 1) := by decide +kernel
theorem dX9_save_195 : decode cX9_save 195 = .ok (.getfield 47, 3) := by decide +kernel
theorem dX9_save_198 : decode cX9_save 198 = .ok (.sipush 202, 3) := by decide +kernel
theorem dX9_save_201 : decode cX9_save 201 = .ok (.iload_n 2, 1) := by decide +kernel
theorem dX9_save_202 : decode cX9_save 202 = .ok (.imul, 1) := by decide +kernel
theorem dX9_save_203 : decode cX9_save 203 = .ok (.iconst 1, 1) := by decide +kernel
theorem dX9_save_204 : decode cX9_save 204 = .ok (.iadd, 1) := by decide +kernel
theorem dX9_save_205 : decode cX9_save 205 = .ok (.iaload, 1) := by decide +kernel
theorem dX9_save_206 : decode cX9_save 206 = .ok (.if_icmp .ge 28, 3) := by decide +kernel
theorem dX9_save_209 : decode cX9_save 209 = .ok (.aload_n 0, 1) := by decide +kernel
theorem dX9_save_210 : decode cX9_save 210 = .ok (.aload_n 0, 1) := by decide +kernel
theorem dX9_save_211 : decode cX9_save 211 = .ok (.getfield 47, 3) := by decide +kernel
theorem dX9_save_214 : decode cX9_save 214 = .ok (.sipush 202, 3) := by decide +kernel
theorem dX9_save_217 : decode cX9_save 217 = .ok (.iload_n 2, 1) := by decide +kernel
theorem dX9_save_218 : decode cX9_save 218 = .ok (.imul, 1) := by decide +kernel
theorem dX9_save_219 : decode cX9_save 219 = .ok (.iconst 2, 1) := by decide +kernel
theorem dX9_save_220 : decode cX9_save 220 = .ok (.iadd, 1) := by decide +kernel
theorem dX9_save_221 : decode cX9_save 221 = .ok (.iload_n 3, 1) := by decide +kernel
theorem dX9_save_222 : decode cX9_save 222 = .ok (.iadd, 1) := by decide +kernel
theorem dX9_save_223 : decode cX9_save 223 = .ok (.iaload, 1) := by decide +kernel
theorem dX9_save_224 : decode cX9_save 224 = .ok (.iconst 1, 1) := by decide +kernel
theorem dX9_save_225 : decode cX9_save 225 = .ok (.invokevirtual 103, 3) := by decide +kernel
theorem dX9_save_228 : decode cX9_save 228 = .ok (.iinc 3 1, 3) := by decide +kernel
theorem dX9_save_231 : decode cX9_save 231 = .ok (.goto (-38), 3) := by decide +kernel
theorem dX9_save_234 : decode cX9_save 234 = .ok (.aload_n 0, 1) := by decide +kernel
theorem dX9_save_235 : decode cX9_save 235 = .ok (.invokevirtual 130, 3) := by decide +kernel
theorem dX9_save_238 : decode cX9_save 238 = .ok (.iinc 2 1, 3) := by decide +kernel
theorem dX9_save_241 : decode cX9_save 241 = .ok (.goto (-72), 3) := by decide +kernel
theorem dX9_save_244 : decode cX9_save 244 = .ok (.aload_n 0, 1) := by decide +kernel
theorem dX9_save_245 : decode cX9_save 245 = .ok (.iconst 4, 1) := by decide +kernel
theorem dX9_save_246 : decode cX9_save 246 = .ok (.aload_n 0, 1) := by decide +kernel
theorem dX9_save_247 : decode cX9_save 247 = .ok (.getfield 100, 3) := by decide +kernel
theorem dX9_save_250 : decode cX9_save 250 = .ok (.bipush 8, 2) := by decide +kernel
theorem dX9_save_252 : decode cX9_save 252 = .ok (.isub, 1) := by decide +kernel
theorem dX9_save_253 : decode cX9_save 253 = .ok (.invokevirtual 120, 3) := by decide +kernel
theorem dX9_save_256 : decode cX9_save 256 = .ok (.iconst 0, 1) := by decide +kernel
theorem dX9_save_257 : decode cX9_save 257 = .ok (.istore_n 2, 1) := by decide +kernel
theorem dX9_save_258 : decode cX9_save 258 = .ok (.iload_n 2, 1) := by decide +kernel
theorem dX9_save_259 : decode cX9_save 259 = .ok (.aload_n 0, 1) := by decide +kernel
theorem dX9_save_260 : decode cX9_save 260 = .ok (.getfield 100, 3) := by decide +kernel
theorem dX9_save_263 : decode cX9_save 263 = .ok (.if_icmp .ge 21, 3) := by decide +kernel
theorem dX9_save_266 : decode cX9_save 266 = .ok (.aload_n 0, 1) := by decide +kernel
theorem dX9_save_267 : decode cX9_save 267 = .ok (.getfield 13, 3) := by decide +kernel
theorem dX9_save_270 : decode cX9_save 270 = .ok (.iload_n 2, 1) := by decide +kernel
theorem dX9_save_271 : decode cX9_save 271 = .ok (.aload_n 0, 1) := by decide +kernel
theorem dX9_save_272 : decode cX9_save 272 = .ok (.getfield 65, 3) := by decide +kernel
theorem dX9_save_275 : decode cX9_save 275 = .ok (.iload_n 2, 1) := by decide +kernel
theorem dX9_save_276 : decode cX9_save 276 = .ok (.iaload, 1) := by decide +kernel
theorem dX9_save_277 : decode cX9_save 277 = .ok (.iastore, 1) := by decide +kernel
theorem dX9_save_278 : decode cX9_save 278 = .ok (.iinc 2 1, 3) := by decide +kernel
theorem dX9_save_281 : decode cX9_save 281 = .ok (.goto (-23), 3) := by decide +kernel
theorem dX9_save_284 : decode cX9_save 284 = .ok (.aload_n 0, 1) := by decide +kernel
theorem dX9_save_285 : decode cX9_save 285 = .ok (.aload_n 0, 1) := by decide +kernel
theorem dX9_save_286 : decode cX9_save 286 = .ok (.getfield 100, 3) := by decide +kernel
theorem dX9_save_289 : decode cX9_save 289 = .ok (.putfield 79, 3) := by decide +kernel
theorem dX9_save_292 : decode cX9_save 292 = .ok (.aload_n 0, 1) := by decide +kernel
theorem dX9_save_293 : decode cX9_save 293 = .ok (.getfield 79, 3) := by decide +kernel
theorem dX9_save_296 : decode cX9_save 296 = .ok (.ireturn, 1) := by decide +kernel
theorem dX9_wrong_0 : decode cX9_wrong 0 = .ok (.aload_n 0, 1) := by decide +kernel
theorem dX9_wrong_1 : decode cX9_wrong 1 = .ok (.iload_n 1, 1) := by decide +kernel
theorem dX9_wrong_2 : decode cX9_wrong 2 = .ok (.putfield 136, 3) := by decide +kernel
theorem dX9_wrong_5 : decode cX9_wrong 5 = .ok (.aload_n 0, 1) := by decide +kernel
theorem dX9_wrong_6 : decode cX9_wrong 6 = .ok (.iload_n 2, 1) := by decide +kernel
theorem dX9_wrong_7 : decode cX9_wrong 7 = .ok (.putfield 53, 3) := by decide +kernel
theorem dX9_wrong_10 : decode cX9_wrong 10 = .ok (.iconst 0, 1) := by decide +kernel
theorem dX9_wrong_11 : decode cX9_wrong 11 = .ok (.ireturn, 1) := by decide +kernel
theorem dX9_numberAt_0 : decode cX9_numberAt 0 = .ok (.aload_n 0, 1) := by decide +kernel
theorem dX9_numberAt_1 : decode cX9_numberAt 1 = .ok (.getfield 9, 3) := by decide +kernel
theorem dX9_numberAt_4 : decode cX9_numberAt 4 = .ok (.iload_n 1, 1) := by decide +kernel
theorem dX9_numberAt_5 : decode cX9_numberAt 5 = .ok (.iaload, 1) := by decide +kernel
theorem dX9_numberAt_6 : decode cX9_numberAt 6 = .ok (.i2l, 1) := by decide +kernel
theorem dX9_numberAt_7 : decode cX9_numberAt 7 = .ok (.bipush 24, 2) := by decide +kernel
theorem dX9_numberAt_9 : decode cX9_numberAt 9 = .ok (.lshl, 1) := by decide +kernel
theorem dX9_numberAt_10 : decode cX9_numberAt 10 = .ok (.aload_n 0, 1) := by decide +kernel
theorem dX9_numberAt_11 : decode cX9_numberAt 11 = .ok (.getfield 9, 3) := by decide +kernel
theorem dX9_numberAt_14 : decode cX9_numberAt 14 = .ok (.iload_n 1, 1) := by decide +kernel
theorem dX9_numberAt_15 : decode cX9_numberAt 15 = .ok (.iconst 1, 1) := by decide +kernel
theorem dX9_numberAt_16 : decode cX9_numberAt 16 = .ok (.iadd, 1) := by decide +kernel
theorem dX9_numberAt_17 : decode cX9_numberAt 17 = .ok (.iaload, 1) := by decide +kernel
theorem dX9_numberAt_18 : decode cX9_numberAt 18 = .ok (.bipush 16, 2) := by decide +kernel
theorem dX9_numberAt_20 : decode cX9_numberAt 20 = .ok (.ishl, 1) := by decide +kernel
theorem dX9_numberAt_21 : decode cX9_numberAt 21 = .ok (.i2l, 1) := by decide +kernel
theorem dX9_numberAt_22 : decode cX9_numberAt 22 = .ok (.lor, 1) := by decide +kernel
theorem dX9_numberAt_23 : decode cX9_numberAt 23 = .ok (.aload_n 0, 1) := by decide +kernel
theorem dX9_numberAt_24 : decode cX9_numberAt 24 = .ok (.getfield 9, 3) := by decide +kernel
theorem dX9_numberAt_27 : decode cX9_numberAt 27 = .ok (.iload_n 1, 1) := by decide +kernel
theorem dX9_numberAt_28 : decode cX9_numberAt 28 = .ok (.iconst 2, 1) := by decide +kernel
theorem dX9_numberAt_29 : decode cX9_numberAt 29 = .ok (.iadd, 1) := by decide +kernel
theorem dX9_numberAt_30 : decode cX9_numberAt 30 = .ok (.iaload, 1) := by decide +kernel
theorem dX9_numberAt_31 : decode cX9_numberAt 31 = .ok (.bipush 8, 2) := by decide +kernel
theorem dX9_numberAt_33 : decode cX9_numberAt 33 = .ok (.ishl, 1) := by decide +kernel
theorem dX9_numberAt_34 : decode cX9_numberAt 34 = .ok (.i2l, 1) := by decide +kernel
theorem dX9_numberAt_35 : decode cX9_numberAt 35 = .ok (.lor, 1) := by decide +kernel
theorem dX9_numberAt_36 : decode cX9_numberAt 36 = .ok (.aload_n 0, 1) := by decide +kernel
theorem dX9_numberAt_37 : decode cX9_numberAt 37 = .ok (.getfield 9, 3) := by decide +kernel
theorem dX9_numberAt_40 : decode cX9_numberAt 40 = .ok (.iload_n 1, 1) := by decide +kernel
theorem dX9_numberAt_41 : decode cX9_numberAt 41 = .ok (.iconst 3, 1) := by decide +kernel
theorem dX9_numberAt_42 : decode cX9_numberAt 42 = .ok (.iadd, 1) := by decide +kernel
theorem dX9_numberAt_43 : decode cX9_numberAt 43 = .ok (.iaload, 1) := by decide +kernel
theorem dX9_numberAt_44 : decode cX9_numberAt 44 = .ok (.i2l, 1) := by decide +kernel
theorem dX9_numberAt_45 : decode cX9_numberAt 45 = .ok (.lor, 1) := by decide +kernel
theorem dX9_numberAt_46 : decode cX9_numberAt 46 = .ok (.lreturn, 1) := by decide +kernel
theorem dX9_restore_0 : decode cX9_restore 0 = .ok (.aload_n 0, 1) := by decide +kernel
theorem dX9_restore_1 : decode cX9_restore 1 = .ok (.aload_n 0, 1) := by decide +kernel
theorem dX9_restore_2 : decode cX9_restore 2 = .ok (.getfield 68, 3) := by decide +kernel
theorem dX9_restore_5 : decode cX9_restore 5 = .ok (.putfield 139, 3) := by decide +kernel
theorem dX9_restore_8 : decode cX9_restore 8 = .ok (.aload_n 0, 1) := by decide +kernel
theorem dX9_restore_9 : decode cX9_restore 9 = .ok (.iconst 0, 1) := by decide +kernel
theorem dX9_restore_10 : decode cX9_restore 10 = .ok (.putfield 68, 3) := by decide +kernel
theorem dX9_restore_13 : decode cX9_restore 13 = .ok (.aload_n 0, 1) := by decide +kernel
theorem dX9_restore_14 : decode cX9_restore 14 = .ok (.getfield 82, 3) := by decide +kernel
theorem dX9_restore_17 : decode cX9_restore 17 = .ok (.ifCond .ne 6, 3) := by decide +kernel
theorem dX9_restore_20 : decode cX9_restore 20 = .ok (.bipush (-4), 2) := by decide +kernel
theorem dX9_restore_22 : decode cX9_restore 22 = .ok (.ireturn, 1) := by decide +kernel
theorem dX9_restore_23 : decode cX9_restore 23 = .ok (.aload_n 0, 1) := by decide +kernel
theorem dX9_restore_24 : decode cX9_restore 24 = .ok (.iconst 0, 1) := by decide +kernel
theorem dX9_restore_25 : decode cX9_restore 25 = .ok (.putfield 136, 3) := by decide +kernel
theorem dX9_restore_28 : decode cX9_restore 28 = .ok (.aload_n 0, 1) := by decide +kernel
theorem dX9_restore_29 : decode cX9_restore 29 = .ok (.bipush (-2), 2) := by decide +kernel
theorem dX9_restore_31 : decode cX9_restore 31 = .ok (.putfield 53, 3) := by decide +kernel
theorem dX9_restore_34 : decode cX9_restore 34 = .ok (.aload_n 0, 1) := by decide +kernel
theorem dX9_restore_35 : decode cX9_restore 35 = .ok (.invokevirtual 142, 3) := by decide +kernel
theorem dX9_restore_38 : decode cX9_restore 38 = .ok (.ifCond .ne 11, 3) := by decide +kernel
theorem dX9_restore_41 : decode cX9_restore 41 = .ok (.bipush (-10), 2) := by decide +kernel
theorem dX9_restore_43 : decode cX9_restore 43 = .ok (.aload_n 0, 1) := by decide +kernel
theorem dX9_restore_44 : decode cX9_restore 44 = .ok (.getfield 136, 3) := by decide +kernel
theorem dX9_restore_47 : decode cX9_restore 47 = .ok (.isub, 1) := by decide +kernel
theorem dX9_restore_48 : decode cX9_restore 48 = .ok (.ireturn, 1) := by decide +kernel
theorem dX9_restore_49 : decode cX9_restore 49 = .ok (.aload_n 0, 1) := by decide +kernel
theorem dX9_restore_50 : decode cX9_restore 50 = .ok (.invokevirtual 146, 3) := by decide +kernel
theorem dX9_restore_53 : decode cX9_restore 53 = .ok (.istore_n 1, 1) := by decide +kernel
theorem dX9_restore_54 : decode cX9_restore 54 = .ok (.iconst 0, 1) := by decide +kernel
theorem dX9_restore_55 : decode cX9_restore 55 = .ok (.istore_n 2, 1) := by decide +kernel
theorem dX9_restore_56 : decode cX9_restore 56 = .ok (.iload_n 2, 1) := by decide +kernel
theorem dX9_restore_57 : decode cX9_restore 57 = .ok (.sipush 2202, 3) := by decide +kernel
theorem dX9_restore_60 : decode cX9_restore 60 = .ok (.if_icmp .ge 21, 3) := by decide +kernel
theorem dX9_restore_63 : decode cX9_restore 63 = .ok (.aload_n 0, 1) := by decide +kernel
theorem dX9_restore_64 : decode cX9_restore 64 = .ok (.getfield 32, 3) := by decide +kernel
theorem dX9_restore_67 : decode cX9_restore 67 = .ok (.iload_n 2, 1) := by decide +kernel
theorem dX9_restore_68 : decode cX9_restore 68 = .ok (.aload_n 0, 1) := by decide +kernel
theorem dX9_restore_69 : decode cX9_restore 69 = .ok (.getfield 35, 3) := by decide +kernel
theorem dX9_restore_72 : decode cX9_restore 72 = .ok (.iload_n 2, 1) := by decide +kernel
theorem dX9_restore_73 : decode cX9_restore 73 = .ok (.iaload, 1) := by decide +kernel
theorem dX9_restore_74 : decode cX9_restore 74 = .ok (.iastore, 1) := by decide +kernel
theorem dX9_restore_75 : decode cX9_restore 75 = .ok (.iinc 2 1, 3) := by decide +kernel
theorem dX9_restore_78 : decode cX9_restore 78 = .ok (.goto (-22), 3) := by decide +kernel
theorem dX9_restore_81 : decode cX9_restore 81 = .ok (.aload_n 0, 1) := by decide +kernel
theorem dX9_restore_82 : decode cX9_restore 82 = .ok (.iload_n 1, 1) := by decide +kernel
theorem dX9_restore_83 : decode cX9_restore 83 = .ok (.invokevirtual 149, 3) := by decide +kernel
theorem dX9_restore_86 : decode cX9_restore 86 = .ok (.aload_n 0, 1) := by decide +kernel
theorem dX9_restore_87 : decode cX9_restore 87 = .ok (.aload_n 0, 1) := by decide +kernel
theorem dX9_restore_88 : decode cX9_restore 88 = .ok (.getfield 152, 3) := by decide +kernel
theorem dX9_restore_91 : decode cX9_restore 91 = .ok (.putfield 88, 3) := by decide +kernel
theorem dX9_restore_94 : decode cX9_restore 94 = .ok (.iconst 0, 1) := by decide +kernel
theorem dX9_restore_95 : decode cX9_restore 95 = .ok (.istore_n 2, 1) := by decide +kernel
theorem dX9_restore_96 : decode cX9_restore 96 = .ok (.iload_n 2, 1) := by decide +kernel
theorem dX9_restore_97 : decode cX9_restore 97 = .ok (.sipush 202, 3) := by decide +kernel
theorem dX9_restore_100 : decode cX9_restore 100 = .ok (.aload_n 0, 1) := by decide +kernel
theorem dX9_restore_101 : decode cX9_restore 101 = .ok (.getfield 88, 3) := by decide +kernel
theorem dX9_restore_104 : decode cX9_restore 104 = .ok (.imul, 1) := by decide +kernel
theorem dX9_restore_105 : decode cX9_restore 105 = .ok (.if_icmp .ge 21, 3) := by decide +kernel
theorem dX9_restore_108 : decode cX9_restore 108 = .ok (.aload_n 0, 1) := by decide +kernel
theorem dX9_restore_109 : decode cX9_restore 109 = .ok (.getfield 47, 3) := by decide +kernel
theorem dX9_restore_112 : decode cX9_restore 112 = .ok (.iload_n 2, 1) := by decide +kernel
theorem dX9_restore_113 : decode cX9_restore 113 = .ok (.aload_n 0, 1) := by decide +kernel
theorem dX9_restore_114 : decode cX9_restore 114 = .ok (.getfield 50, 3) := by decide +kernel
theorem dX9_restore_117 : decode cX9_restore 117 = .ok (.iload_n 2, 1) := by decide +kernel
theorem dX9_restore_118 : decode cX9_restore 118 = .ok (.iaload, 1) := by decide +kernel
theorem dX9_restore_119 : decode cX9_restore 119 = .ok (.iastore, 1) := by decide +kernel
theorem dX9_restore_120 : decode cX9_restore 120 = .ok (.iinc 2 1, 3) := by decide +kernel
theorem dX9_restore_123 : decode cX9_restore 123 = .ok (.goto (-27), 3) := by decide +kernel
theorem dX9_restore_126 : decode cX9_restore 126 = .ok (.iconst 1, 1) := by decide +kernel
theorem dX9_restore_127 : decode cX9_restore 127 = .ok (.ireturn, 1) := by decide +kernel
theorem dX9_readFile_0 : decode cX9_readFile 0 = .ok (.aload_n 0, 1) := by decide +kernel
theorem dX9_readFile_1 : decode cX9_readFile 1 = .ok (.getfield 139, 3) := by decide +kernel
theorem dX9_readFile_4 : decode cX9_readFile 4 = .ok (.bipush 12, 2) := by decide +kernel
theorem dX9_readFile_6 : decode cX9_readFile 6 = .ok (.if_icmp .ge 13, 3) := by decide +kernel
theorem dX9_readFile_9 : decode cX9_readFile 9 = .ok (.aload_n 0, 1) := by decide +kernel
theorem dX9_readFile_10 : decode cX9_readFile 10 = .ok (.iconst 1, 1) := by decide +kernel
theorem dX9_readFile_11 : decode cX9_readFile 11 = .ok (.aload_n 0, 1) := by decide +kernel
theorem dX9_readFile_12 : decode cX9_readFile 12 = .ok (.getfield 139, 3) := by decide +kernel
theorem dX9_readFile_15 : decode cX9_readFile 15 = .ok (.invokevirtual 155, 3) := by decide +kernel
theorem dX9_readFile_18 : decode cX9_readFile 18 = .ok (.ireturn, 1) := by decide +kernel
theorem dX9_readFile_19 : decode cX9_readFile 19 = .ok (.aload_n 0, 1) := by decide +kernel
theorem dX9_readFile_20 : decode cX9_readFile 20 = .ok (.iconst 0, 1) := by decide +kernel
theorem dX9_readFile_21 : decode cX9_readFile 21 = .ok (.invokevirtual 159, 3) := by decide +kernel
theorem dX9_readFile_24 : decode cX9_readFile 24 = .ok (.ldc2_w 163, 3) := by decide +kernel
theorem dX9_readFile_27 : decode cX9_readFile 27 = .ok (.lcmp, 1) := by decide +kernel
theorem dX9_readFile_28 : decode cX9_readFile 28 = .ok (.ifCond .eq 10, 3) := by decide +kernel
theorem dX9_readFile_31 : decode cX9_readFile 31 = .ok (.aload_n 0, 1) := by decide +kernel
theorem dX9_readFile_32 : decode cX9_readFile 32 = .ok (.iconst 2, 1) := by decide +kernel
theorem dX9_readFile_33 : decode cX9_readFile 33 = .ok (.iconst 0, 1) := by decide +kernel
theorem dX9_readFile_34 : decode cX9_readFile 34 = .ok (.invokevirtual 155, 3) := by decide +kernel
theorem dX9_readFile_37 : decode cX9_readFile 37 = .ok (.ireturn, 1) := by decide +kernel
theorem dX9_readFile_38 : decode cX9_readFile 38 = .ok (.aload_n 0, 1) := by decide +kernel
theorem dX9_readFile_39 : decode cX9_readFile 39 = .ok (.iconst 4, 1) := by decide +kernel
theorem dX9_readFile_40 : decode cX9_readFile 40 = .ok (.invokevirtual 159, 3) := by decide +kernel
theorem dX9_readFile_43 : decode cX9_readFile 43 = .ok (.aload_n 0, 1) := by decide +kernel
theorem dX9_readFile_44 : decode cX9_readFile 44 = .ok (.getfield 139, 3) := by decide +kernel
theorem dX9_readFile_47 : decode cX9_readFile 47 = .ok (.bipush 8, 2) := by decide +kernel
theorem dX9_readFile_49 : decode cX9_readFile 49 = .ok (.isub, 1) := by decide +kernel
theorem dX9_readFile_50 : decode cX9_readFile 50 = .ok (.i2l, 1) := by decide +kernel
theorem dX9_readFile_51 : decode cX9_readFile 51 = .ok (.lcmp, 1) := by decide +kernel
theorem dX9_readFile_52 : decode cX9_readFile 52 = .ok (.ifCond .eq 10, 3) := by decide +kernel
theorem dX9_readFile_55 : decode cX9_readFile 55 = .ok (.aload_n 0, 1) := by decide +kernel
theorem dX9_readFile_56 : decode cX9_readFile 56 = .ok (.iconst 3, 1) := by decide +kernel
theorem dX9_readFile_57 : decode cX9_readFile 57 = .ok (.iconst 4, 1) := by decide +kernel
theorem dX9_readFile_58 : decode cX9_readFile 58 = .ok (.invokevirtual 155, 3) := by decide +kernel
theorem dX9_readFile_61 : decode cX9_readFile 61 = .ok (.ireturn, 1) := by decide +kernel
theorem dX9_readFile_62 : decode cX9_readFile 62 = .ok (.aload_n 0, 1) := by decide +kernel
theorem dX9_readFile_63 : decode cX9_readFile 63 = .ok (.bipush 8, 2) := by decide +kernel
theorem dX9_readFile_65 : decode cX9_readFile 65 = .ok (.invokevirtual 159, 3) := by decide +kernel
theorem dX9_readFile_68 : decode cX9_readFile 68 = .ok (.ldc2_w 165, 3) := by decide +kernel
theorem dX9_readFile_71 : decode cX9_readFile 71 = .ok (.lcmp, 1) := by decide +kernel
theorem dX9_readFile_72 : decode cX9_readFile 72 = .ok (.ifCond .eq 11, 3) := by decide +kernel
theorem dX9_readFile_75 : decode cX9_readFile 75 = .ok (.aload_n 0, 1) := by decide +kernel
theorem dX9_readFile_76 : decode cX9_readFile 76 = .ok (.iconst 2, 1) := by decide +kernel
theorem dX9_readFile_77 : decode cX9_readFile 77 = .ok (.bipush 8, 2) := by decide +kernel
theorem dX9_readFile_79 : decode cX9_readFile 79 = .ok (.invokevirtual 155, 3) := by decide +kernel
theorem dX9_readFile_82 : decode cX9_readFile 82 = .ok (.ireturn, 1) := by decide +kernel
theorem dX9_readFile_83 : decode cX9_readFile 83 = .ok (.iconst 0, 1) := by decide +kernel
theorem dX9_readFile_84 : decode cX9_readFile 84 = .ok (.istore_n 1, 1) := by decide +kernel
theorem dX9_readFile_85 : decode cX9_readFile 85 = .ok (.iconst 0, 1) := by decide +kernel
theorem dX9_readFile_86 : decode cX9_readFile 86 = .ok (.istore_n 2, 1) := by decide +kernel
theorem dX9_readFile_87 : decode cX9_readFile 87 = .ok (.iconst 0, 1) := by decide +kernel
theorem dX9_readFile_88 : decode cX9_readFile 88 = .ok (.istore_n 3, 1) := by decide +kernel
theorem dX9_readFile_89 : decode cX9_readFile 89 = .ok (.aload_n 0, 1) := by decide +kernel
theorem dX9_readFile_90 : decode cX9_readFile 90 = .ok (.iconst 0, 1) := by decide +kernel
theorem dX9_readFile_91 : decode cX9_readFile 91 = .ok (.putfield 152, 3) := by decide +kernel
theorem dX9_readFile_94 : decode cX9_readFile 94 = .ok (.bipush 12, 2) := by decide +kernel
theorem dX9_readFile_96 : decode cX9_readFile 96 = .ok (.istore 4, 2) := by decide +kernel
theorem dX9_readFile_98 : decode cX9_readFile 98 = .ok (.iload 4, 2) := by decide +kernel
theorem dX9_readFile_100 : decode cX9_readFile 100 = .ok (.aload_n 0, 1) := by decide +kernel
theorem dX9_readFile_101 : decode cX9_readFile 101 = .ok (.getfield 139, 3) := by decide +kernel
theorem dX9_readFile_104 : decode cX9_readFile 104 = .ok (.if_icmp .ge 378, 3) := by decide +kernel
theorem dX9_readFile_107 : decode cX9_readFile 107 = .ok (.aload_n 0, 1) := by decide +kernel
theorem dX9_readFile_108 : decode cX9_readFile 108 = .ok (.getfield 139, 3) := by decide +kernel
theorem dX9_readFile_111 : decode cX9_readFile 111 = .ok (.iload 4, 2) := by decide +kernel
theorem dX9_readFile_113 : decode cX9_readFile 113 = .ok (.isub, 1) := by decide +kernel
theorem dX9_readFile_114 : decode cX9_readFile 114 = .ok (.bipush 8, 2) := by decide +kernel
theorem dX9_readFile_116 : decode cX9_readFile 116 = .ok (.if_icmp .ge 13, 3) := by decide +kernel
theorem dX9_readFile_119 : decode cX9_readFile 119 = .ok (.aload_n 0, 1) := by decide +kernel
theorem dX9_readFile_120 : decode cX9_readFile 120 = .ok (.iconst 1, 1) := by decide +kernel
theorem dX9_readFile_121 : decode cX9_readFile 121 = .ok (.aload_n 0, 1) := by decide +kernel
theorem dX9_readFile_122 : decode cX9_readFile 122 = .ok (.getfield 139, 3) := by decide +kernel
theorem dX9_readFile_125 : decode cX9_readFile 125 = .ok (.invokevirtual 155, 3) := by decide +kernel
theorem dX9_readFile_128 : decode cX9_readFile 128 = .ok (.ireturn, 1) := by decide +kernel
theorem dX9_readFile_129 : decode cX9_readFile 129 = .ok (.aload_n 0, 1) := by decide +kernel
theorem dX9_readFile_130 : decode cX9_readFile 130 = .ok (.iload 4, 2) := by decide +kernel
theorem dX9_readFile_132 : decode cX9_readFile 132 = .ok (.invokevirtual 159, 3) := by decide +kernel
theorem dX9_readFile_135 : decode cX9_readFile 135 = .ok (.l2i, 1) := by decide +kernel
theorem dX9_readFile_136 : decode cX9_readFile 136 = .ok (.istore 5, 2) := by decide +kernel
theorem dX9_readFile_138 : decode cX9_readFile 138 = .ok (.aload_n 0, 1) := by decide +kernel
theorem dX9_readFile_139 : decode cX9_readFile 139 = .ok (.iload 4, 2) := by decide +kernel
theorem dX9_readFile_141 : decode cX9_readFile 141 = .ok (.iconst 4, 1) := by decide +kernel
theorem dX9_readFile_142 : decode cX9_readFile 142 = .ok (.iadd, 1) := by decide +kernel
theorem dX9_readFile_143 : decode cX9_readFile 143 = .ok (.invokevirtual 159, 3) := by decide +kernel
theorem dX9_readFile_146 : decode cX9_readFile 146 = .ok (.lstore 6, 2) := by decide +kernel
theorem dX9_readFile_148 : decode cX9_readFile 148 = .ok (.lload 6, 2) := by decide +kernel
theorem dX9_readFile_150 : decode cX9_readFile 150 = .ok (.lload 6, 2) := by decide +kernel
theorem dX9_readFile_152 : decode cX9_readFile 152 = .ok (.ldc2_w 167, 3) := by decide +kernel
theorem dX9_readFile_155 : decode cX9_readFile 155 = .ok (.lrem, 1) := by decide +kernel
theorem dX9_readFile_156 : decode cX9_readFile 156 = .ok (.ladd, 1) := by decide +kernel
theorem dX9_readFile_157 : decode cX9_readFile 157 = .ok (.aload_n 0, 1) := by decide +kernel
theorem dX9_readFile_158 : decode cX9_readFile 158 = .ok (.getfield 139, 3) := by decide +kernel
theorem dX9_readFile_161 : decode cX9_readFile 161 = .ok (.iload 4, 2) := by decide +kernel
theorem dX9_readFile_163 : decode cX9_readFile 163 = .ok (.isub, 1) := by decide +kernel
theorem dX9_readFile_164 : decode cX9_readFile 164 = .ok (.bipush 8, 2) := by decide +kernel
theorem dX9_readFile_166 : decode cX9_readFile 166 = .ok (.isub, 1) := by decide +kernel
theorem dX9_readFile_167 : decode cX9_readFile 167 = .ok (.i2l, 1) := by decide +kernel
theorem dX9_readFile_168 : decode cX9_readFile 168 = .ok (.lcmp, 1) := by decide +kernel
theorem dX9_readFile_169 : decode cX9_readFile 169 = .ok (.ifCond .le 13, 3) := by decide +kernel
theorem dX9_readFile_172 : decode cX9_readFile 172 = .ok (.aload_n 0, 1) := by decide +kernel
theorem dX9_readFile_173 : decode cX9_readFile 173 = .ok (.iconst 1, 1) := by decide +kernel
theorem dX9_readFile_174 : decode cX9_readFile 174 = .ok (.aload_n 0, 1) := by decide +kernel
theorem dX9_readFile_175 : decode cX9_readFile 175 = .ok (.getfield 139, 3) := by decide +kernel
theorem dX9_readFile_178 : decode cX9_readFile 178 = .ok (.invokevirtual 155, 3) := by decide +kernel
theorem dX9_readFile_181 : decode cX9_readFile 181 = .ok (.ireturn, 1) := by decide +kernel
theorem dX9_readFile_182 : decode cX9_readFile 182 = .ok (.iload 4, 2) := by decide +kernel
theorem dX9_readFile_184 : decode cX9_readFile 184 = .ok (.bipush 8, 2) := by decide +kernel
theorem dX9_readFile_186 : decode cX9_readFile 186 = .ok (.iadd, 1) := by decide +kernel
theorem dX9_readFile_187 : decode cX9_readFile 187 = .ok (.istore 8, 2) := by decide +kernel
theorem dX9_readFile_189 : decode cX9_readFile 189 = .ok (.iload 8, 2) := by decide +kernel
theorem dX9_readFile_191 : decode cX9_readFile 191 = .ok (.lload 6, 2) := by decide +kernel
theorem dX9_readFile_193 : decode cX9_readFile 193 = .ok (.l2i, 1) := by decide +kernel
theorem dX9_readFile_194 : decode cX9_readFile 194 = .ok (.iadd, 1) := by decide +kernel
theorem dX9_readFile_195 : decode cX9_readFile 195 = .ok (.istore 9, 2) := by decide +kernel
theorem dX9_readFile_197 : decode cX9_readFile 197 = .ok (.lload 6, 2) := by decide +kernel
theorem dX9_readFile_199 : decode cX9_readFile 199 = .ok (.ldc2_w 167, 3) := by decide +kernel
theorem dX9_readFile_202 : decode cX9_readFile 202 = .ok (.lrem, 1) := by decide +kernel
theorem dX9_readFile_203 : decode cX9_readFile 203 = .ok (.lconst 1, 1) := by decide +kernel
theorem dX9_readFile_204 : decode cX9_readFile 204 = .ok (.lcmp, 1) := by decide +kernel
theorem dX9_readFile_205 : decode cX9_readFile 205 = .ok (.ifCond .ne 21, 3) := by decide +kernel
theorem dX9_readFile_208 : decode cX9_readFile 208 = .ok (.aload_n 0, 1) := by decide +kernel
theorem dX9_readFile_209 : decode cX9_readFile 209 = .ok (.getfield 9, 3) := by decide +kernel
theorem dX9_readFile_212 : decode cX9_readFile 212 = .ok (.iload 9, 2) := by decide +kernel
theorem dX9_readFile_214 : decode cX9_readFile 214 = .ok (.iaload, 1) := by decide +kernel
theorem dX9_readFile_215 : decode cX9_readFile 215 = .ok (.ifCond .eq 11, 3) := by decide +kernel
theorem dX9_readFile_218 : decode cX9_readFile 218 = .ok (.aload_n 0, 1) := by decide +kernel
theorem dX9_readFile_219 : decode cX9_readFile 219 = .ok (.iconst 4, 1) := by decide +kernel
theorem dX9_readFile_220 : decode cX9_readFile 220 = .ok (.iload 9, 2) := by decide +kernel
theorem dX9_readFile_222 : decode cX9_readFile 222 = .ok (.invokevirtual 155, 3) := by decide +kernel
theorem dX9_readFile_225 : decode cX9_readFile 225 = .ok (.ireturn, 1) := by decide +kernel
theorem dX9_readFile_226 : decode cX9_readFile 226 = .ok (.iload 5, 2) := by decide +kernel
theorem dX9_readFile_228 : decode cX9_readFile 228 = .ok (.ldc 125, 2) := by decide +kernel
theorem dX9_readFile_230 : decode cX9_readFile 230 = .ok (.if_icmp .ne 28, 3) := by decide +kernel
theorem dX9_readFile_233 : decode cX9_readFile 233 = .ok (.iload_n 1, 1) := by decide +kernel
theorem dX9_readFile_234 : decode cX9_readFile 234 = .ok (.ifCond .ne 19, 3) := by decide +kernel
theorem dX9_readFile_237 : decode cX9_readFile 237 = .ok (.aload_n 0, 1) := by decide +kernel
theorem dX9_readFile_238 : decode cX9_readFile 238 = .ok (.iload 4, 2) := by decide +kernel
theorem dX9_readFile_240 : decode cX9_readFile 240 = .ok (.iload 8, 2) := by decide +kernel
theorem dX9_readFile_242 : decode cX9_readFile 242 = .ok (.lload 6, 2) := by decide +kernel
theorem dX9_readFile_244 : decode cX9_readFile 244 = .ok (.l2i, 1) := by decide +kernel
theorem dX9_readFile_245 : decode cX9_readFile 245 = .ok (.invokevirtual 169, 3) := by decide +kernel
theorem dX9_readFile_248 : decode cX9_readFile 248 = .ok (.ifCond .ne 5, 3) := by decide +kernel
theorem dX9_readFile_251 : decode cX9_readFile 251 = .ok (.iconst 0, 1) := by decide +kernel
theorem dX9_readFile_252 : decode cX9_readFile 252 = .ok (.ireturn, 1) := by decide +kernel
theorem dX9_readFile_253 : decode cX9_readFile 253 = .ok (.iconst 1, 1) := by decide +kernel
theorem dX9_readFile_254 : decode cX9_readFile 254 = .ok (.istore_n 1, 1) := by decide +kernel
theorem dX9_readFile_255 : decode cX9_readFile 255 = .ok (.goto 212, 3) := by decide +kernel
theorem dX9_readFile_258 : decode cX9_readFile 258 = .ok (.iload 5, 2) := by decide +kernel
theorem dX9_readFile_260 : decode cX9_readFile 260 = .ok (.ldc 134, 2) := by decide +kernel
theorem dX9_readFile_262 : decode cX9_readFile 262 = .ok (.if_icmp .eq 10, 3) := by decide +kernel
theorem dX9_readFile_265 : decode cX9_readFile 265 = .ok (.iload 5, 2) := by decide +kernel
theorem dX9_readFile_267 : decode cX9_readFile 267 = .ok (.ldc 133, 2) := by decide +kernel
theorem dX9_readFile_269 : decode cX9_readFile 269 = .ok (.if_icmp .ne 61, 3) := by decide +kernel
theorem dX9_readFile_272 : decode cX9_readFile 272 = .ok (.iload_n 2, 1) := by decide +kernel
theorem dX9_readFile_273 : decode cX9_readFile 273 = .ok (.ifCond .ne 52, 3) := by decide +kernel
theorem dX9_readFile_276 : decode cX9_readFile 276 = .ok (.iload_n 1, 1) := by decide +kernel
theorem dX9_readFile_277 : decode cX9_readFile 277 = .ok (.ifCond .ne 11, 3) := by decide +kernel
theorem dX9_readFile_280 : decode cX9_readFile 280 = .ok (.aload_n 0, 1) := by decide +kernel
theorem dX9_readFile_281 : decode cX9_readFile 281 = .ok (.iconst 5, 1) := by decide +kernel
theorem dX9_readFile_282 : decode cX9_readFile 282 = .ok (.iload 4, 2) := by decide +kernel
theorem dX9_readFile_284 : decode cX9_readFile 284 = .ok (.invokevirtual 155, 3) := by decide +kernel
theorem dX9_readFile_287 : decode cX9_readFile 287 = .ok (.ireturn, 1) := by decide +kernel
theorem dX9_readFile_288 : decode cX9_readFile 288 = .ok (.iload 5, 2) := by decide +kernel
theorem dX9_readFile_290 : decode cX9_readFile 290 = .ok (.ldc 134, 2) := by decide +kernel
theorem dX9_readFile_292 : decode cX9_readFile 292 = .ok (.if_icmp .ne 17, 3) := by decide +kernel
theorem dX9_readFile_295 : decode cX9_readFile 295 = .ok (.aload_n 0, 1) := by decide +kernel
theorem dX9_readFile_296 : decode cX9_readFile 296 = .ok (.iload 8, 2) := by decide +kernel
theorem dX9_readFile_298 : decode cX9_readFile 298 = .ok (.iload 9, 2) := by decide +kernel
theorem dX9_readFile_300 : decode cX9_readFile 300 = .ok (.invokevirtual 172, 3) := by decide +kernel
theorem dX9_readFile_303 : decode cX9_readFile 303 = .ok (.ifCond .eq 20, 3) := by decide +kernel
theorem dX9_readFile_306 : decode cX9_readFile 306 = .ok (.goto 19, 3) := by decide +kernel
theorem dX9_readFile_309 : decode cX9_readFile 309 = .ok (.aload_n 0, 1) := by decide +kernel
theorem dX9_readFile_310 : decode cX9_readFile 310 = .ok (.iload 4, 2) := by decide +kernel
theorem dX9_readFile_312 : decode cX9_readFile 312 = .ok (.iload 8, 2) := by decide +kernel
theorem dX9_readFile_314 : decode cX9_readFile 314 = .ok (.lload 6, 2) := by decide +kernel
theorem dX9_readFile_316 : decode cX9_readFile 316 = .ok (.l2i, 1) := by decide +kernel
theorem dX9_readFile_317 : decode cX9_readFile 317 = .ok (.invokevirtual 175, 3) := by decide +kernel
theorem dX9_readFile_320 : decode cX9_readFile 320 = .ok (.ifCond .ne 5, 3) := by decide +kernel
theorem dX9_readFile_323 : decode cX9_readFile 323 = .ok (.iconst 0, 1) := by decide +kernel
theorem dX9_readFile_324 : decode cX9_readFile 324 = .ok (.ireturn, 1) := by decide +kernel
theorem dX9_readFile_325 : decode cX9_readFile 325 = .ok (.iconst 1, 1) := by decide +kernel
theorem dX9_readFile_326 : decode cX9_readFile 326 = .ok (.istore_n 2, 1) := by decide +kernel
theorem dX9_readFile_327 : decode cX9_readFile 327 = .ok (.goto 140, 3) := by decide +kernel
theorem dX9_readFile_330 : decode cX9_readFile 330 = .ok (.iload 5, 2) := by decide +kernel
theorem dX9_readFile_332 : decode cX9_readFile 332 = .ok (.ldc 135, 2) := by decide +kernel
theorem dX9_readFile_334 : decode cX9_readFile 334 = .ok (.if_icmp .ne 25, 3) := by decide +kernel
theorem dX9_readFile_337 : decode cX9_readFile 337 = .ok (.iload_n 3, 1) := by decide +kernel
theorem dX9_readFile_338 : decode cX9_readFile 338 = .ok (.ifCond .ne 16, 3) := by decide +kernel
theorem dX9_readFile_341 : decode cX9_readFile 341 = .ok (.aload_n 0, 1) := by decide +kernel
theorem dX9_readFile_342 : decode cX9_readFile 342 = .ok (.iload 8, 2) := by decide +kernel
theorem dX9_readFile_344 : decode cX9_readFile 344 = .ok (.iload 9, 2) := by decide +kernel
theorem dX9_readFile_346 : decode cX9_readFile 346 = .ok (.invokevirtual 178, 3) := by decide +kernel
theorem dX9_readFile_349 : decode cX9_readFile 349 = .ok (.ifCond .ne 5, 3) := by decide +kernel
theorem dX9_readFile_352 : decode cX9_readFile 352 = .ok (.iconst 0, 1) := by decide +kernel
theorem dX9_readFile_353 : decode cX9_readFile 353 = .ok (.ireturn, 1) := by decide +kernel
theorem dX9_readFile_354 : decode cX9_readFile 354 = .ok (.iconst 1, 1) := by decide +kernel
theorem dX9_readFile_355 : decode cX9_readFile 355 = .ok (.istore_n 3, 1) := by decide +kernel
theorem dX9_readFile_356 : decode cX9_readFile 356 = .ok (.goto 111, 3) := by decide +kernel
theorem dX9_readFile_359 : decode cX9_readFile 359 = .ok (.aload_n 0, 1) := by decide +kernel
theorem dX9_readFile_360 : decode cX9_readFile 360 = .ok (.getfield 152, 3) := by decide +kernel
theorem dX9_readFile_363 : decode cX9_readFile 363 = .ok (.bipush 8, 2) := by decide +kernel
theorem dX9_readFile_365 : decode cX9_readFile 365 = .ok (.if_icmp .eq 12, 3) := by decide +kernel
theorem dX9_readFile_368 : decode cX9_readFile 368 = .ok (.lload 6, 2) := by decide +kernel
theorem dX9_readFile_370 : decode cX9_readFile 370 = .ok (.ldc2_w 181, 3) := by decide +kernel
theorem dX9_readFile_373 : decode cX9_readFile 373 = .ok (.lcmp, 1) := by decide +kernel
theorem dX9_readFile_374 : decode cX9_readFile 374 = .ok (.ifCond .le 12, 3) := by decide +kernel
theorem dX9_readFile_377 : decode cX9_readFile 377 = .ok (.aload_n 0, 1) := by decide +kernel
theorem dX9_readFile_378 : decode cX9_readFile 378 = .ok (.bipush 9, 2) := by decide +kernel
theorem dX9_readFile_380 : decode cX9_readFile 380 = .ok (.iload 4, 2) := by decide +kernel
theorem dX9_readFile_382 : decode cX9_readFile 382 = .ok (.invokevirtual 155, 3) := by decide +kernel
theorem dX9_readFile_385 : decode cX9_readFile 385 = .ok (.ireturn, 1) := by decide +kernel
theorem dX9_readFile_386 : decode cX9_readFile 386 = .ok (.sipush 202, 3) := by decide +kernel
theorem dX9_readFile_389 : decode cX9_readFile 389 = .ok (.aload_n 0, 1) := by decide +kernel
theorem dX9_readFile_390 : decode cX9_readFile 390 = .ok (.getfield 152, 3) := by decide +kernel
theorem dX9_readFile_393 : decode cX9_readFile 393 = .ok (.imul, 1) := by decide +kernel
theorem dX9_readFile_394 : decode cX9_readFile 394 = .ok (.istore 10, 2) := by decide +kernel
theorem dX9_readFile_396 : decode cX9_readFile 396 = .ok (.aload_n 0, 1) := by decide +kernel
theorem dX9_readFile_397 : decode cX9_readFile 397 = .ok (.getfield 50, 3) := by decide +kernel
theorem dX9_readFile_400 : decode cX9_readFile 400 = .ok (.iload 10, 2) := by decide +kernel
theorem dX9_readFile_402 : decode cX9_readFile 402 = .ok (.iload 5, 2) := by decide +kernel
theorem dX9_readFile_404 : decode cX9_readFile 404 = .ok (.iastore, 1) := by decide +kernel
theorem dX9_readFile_405 : decode cX9_readFile 405 = .ok (.aload_n 0, 1) := by decide +kernel
theorem dX9_readFile_406 : decode cX9_readFile 406 = .ok (.getfield 50, 3) := by decide +kernel
theorem dX9_readFile_409 : decode cX9_readFile 409 = .ok (.iload 10, 2) := by decide +kernel
theorem dX9_readFile_411 : decode cX9_readFile 411 = .ok (.iconst 1, 1) := by decide +kernel
theorem dX9_readFile_412 : decode cX9_readFile 412 = .ok (.iadd, 1) := by decide +kernel
theorem dX9_readFile_413 : decode cX9_readFile 413 = .ok (.lload 6, 2) := by decide +kernel
theorem dX9_readFile_415 : decode cX9_readFile 415 = .ok (.l2i, 1) := by decide +kernel
theorem dX9_readFile_416 : decode cX9_readFile 416 = .ok (.iastore, 1) := by decide +kernel
theorem dX9_readFile_417 : decode cX9_readFile 417 = .ok (.iconst 0, 1) := by decide +kernel
theorem dX9_readFile_418 : decode cX9_readFile 418 = .ok (.istore 11, 2) := by decide +kernel
theorem dX9_readFile_420 : decode cX9_readFile 420 = .ok (.iload 11, 2) := by decide +kernel
theorem dX9_readFile_422 : decode cX9_readFile 422 = .ok (.i2l, 1) := by decide +kernel
theorem dX9_readFile_423 : decode cX9_readFile 423 = .ok (.lload 6, 2) := by decide +kernel
