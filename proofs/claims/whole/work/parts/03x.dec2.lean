theorem dX4_takeFrame_70 : decode cX4_takeFrame 70 = .ok (.bipush 8, 2) := by decide +kernel
theorem dX4_takeFrame_72 : decode cX4_takeFrame 72 = .ok (.iadd, 1) := by decide +kernel
theorem dX4_takeFrame_73 : decode cX4_takeFrame 73 = .ok (.istore 7, 2) := by decide +kernel
theorem dX4_takeFrame_75 : decode cX4_takeFrame 75 = .ok (.aload_n 0, 1) := by decide +kernel
theorem dX4_takeFrame_76 : decode cX4_takeFrame 76 = .ok (.invokevirtual 103, 3) := by decide +kernel
theorem dX4_takeFrame_79 : decode cX4_takeFrame 79 = .ok (.astore 8, 2) := by decide +kernel
theorem dX4_takeFrame_81 : decode cX4_takeFrame 81 = .ok (.iconst 0, 1) := by decide +kernel
theorem dX4_takeFrame_82 : decode cX4_takeFrame 82 = .ok (.istore 9, 2) := by decide +kernel
theorem dX4_takeFrame_84 : decode cX4_takeFrame 84 = .ok (.aload 8, 2) := by decide +kernel
theorem dX4_takeFrame_86 : decode cX4_takeFrame 86 = .ok (.ifnull 59, 3) := by decide +kernel
theorem dX4_takeFrame_89 : decode cX4_takeFrame 89 = .ok (.iload 9, 2) := by decide +kernel
theorem dX4_takeFrame_91 : decode cX4_takeFrame 91 = .ok (.iload 4, 2) := by decide +kernel
theorem dX4_takeFrame_93 : decode cX4_takeFrame 93 = .ok (.iload 6, 2) := by decide +kernel
theorem dX4_takeFrame_95 : decode cX4_takeFrame 95 = .ok (.iadd, 1) := by decide +kernel
theorem dX4_takeFrame_96 : decode cX4_takeFrame 96 = .ok (.if_icmp .ge 49, 3) := by decide +kernel
theorem dX4_takeFrame_99 : decode cX4_takeFrame 99 = .ok (.aload_n 1, 1) := by decide +kernel
theorem dX4_takeFrame_100 : decode cX4_takeFrame 100 = .ok (.iload 7, 2) := by decide +kernel
theorem dX4_takeFrame_102 : decode cX4_takeFrame 102 = .ok (.iconst 2, 1) := by decide +kernel
theorem dX4_takeFrame_103 : decode cX4_takeFrame 103 = .ok (.iload 9, 2) := by decide +kernel
theorem dX4_takeFrame_105 : decode cX4_takeFrame 105 = .ok (.imul, 1) := by decide +kernel
theorem dX4_takeFrame_106 : decode cX4_takeFrame 106 = .ok (.iadd, 1) := by decide +kernel
theorem dX4_takeFrame_107 : decode cX4_takeFrame 107 = .ok (.iconst 2, 1) := by decide +kernel
theorem dX4_takeFrame_108 : decode cX4_takeFrame 108 = .ok (.invokevirtual 95, 3) := by decide +kernel
theorem dX4_takeFrame_111 : decode cX4_takeFrame 111 = .ok (.istore 10, 2) := by decide +kernel
theorem dX4_takeFrame_113 : decode cX4_takeFrame 113 = .ok (.iload 9, 2) := by decide +kernel
theorem dX4_takeFrame_115 : decode cX4_takeFrame 115 = .ok (.iload 4, 2) := by decide +kernel
theorem dX4_takeFrame_117 : decode cX4_takeFrame 117 = .ok (.if_icmp .ge 15, 3) := by decide +kernel
theorem dX4_takeFrame_120 : decode cX4_takeFrame 120 = .ok (.aload 8, 2) := by decide +kernel
theorem dX4_takeFrame_122 : decode cX4_takeFrame 122 = .ok (.iload 9, 2) := by decide +kernel
theorem dX4_takeFrame_124 : decode cX4_takeFrame 124 = .ok (.iload 10, 2) := by decide +kernel
theorem dX4_takeFrame_126 : decode cX4_takeFrame 126 = .ok (.invokevirtual 107, 3) := by decide +kernel
theorem dX4_takeFrame_129 : decode cX4_takeFrame 129 = .ok (.goto 10, 3) := by decide +kernel
theorem dX4_takeFrame_132 : decode cX4_takeFrame 132 = .ok (.aload 8, 2) := by decide +kernel
theorem dX4_takeFrame_134 : decode cX4_takeFrame 134 = .ok (.iload 10, 2) := by decide +kernel
theorem dX4_takeFrame_136 : decode cX4_takeFrame 136 = .ok (.invokevirtual 110, 3) := by decide +kernel
theorem dX4_takeFrame_139 : decode cX4_takeFrame 139 = .ok (.iinc 9 1, 3) := by decide +kernel
theorem dX4_takeFrame_142 : decode cX4_takeFrame 142 = .ok (.goto (-58), 3) := by decide +kernel
theorem dX4_takeFrame_145 : decode cX4_takeFrame 145 = .ok (.iload 7, 2) := by decide +kernel
theorem dX4_takeFrame_147 : decode cX4_takeFrame 147 = .ok (.iconst 2, 1) := by decide +kernel
theorem dX4_takeFrame_148 : decode cX4_takeFrame 148 = .ok (.iload 4, 2) := by decide +kernel
theorem dX4_takeFrame_150 : decode cX4_takeFrame 150 = .ok (.iload 6, 2) := by decide +kernel
theorem dX4_takeFrame_152 : decode cX4_takeFrame 152 = .ok (.iadd, 1) := by decide +kernel
theorem dX4_takeFrame_153 : decode cX4_takeFrame 153 = .ok (.imul, 1) := by decide +kernel
theorem dX4_takeFrame_154 : decode cX4_takeFrame 154 = .ok (.iadd, 1) := by decide +kernel
theorem dX4_takeFrame_155 : decode cX4_takeFrame 155 = .ok (.ireturn, 1) := by decide +kernel
theorem dX5_init_0 : decode cX5_init 0 = .ok (.aload_n 0, 1) := by decide +kernel
theorem dX5_init_1 : decode cX5_init 1 = .ok (.invokespecial 3, 3) := by decide +kernel
theorem dX5_init_4 : decode cX5_init 4 = .ok (.aload_n 0, 1) := by decide +kernel
theorem dX5_init_5 : decode cX5_init 5 = .ok (.bipush 10, 2) := by decide +kernel
theorem dX5_init_7 : decode cX5_init 7 = .ok (.newarray .int, 2) := by decide +kernel
theorem dX5_init_9 : decode cX5_init 9 = .ok (.putfield 9, 3) := by decide +kernel
theorem dX5_init_12 : decode cX5_init 12 = .ok (.aload_n 0, 1) := by decide +kernel
theorem dX5_init_13 : decode cX5_init 13 = .ok (.sipush 1000, 3) := by decide +kernel
theorem dX5_init_16 : decode cX5_init 16 = .ok (.newarray .int, 2) := by decide +kernel
theorem dX5_init_18 : decode cX5_init 18 = .ok (.putfield 15, 3) := by decide +kernel
theorem dX5_init_21 : decode cX5_init 21 = .ok (.aload_n 0, 1) := by decide +kernel
theorem dX5_init_22 : decode cX5_init 22 = .ok (.iconst 0, 1) := by decide +kernel
theorem dX5_init_23 : decode cX5_init 23 = .ok (.putfield 18, 3) := by decide +kernel
theorem dX5_init_26 : decode cX5_init 26 = .ok (.return_, 1) := by decide +kernel
theorem dX5_takeFrom_0 : decode cX5_takeFrom 0 = .ok (.iconst 0, 1) := by decide +kernel
theorem dX5_takeFrom_1 : decode cX5_takeFrom 1 = .ok (.istore_n 2, 1) := by decide +kernel
theorem dX5_takeFrom_2 : decode cX5_takeFrom 2 = .ok (.iload_n 2, 1) := by decide +kernel
theorem dX5_takeFrom_3 : decode cX5_takeFrom 3 = .ok (.bipush 10, 2) := by decide +kernel
theorem dX5_takeFrom_5 : decode cX5_takeFrom 5 = .ok (.if_icmp .ge 20, 3) := by decide +kernel
theorem dX5_takeFrom_8 : decode cX5_takeFrom 8 = .ok (.aload_n 0, 1) := by decide +kernel
theorem dX5_takeFrom_9 : decode cX5_takeFrom 9 = .ok (.getfield 9, 3) := by decide +kernel
theorem dX5_takeFrom_12 : decode cX5_takeFrom 12 = .ok (.iload_n 2, 1) := by decide +kernel
theorem dX5_takeFrom_13 : decode cX5_takeFrom 13 = .ok (.aload_n 1, 1) := by decide +kernel
theorem dX5_takeFrom_14 : decode cX5_takeFrom 14 = .ok (.iload_n 2, 1) := by decide +kernel
theorem dX5_takeFrom_15 : decode cX5_takeFrom 15 = .ok (.invokevirtual 22, 3) := by decide +kernel
theorem dX5_takeFrom_18 : decode cX5_takeFrom 18 = .ok (.iastore, 1) := by decide +kernel
theorem dX5_takeFrom_19 : decode cX5_takeFrom 19 = .ok (.iinc 2 1, 3) := by decide +kernel
theorem dX5_takeFrom_22 : decode cX5_takeFrom 22 = .ok (.goto (-20), 3) := by decide +kernel
theorem dX5_takeFrom_25 : decode cX5_takeFrom 25 = .ok (.aload_n 0, 1) := by decide +kernel
theorem dX5_takeFrom_26 : decode cX5_takeFrom 26 = .ok (.iconst 0, 1) := by decide +kernel
theorem dX5_takeFrom_27 : decode cX5_takeFrom 27 = .ok (.aload_n 1, 1) := by decide +kernel
theorem dX5_takeFrom_28 : decode cX5_takeFrom 28 = .ok (.getfield 28, 3) := by decide +kernel
theorem dX5_takeFrom_31 : decode cX5_takeFrom 31 = .ok (.bipush 10, 2) := by decide +kernel
theorem dX5_takeFrom_33 : decode cX5_takeFrom 33 = .ok (.isub, 1) := by decide +kernel
theorem dX5_takeFrom_34 : decode cX5_takeFrom 34 = .ok (.sipush 1000, 3) := by decide +kernel
theorem dX5_takeFrom_37 : decode cX5_takeFrom 37 = .ok (.invokestatic 29, 3) := by decide +kernel
theorem dX5_takeFrom_40 : decode cX5_takeFrom 40 = .ok (.invokestatic 35, 3) := by decide +kernel
theorem dX5_takeFrom_43 : decode cX5_takeFrom 43 = .ok (.putfield 18, 3) := by decide +kernel
theorem dX5_takeFrom_46 : decode cX5_takeFrom 46 = .ok (.iconst 0, 1) := by decide +kernel
theorem dX5_takeFrom_47 : decode cX5_takeFrom 47 = .ok (.istore_n 2, 1) := by decide +kernel
theorem dX5_takeFrom_48 : decode cX5_takeFrom 48 = .ok (.iload_n 2, 1) := by decide +kernel
theorem dX5_takeFrom_49 : decode cX5_takeFrom 49 = .ok (.aload_n 0, 1) := by decide +kernel
theorem dX5_takeFrom_50 : decode cX5_takeFrom 50 = .ok (.getfield 18, 3) := by decide +kernel
theorem dX5_takeFrom_53 : decode cX5_takeFrom 53 = .ok (.if_icmp .ge 23, 3) := by decide +kernel
theorem dX5_takeFrom_56 : decode cX5_takeFrom 56 = .ok (.aload_n 0, 1) := by decide +kernel
theorem dX5_takeFrom_57 : decode cX5_takeFrom 57 = .ok (.getfield 15, 3) := by decide +kernel
theorem dX5_takeFrom_60 : decode cX5_takeFrom 60 = .ok (.iload_n 2, 1) := by decide +kernel
theorem dX5_takeFrom_61 : decode cX5_takeFrom 61 = .ok (.aload_n 1, 1) := by decide +kernel
theorem dX5_takeFrom_62 : decode cX5_takeFrom 62 = .ok (.bipush 10, 2) := by decide +kernel
theorem dX5_takeFrom_64 : decode cX5_takeFrom 64 = .ok (.iload_n 2, 1) := by decide +kernel
theorem dX5_takeFrom_65 : decode cX5_takeFrom 65 = .ok (.iadd, 1) := by decide +kernel
theorem dX5_takeFrom_66 : decode cX5_takeFrom 66 = .ok (.invokevirtual 22, 3) := by decide +kernel
theorem dX5_takeFrom_69 : decode cX5_takeFrom 69 = .ok (.iastore, 1) := by decide +kernel
theorem dX5_takeFrom_70 : decode cX5_takeFrom 70 = .ok (.iinc 2 1, 3) := by decide +kernel
theorem dX5_takeFrom_73 : decode cX5_takeFrom 73 = .ok (.goto (-25), 3) := by decide +kernel
theorem dX5_takeFrom_76 : decode cX5_takeFrom 76 = .ok (.return_, 1) := by decide +kernel
theorem dX5_byteAt_0 : decode cX5_byteAt 0 = .ok (.iload_n 1, 1) := by decide +kernel
theorem dX5_byteAt_1 : decode cX5_byteAt 1 = .ok (.ifCond .lt 29, 3) := by decide +kernel
theorem dX5_byteAt_4 : decode cX5_byteAt 4 = .ok (.iload_n 1, 1) := by decide +kernel
theorem dX5_byteAt_5 : decode cX5_byteAt 5 = .ok (.aload_n 0, 1) := by decide +kernel
theorem dX5_byteAt_6 : decode cX5_byteAt 6 = .ok (.getfield 18, 3) := by decide +kernel
theorem dX5_byteAt_9 : decode cX5_byteAt 9 = .ok (.if_icmp .ge 21, 3) := by decide +kernel
theorem dX5_byteAt_12 : decode cX5_byteAt 12 = .ok (.iload_n 1, 1) := by decide +kernel
theorem dX5_byteAt_13 : decode cX5_byteAt 13 = .ok (.aload_n 0, 1) := by decide +kernel
theorem dX5_byteAt_14 : decode cX5_byteAt 14 = .ok (.getfield 15, 3) := by decide +kernel
theorem dX5_byteAt_17 : decode cX5_byteAt 17 = .ok (.arraylength, 1) := by decide +kernel
theorem dX5_byteAt_18 : decode cX5_byteAt 18 = .ok (.if_icmp .ge 12, 3) := by decide +kernel
theorem dX5_byteAt_21 : decode cX5_byteAt 21 = .ok (.aload_n 0, 1) := by decide +kernel
theorem dX5_byteAt_22 : decode cX5_byteAt 22 = .ok (.getfield 15, 3) := by decide +kernel
theorem dX5_byteAt_25 : decode cX5_byteAt 25 = .ok (.iload_n 1, 1) := by decide +kernel
theorem dX5_byteAt_26 : decode cX5_byteAt 26 = .ok (.iaload, 1) := by decide +kernel
theorem dX5_byteAt_27 : decode cX5_byteAt 27 = .ok (.goto 4, 3) := by decide +kernel
theorem dX5_byteAt_30 : decode cX5_byteAt 30 = .ok (.iconst 0, 1) := by decide +kernel
theorem dX5_byteAt_31 : decode cX5_byteAt 31 = .ok (.ireturn, 1) := by decide +kernel
theorem dX5_headAt_0 : decode cX5_headAt 0 = .ok (.iload_n 1, 1) := by decide +kernel
theorem dX5_headAt_1 : decode cX5_headAt 1 = .ok (.ifCond .lt 21, 3) := by decide +kernel
theorem dX5_headAt_4 : decode cX5_headAt 4 = .ok (.iload_n 1, 1) := by decide +kernel
theorem dX5_headAt_5 : decode cX5_headAt 5 = .ok (.aload_n 0, 1) := by decide +kernel
theorem dX5_headAt_6 : decode cX5_headAt 6 = .ok (.getfield 9, 3) := by decide +kernel
theorem dX5_headAt_9 : decode cX5_headAt 9 = .ok (.arraylength, 1) := by decide +kernel
theorem dX5_headAt_10 : decode cX5_headAt 10 = .ok (.if_icmp .ge 12, 3) := by decide +kernel
theorem dX5_headAt_13 : decode cX5_headAt 13 = .ok (.aload_n 0, 1) := by decide +kernel
theorem dX5_headAt_14 : decode cX5_headAt 14 = .ok (.getfield 9, 3) := by decide +kernel
theorem dX5_headAt_17 : decode cX5_headAt 17 = .ok (.iload_n 1, 1) := by decide +kernel
theorem dX5_headAt_18 : decode cX5_headAt 18 = .ok (.iaload, 1) := by decide +kernel
theorem dX5_headAt_19 : decode cX5_headAt 19 = .ok (.goto 4, 3) := by decide +kernel
theorem dX5_headAt_22 : decode cX5_headAt 22 = .ok (.iconst 0, 1) := by decide +kernel
theorem dX5_headAt_23 : decode cX5_headAt 23 = .ok (.ireturn, 1) := by decide +kernel
theorem dX5_tellHead_0 : decode cX5_tellHead 0 = .ok (.iconst 0, 1) := by decide +kernel
theorem dX5_tellHead_1 : decode cX5_tellHead 1 = .ok (.istore_n 2, 1) := by decide +kernel
theorem dX5_tellHead_2 : decode cX5_tellHead 2 = .ok (.iload_n 2, 1) := by decide +kernel
theorem dX5_tellHead_3 : decode cX5_tellHead 3 = .ok (.bipush 10, 2) := by decide +kernel
theorem dX5_tellHead_5 : decode cX5_tellHead 5 = .ok (.if_icmp .ge 19, 3) := by decide +kernel
theorem dX5_tellHead_8 : decode cX5_tellHead 8 = .ok (.aload_n 1, 1) := by decide +kernel
theorem dX5_tellHead_9 : decode cX5_tellHead 9 = .ok (.aload_n 0, 1) := by decide +kernel
theorem dX5_tellHead_10 : decode cX5_tellHead 10 = .ok (.getfield 9, 3) := by decide +kernel
theorem dX5_tellHead_13 : decode cX5_tellHead 13 = .ok (.iload_n 2, 1) := by decide +kernel
theorem dX5_tellHead_14 : decode cX5_tellHead 14 = .ok (.iaload, 1) := by decide +kernel
theorem dX5_tellHead_15 : decode cX5_tellHead 15 = .ok (.invokevirtual 38, 3) := by decide +kernel
theorem dX5_tellHead_18 : decode cX5_tellHead 18 = .ok (.iinc 2 1, 3) := by decide +kernel
theorem dX5_tellHead_21 : decode cX5_tellHead 21 = .ok (.goto (-19), 3) := by decide +kernel
theorem dX5_tellHead_24 : decode cX5_tellHead 24 = .ok (.return_, 1) := by decide +kernel
theorem dX6_init_0 : decode cX6_init 0 = .ok (.aload_n 0, 1) := by decide +kernel
theorem dX6_init_1 : decode cX6_init 1 = .ok (.invokespecial 3, 3) := by decide +kernel
theorem dX6_init_4 : decode cX6_init 4 = .ok (.aload_n 0, 1) := by decide +kernel
theorem dX6_init_5 : decode cX6_init 5 = .ok (.new 9, 3) := by decide +kernel
theorem dX6_init_8 : decode cX6_init 8 = .ok (.dup, 1) := by decide +kernel
theorem dX6_init_9 : decode cX6_init 9 = .ok (.sipush 1600, 3) := by decide +kernel
theorem dX6_init_12 : decode cX6_init 12 = .ok (.invokespecial 11, 3) := by decide +kernel
theorem dX6_init_15 : decode cX6_init 15 = .ok (.putfield 14, 3) := by decide +kernel
theorem dX6_init_18 : decode cX6_init 18 = .ok (.aload_n 0, 1) := by decide +kernel
theorem dX6_init_19 : decode cX6_init 19 = .ok (.bipush 8, 2) := by decide +kernel
theorem dX6_init_21 : decode cX6_init 21 = .ok (.newarray .int, 2) := by decide +kernel
theorem dX6_init_23 : decode cX6_init 23 = .ok (.putfield 20, 3) := by decide +kernel
theorem dX6_init_26 : decode cX6_init 26 = .ok (.aload_n 0, 1) := by decide +kernel
theorem dX6_init_27 : decode cX6_init 27 = .ok (.bipush 8, 2) := by decide +kernel
theorem dX6_init_29 : decode cX6_init 29 = .ok (.newarray .int, 2) := by decide +kernel
theorem dX6_init_31 : decode cX6_init 31 = .ok (.putfield 24, 3) := by decide +kernel
theorem dX6_init_34 : decode cX6_init 34 = .ok (.aload_n 0, 1) := by decide +kernel
theorem dX6_init_35 : decode cX6_init 35 = .ok (.iconst 0, 1) := by decide +kernel
theorem dX6_init_36 : decode cX6_init 36 = .ok (.putfield 27, 3) := by decide +kernel
theorem dX6_init_39 : decode cX6_init 39 = .ok (.return_, 1) := by decide +kernel
theorem dX6_clear_0 : decode cX6_clear 0 = .ok (.aload_n 0, 1) := by decide +kernel
theorem dX6_clear_1 : decode cX6_clear 1 = .ok (.getfield 14, 3) := by decide +kernel
theorem dX6_clear_4 : decode cX6_clear 4 = .ok (.invokevirtual 31, 3) := by decide +kernel
theorem dX6_clear_7 : decode cX6_clear 7 = .ok (.aload_n 0, 1) := by decide +kernel
theorem dX6_clear_8 : decode cX6_clear 8 = .ok (.iconst 0, 1) := by decide +kernel
theorem dX6_clear_9 : decode cX6_clear 9 = .ok (.putfield 27, 3) := by decide +kernel
theorem dX6_clear_12 : decode cX6_clear 12 = .ok (.return_, 1) := by decide +kernel
theorem dX6_add_0 : decode cX6_add 0 = .ok (.aload_n 0, 1) := by decide +kernel
theorem dX6_add_1 : decode cX6_add 1 = .ok (.getfield 27, 3) := by decide +kernel
theorem dX6_add_4 : decode cX6_add 4 = .ok (.ifCond .lt 20, 3) := by decide +kernel
theorem dX6_add_7 : decode cX6_add 7 = .ok (.aload_n 0, 1) := by decide +kernel
theorem dX6_add_8 : decode cX6_add 8 = .ok (.getfield 27, 3) := by decide +kernel
theorem dX6_add_11 : decode cX6_add 11 = .ok (.bipush 8, 2) := by decide +kernel
theorem dX6_add_13 : decode cX6_add 13 = .ok (.if_icmp .ge 11, 3) := by decide +kernel
theorem dX6_add_16 : decode cX6_add 16 = .ok (.iload 4, 2) := by decide +kernel
theorem dX6_add_18 : decode cX6_add 18 = .ok (.sipush 200, 3) := by decide +kernel
theorem dX6_add_21 : decode cX6_add 21 = .ok (.if_icmp .le 5, 3) := by decide +kernel
theorem dX6_add_24 : decode cX6_add 24 = .ok (.iconst 0, 1) := by decide +kernel
theorem dX6_add_25 : decode cX6_add 25 = .ok (.ireturn, 1) := by decide +kernel
theorem dX6_add_26 : decode cX6_add 26 = .ok (.aload_n 0, 1) := by decide +kernel
theorem dX6_add_27 : decode cX6_add 27 = .ok (.getfield 20, 3) := by decide +kernel
theorem dX6_add_30 : decode cX6_add 30 = .ok (.aload_n 0, 1) := by decide +kernel
theorem dX6_add_31 : decode cX6_add 31 = .ok (.getfield 27, 3) := by decide +kernel
theorem dX6_add_34 : decode cX6_add 34 = .ok (.iload_n 1, 1) := by decide +kernel
theorem dX6_add_35 : decode cX6_add 35 = .ok (.iastore, 1) := by decide +kernel
theorem dX6_add_36 : decode cX6_add 36 = .ok (.aload_n 0, 1) := by decide +kernel
theorem dX6_add_37 : decode cX6_add 37 = .ok (.getfield 24, 3) := by decide +kernel
theorem dX6_add_40 : decode cX6_add 40 = .ok (.aload_n 0, 1) := by decide +kernel
theorem dX6_add_41 : decode cX6_add 41 = .ok (.getfield 27, 3) := by decide +kernel
theorem dX6_add_44 : decode cX6_add 44 = .ok (.iload 4, 2) := by decide +kernel
theorem dX6_add_46 : decode cX6_add 46 = .ok (.iastore, 1) := by decide +kernel
theorem dX6_add_47 : decode cX6_add 47 = .ok (.aload_n 0, 1) := by decide +kernel
theorem dX6_add_48 : decode cX6_add 48 = .ok (.getfield 14, 3) := by decide +kernel
theorem dX6_add_51 : decode cX6_add 51 = .ok (.aload_n 2, 1) := by decide +kernel
theorem dX6_add_52 : decode cX6_add 52 = .ok (.iload_n 3, 1) := by decide +kernel
theorem dX6_add_53 : decode cX6_add 53 = .ok (.iload 4, 2) := by decide +kernel
theorem dX6_add_55 : decode cX6_add 55 = .ok (.invokevirtual 34, 3) := by decide +kernel
theorem dX6_add_58 : decode cX6_add 58 = .ok (.aload_n 0, 1) := by decide +kernel
theorem dX6_add_59 : decode cX6_add 59 = .ok (.dup, 1) := by decide +kernel
theorem dX6_add_60 : decode cX6_add 60 = .ok (.getfield 27, 3) := by decide +kernel
theorem dX6_add_63 : decode cX6_add 63 = .ok (.iconst 1, 1) := by decide +kernel
theorem dX6_add_64 : decode cX6_add 64 = .ok (.iadd, 1) := by decide +kernel
theorem dX6_add_65 : decode cX6_add 65 = .ok (.putfield 27, 3) := by decide +kernel
theorem dX6_add_68 : decode cX6_add 68 = .ok (.iconst 1, 1) := by decide +kernel
theorem dX6_add_69 : decode cX6_add 69 = .ok (.ireturn, 1) := by decide +kernel
theorem dX7_init_0 : decode cX7_init 0 = .ok (.aload_n 0, 1) := by decide +kernel
theorem dX7_init_1 : decode cX7_init 1 = .ok (.invokespecial 3, 3) := by decide +kernel
theorem dX7_init_4 : decode cX7_init 4 = .ok (.aload_n 0, 1) := by decide +kernel
theorem dX7_init_5 : decode cX7_init 5 = .ok (.new 9, 3) := by decide +kernel
theorem dX7_init_8 : decode cX7_init 8 = .ok (.dup, 1) := by decide +kernel
theorem dX7_init_9 : decode cX7_init 9 = .ok (.sipush 8000, 3) := by decide +kernel
theorem dX7_init_12 : decode cX7_init 12 = .ok (.invokespecial 11, 3) := by decide +kernel
theorem dX7_init_15 : decode cX7_init 15 = .ok (.putfield 14, 3) := by decide +kernel
theorem dX7_init_18 : decode cX7_init 18 = .ok (.aload_n 0, 1) := by decide +kernel
theorem dX7_init_19 : decode cX7_init 19 = .ok (.bipush 11, 2) := by decide +kernel
theorem dX7_init_21 : decode cX7_init 21 = .ok (.newarray .int, 2) := by decide +kernel
theorem dX7_init_23 : decode cX7_init 23 = .ok (.putfield 20, 3) := by decide +kernel
theorem dX7_init_26 : decode cX7_init 26 = .ok (.aload_n 0, 1) := by decide +kernel
theorem dX7_init_27 : decode cX7_init 27 = .ok (.bipush 11, 2) := by decide +kernel
theorem dX7_init_29 : decode cX7_init 29 = .ok (.newarray .int, 2) := by decide +kernel
theorem dX7_init_31 : decode cX7_init 31 = .ok (.putfield 24, 3) := by decide +kernel
theorem dX7_init_34 : decode cX7_init 34 = .ok (.aload_n 0, 1) := by decide +kernel
theorem dX7_init_35 : decode cX7_init 35 = .ok (.bipush 11, 2) := by decide +kernel
theorem dX7_init_37 : decode cX7_init 37 = .ok (.newarray .int, 2) := by decide +kernel
theorem dX7_init_39 : decode cX7_init 39 = .ok (.putfield 27, 3) := by decide +kernel
theorem dX7_init_42 : decode cX7_init 42 = .ok (.aload_n 0, 1) := by decide +kernel
theorem dX7_init_43 : decode cX7_init 43 = .ok (.iconst 0, 1) := by decide +kernel
theorem dX7_init_44 : decode cX7_init 44 = .ok (.putfield 30, 3) := by decide +kernel
theorem dX7_init_47 : decode cX7_init 47 = .ok (.return_, 1) := by decide +kernel
theorem dX7_startFile_0 : decode cX7_startFile 0 = .ok (.aload_n 0, 1) := by decide +kernel
theorem dX7_startFile_1 : decode cX7_startFile 1 = .ok (.iconst 0, 1) := by decide +kernel
theorem dX7_startFile_2 : decode cX7_startFile 2 = .ok (.putfield 30, 3) := by decide +kernel
theorem dX7_startFile_5 : decode cX7_startFile 5 = .ok (.aload_n 0, 1) := by decide +kernel
theorem dX7_startFile_6 : decode cX7_startFile 6 = .ok (.getfield 14, 3) := by decide +kernel
theorem dX7_startFile_9 : decode cX7_startFile 9 = .ok (.invokevirtual 34, 3) := by decide +kernel
theorem dX7_startFile_12 : decode cX7_startFile 12 = .ok (.aload_n 0, 1) := by decide +kernel
theorem dX7_startFile_13 : decode cX7_startFile 13 = .ok (.getfield 14, 3) := by decide +kernel
theorem dX7_startFile_16 : decode cX7_startFile 16 = .ok (.ldc 37, 2) := by decide +kernel
theorem dX7_startFile_18 : decode cX7_startFile 18 = .ok (.iconst 4, 1) := by decide +kernel
theorem dX7_startFile_19 : decode cX7_startFile 19 = .ok (.invokevirtual 38, 3) := by decide +kernel
theorem dX7_startFile_22 : decode cX7_startFile 22 = .ok (.aload_n 0, 1) := by decide +kernel
theorem dX7_startFile_23 : decode cX7_startFile 23 = .ok (.getfield 14, 3) := by decide +kernel
theorem dX7_startFile_26 : decode cX7_startFile 26 = .ok (.iconst 0, 1) := by decide +kernel
theorem dX7_startFile_27 : decode cX7_startFile 27 = .ok (.iconst 4, 1) := by decide +kernel
theorem dX7_startFile_28 : decode cX7_startFile 28 = .ok (.invokevirtual 38, 3) := by decide +kernel
theorem dX7_startFile_31 : decode cX7_startFile 31 = .ok (.aload_n 0, 1) := by decide +kernel
theorem dX7_startFile_32 : decode cX7_startFile 32 = .ok (.getfield 14, 3) := by decide +kernel
theorem dX7_startFile_35 : decode cX7_startFile 35 = .ok (.ldc 42, 2) := by decide +kernel
theorem dX7_startFile_37 : decode cX7_startFile 37 = .ok (.iconst 4, 1) := by decide +kernel
theorem dX7_startFile_38 : decode cX7_startFile 38 = .ok (.invokevirtual 38, 3) := by decide +kernel
theorem dX7_startFile_41 : decode cX7_startFile 41 = .ok (.return_, 1) := by decide +kernel
theorem dX7_openChunk_0 : decode cX7_openChunk 0 = .ok (.aload_n 0, 1) := by decide +kernel
theorem dX7_openChunk_1 : decode cX7_openChunk 1 = .ok (.getfield 14, 3) := by decide +kernel
theorem dX7_openChunk_4 : decode cX7_openChunk 4 = .ok (.iload_n 1, 1) := by decide +kernel
theorem dX7_openChunk_5 : decode cX7_openChunk 5 = .ok (.iconst 4, 1) := by decide +kernel
theorem dX7_openChunk_6 : decode cX7_openChunk 6 = .ok (.invokevirtual 38, 3) := by decide +kernel
theorem dX7_openChunk_9 : decode cX7_openChunk 9 = .ok (.aload_n 0, 1) := by decide +kernel
theorem dX7_openChunk_10 : decode cX7_openChunk 10 = .ok (.getfield 14, 3) := by decide +kernel
theorem dX7_openChunk_13 : decode cX7_openChunk 13 = .ok (.iconst 0, 1) := by decide +kernel
theorem dX7_openChunk_14 : decode cX7_openChunk 14 = .ok (.iconst 4, 1) := by decide +kernel
theorem dX7_openChunk_15 : decode cX7_openChunk 15 = .ok (.invokevirtual 38, 3) := by decide +kernel
theorem dX7_openChunk_18 : decode cX7_openChunk 18 = .ok (.aload_n 0, 1) := by decide +kernel
theorem dX7_openChunk_19 : decode cX7_openChunk 19 = .ok (.getfield 30, 3) := by decide +kernel
theorem dX7_openChunk_22 : decode cX7_openChunk 22 = .ok (.ifCond .lt 41, 3) := by decide +kernel
theorem dX7_openChunk_25 : decode cX7_openChunk 25 = .ok (.aload_n 0, 1) := by decide +kernel
theorem dX7_openChunk_26 : decode cX7_openChunk 26 = .ok (.getfield 30, 3) := by decide +kernel
theorem dX7_openChunk_29 : decode cX7_openChunk 29 = .ok (.aload_n 0, 1) := by decide +kernel
theorem dX7_openChunk_30 : decode cX7_openChunk 30 = .ok (.getfield 20, 3) := by decide +kernel
theorem dX7_openChunk_33 : decode cX7_openChunk 33 = .ok (.arraylength, 1) := by decide +kernel
theorem dX7_openChunk_34 : decode cX7_openChunk 34 = .ok (.if_icmp .ge 29, 3) := by decide +kernel
theorem dX7_openChunk_37 : decode cX7_openChunk 37 = .ok (.aload_n 0, 1) := by decide +kernel
theorem dX7_openChunk_38 : decode cX7_openChunk 38 = .ok (.getfield 20, 3) := by decide +kernel
theorem dX7_openChunk_41 : decode cX7_openChunk 41 = .ok (.aload_n 0, 1) := by decide +kernel
theorem dX7_openChunk_42 : decode cX7_openChunk 42 = .ok (.getfield 30, 3) := by decide +kernel
theorem dX7_openChunk_45 : decode cX7_openChunk 45 = .ok (.iload_n 1, 1) := by decide +kernel
theorem dX7_openChunk_46 : decode cX7_openChunk 46 = .ok (.iastore, 1) := by decide +kernel
theorem dX7_openChunk_47 : decode cX7_openChunk 47 = .ok (.aload_n 0, 1) := by decide +kernel
theorem dX7_openChunk_48 : decode cX7_openChunk 48 = .ok (.getfield 24, 3) := by decide +kernel
theorem dX7_openChunk_51 : decode cX7_openChunk 51 = .ok (.aload_n 0, 1) := by decide +kernel
theorem dX7_openChunk_52 : decode cX7_openChunk 52 = .ok (.getfield 30, 3) := by decide +kernel
theorem dX7_openChunk_55 : decode cX7_openChunk 55 = .ok (.aload_n 0, 1) := by decide +kernel
theorem dX7_openChunk_56 : decode cX7_openChunk 56 = .ok (.getfield 14, 3) := by decide +kernel
theorem dX7_openChunk_59 : decode cX7_openChunk 59 = .ok (.getfield 43, 3) := by decide +kernel
theorem dX7_openChunk_62 : decode cX7_openChunk 62 = .ok (.iastore, 1) := by decide +kernel
theorem dX7_openChunk_63 : decode cX7_openChunk 63 = .ok (.return_, 1) := by decide +kernel
theorem dX7_closeChunk_0 : decode cX7_closeChunk 0 = .ok (.aload_n 0, 1) := by decide +kernel
theorem dX7_closeChunk_1 : decode cX7_closeChunk 1 = .ok (.getfield 30, 3) := by decide +kernel
theorem dX7_closeChunk_4 : decode cX7_closeChunk 4 = .ok (.ifCond .lt 87, 3) := by decide +kernel
theorem dX7_closeChunk_7 : decode cX7_closeChunk 7 = .ok (.aload_n 0, 1) := by decide +kernel
theorem dX7_closeChunk_8 : decode cX7_closeChunk 8 = .ok (.getfield 30, 3) := by decide +kernel
theorem dX7_closeChunk_11 : decode cX7_closeChunk 11 = .ok (.aload_n 0, 1) := by decide +kernel
theorem dX7_closeChunk_12 : decode cX7_closeChunk 12 = .ok (.getfield 20, 3) := by decide +kernel
theorem dX7_closeChunk_15 : decode cX7_closeChunk 15 = .ok (.arraylength, 1) := by decide +kernel
theorem dX7_closeChunk_16 : decode cX7_closeChunk 16 = .ok (.if_icmp .ge 75, 3) := by decide +kernel
theorem dX7_closeChunk_19 : decode cX7_closeChunk 19 = .ok (.aload_n 0, 1) := by decide +kernel
theorem dX7_closeChunk_20 : decode cX7_closeChunk 20 = .ok (.getfield 14, 3) := by decide +kernel
theorem dX7_closeChunk_23 : decode cX7_closeChunk 23 = .ok (.getfield 43, 3) := by decide +kernel
theorem dX7_closeChunk_26 : decode cX7_closeChunk 26 = .ok (.aload_n 0, 1) := by decide +kernel
theorem dX7_closeChunk_27 : decode cX7_closeChunk 27 = .ok (.getfield 24, 3) := by decide +kernel
theorem dX7_closeChunk_30 : decode cX7_closeChunk 30 = .ok (.aload_n 0, 1) := by decide +kernel
theorem dX7_closeChunk_31 : decode cX7_closeChunk 31 = .ok (.getfield 30, 3) := by decide +kernel
theorem dX7_closeChunk_34 : decode cX7_closeChunk 34 = .ok (.iaload, 1) := by decide +kernel
theorem dX7_closeChunk_35 : decode cX7_closeChunk 35 = .ok (.isub, 1) := by decide +kernel
theorem dX7_closeChunk_36 : decode cX7_closeChunk 36 = .ok (.istore_n 1, 1) := by decide +kernel
theorem dX7_closeChunk_37 : decode cX7_closeChunk 37 = .ok (.aload_n 0, 1) := by decide +kernel
theorem dX7_closeChunk_38 : decode cX7_closeChunk 38 = .ok (.getfield 27, 3) := by decide +kernel
theorem dX7_closeChunk_41 : decode cX7_closeChunk 41 = .ok (.aload_n 0, 1) := by decide +kernel
theorem dX7_closeChunk_42 : decode cX7_closeChunk 42 = .ok (.getfield 30, 3) := by decide +kernel
theorem dX7_closeChunk_45 : decode cX7_closeChunk 45 = .ok (.iload_n 1, 1) := by decide +kernel
theorem dX7_closeChunk_46 : decode cX7_closeChunk 46 = .ok (.iastore, 1) := by decide +kernel
theorem dX7_closeChunk_47 : decode cX7_closeChunk 47 = .ok (.aload_n 0, 1) := by decide +kernel
theorem dX7_closeChunk_48 : decode cX7_closeChunk 48 = .ok (.getfield 14, 3) := by decide +kernel
theorem dX7_closeChunk_51 : decode cX7_closeChunk 51 = .ok (.aload_n 0, 1) := by decide +kernel
theorem dX7_closeChunk_52 : decode cX7_closeChunk 52 = .ok (.getfield 24, 3) := by decide +kernel
theorem dX7_closeChunk_55 : decode cX7_closeChunk 55 = .ok (.aload_n 0, 1) := by decide +kernel
theorem dX7_closeChunk_56 : decode cX7_closeChunk 56 = .ok (.getfield 30, 3) := by decide +kernel
theorem dX7_closeChunk_59 : decode cX7_closeChunk 59 = .ok (.iaload, 1) := by decide +kernel
theorem dX7_closeChunk_60 : decode cX7_closeChunk 60 = .ok (.iconst 4, 1) := by decide +kernel
theorem dX7_closeChunk_61 : decode cX7_closeChunk 61 = .ok (.isub, 1) := by decide +kernel
theorem dX7_closeChunk_62 : decode cX7_closeChunk 62 = .ok (.iload_n 1, 1) := by decide +kernel
theorem dX7_closeChunk_63 : decode cX7_closeChunk 63 = .ok (.invokevirtual 46, 3) := by decide +kernel
theorem dX7_closeChunk_66 : decode cX7_closeChunk 66 = .ok (.iload_n 1, 1) := by decide +kernel
theorem dX7_closeChunk_67 : decode cX7_closeChunk 67 = .ok (.iconst 1, 1) := by decide +kernel
theorem dX7_closeChunk_68 : decode cX7_closeChunk 68 = .ok (.iand, 1) := by decide +kernel
theorem dX7_closeChunk_69 : decode cX7_closeChunk 69 = .ok (.iconst 1, 1) := by decide +kernel
theorem dX7_closeChunk_70 : decode cX7_closeChunk 70 = .ok (.if_icmp .ne 11, 3) := by decide +kernel
theorem dX7_closeChunk_73 : decode cX7_closeChunk 73 = .ok (.aload_n 0, 1) := by decide +kernel
theorem dX7_closeChunk_74 : decode cX7_closeChunk 74 = .ok (.getfield 14, 3) := by decide +kernel
theorem dX7_closeChunk_77 : decode cX7_closeChunk 77 = .ok (.iconst 0, 1) := by decide +kernel
theorem dX7_closeChunk_78 : decode cX7_closeChunk 78 = .ok (.invokevirtual 49, 3) := by decide +kernel
theorem dX7_closeChunk_81 : decode cX7_closeChunk 81 = .ok (.aload_n 0, 1) := by decide +kernel
theorem dX7_closeChunk_82 : decode cX7_closeChunk 82 = .ok (.dup, 1) := by decide +kernel
theorem dX7_closeChunk_83 : decode cX7_closeChunk 83 = .ok (.getfield 30, 3) := by decide +kernel
theorem dX7_closeChunk_86 : decode cX7_closeChunk 86 = .ok (.iconst 1, 1) := by decide +kernel
theorem dX7_closeChunk_87 : decode cX7_closeChunk 87 = .ok (.iadd, 1) := by decide +kernel
theorem dX7_closeChunk_88 : decode cX7_closeChunk 88 = .ok (.putfield 30, 3) := by decide +kernel
theorem dX7_closeChunk_91 : decode cX7_closeChunk 91 = .ok (.return_, 1) := by decide +kernel
theorem dX7_addStrangers_0 : decode cX7_addStrangers 0 = .ok (.iconst 0, 1) := by decide +kernel
theorem dX7_addStrangers_1 : decode cX7_addStrangers 1 = .ok (.istore_n 2, 1) := by decide +kernel
theorem dX7_addStrangers_2 : decode cX7_addStrangers 2 = .ok (.iconst 0, 1) := by decide +kernel
theorem dX7_addStrangers_3 : decode cX7_addStrangers 3 = .ok (.istore_n 3, 1) := by decide +kernel
theorem dX7_addStrangers_4 : decode cX7_addStrangers 4 = .ok (.iload_n 3, 1) := by decide +kernel
theorem dX7_addStrangers_5 : decode cX7_addStrangers 5 = .ok (.aload_n 1, 1) := by decide +kernel
theorem dX7_addStrangers_6 : decode cX7_addStrangers 6 = .ok (.getfield 52, 3) := by decide +kernel
theorem dX7_addStrangers_9 : decode cX7_addStrangers 9 = .ok (.if_icmp .ge 56, 3) := by decide +kernel
theorem dX7_addStrangers_12 : decode cX7_addStrangers 12 = .ok (.iload_n 3, 1) := by decide +kernel
theorem dX7_addStrangers_13 : decode cX7_addStrangers 13 = .ok (.bipush 8, 2) := by decide +kernel
theorem dX7_addStrangers_15 : decode cX7_addStrangers 15 = .ok (.if_icmp .ge 50, 3) := by decide +kernel
theorem dX7_addStrangers_18 : decode cX7_addStrangers 18 = .ok (.aload_n 0, 1) := by decide +kernel
theorem dX7_addStrangers_19 : decode cX7_addStrangers 19 = .ok (.aload_n 1, 1) := by decide +kernel
theorem dX7_addStrangers_20 : decode cX7_addStrangers 20 = .ok (.getfield 55, 3) := by decide +kernel
theorem dX7_addStrangers_23 : decode cX7_addStrangers 23 = .ok (.iload_n 3, 1) := by decide +kernel
theorem dX7_addStrangers_24 : decode cX7_addStrangers 24 = .ok (.iaload, 1) := by decide +kernel
theorem dX7_addStrangers_25 : decode cX7_addStrangers 25 = .ok (.invokevirtual 56, 3) := by decide +kernel
theorem dX7_addStrangers_28 : decode cX7_addStrangers 28 = .ok (.aload_n 0, 1) := by decide +kernel
theorem dX7_addStrangers_29 : decode cX7_addStrangers 29 = .ok (.getfield 14, 3) := by decide +kernel
theorem dX7_addStrangers_32 : decode cX7_addStrangers 32 = .ok (.aload_n 1, 1) := by decide +kernel
theorem dX7_addStrangers_33 : decode cX7_addStrangers 33 = .ok (.getfield 59, 3) := by decide +kernel
theorem dX7_addStrangers_36 : decode cX7_addStrangers 36 = .ok (.iload_n 2, 1) := by decide +kernel
theorem dX7_addStrangers_37 : decode cX7_addStrangers 37 = .ok (.aload_n 1, 1) := by decide +kernel
theorem dX7_addStrangers_38 : decode cX7_addStrangers 38 = .ok (.getfield 62, 3) := by decide +kernel
theorem dX7_addStrangers_41 : decode cX7_addStrangers 41 = .ok (.iload_n 3, 1) := by decide +kernel
theorem dX7_addStrangers_42 : decode cX7_addStrangers 42 = .ok (.iaload, 1) := by decide +kernel
theorem dX7_addStrangers_43 : decode cX7_addStrangers 43 = .ok (.invokevirtual 63, 3) := by decide +kernel
theorem dX7_addStrangers_46 : decode cX7_addStrangers 46 = .ok (.aload_n 0, 1) := by decide +kernel
theorem dX7_addStrangers_47 : decode cX7_addStrangers 47 = .ok (.invokevirtual 67, 3) := by decide +kernel
theorem dX7_addStrangers_50 : decode cX7_addStrangers 50 = .ok (.iload_n 2, 1) := by decide +kernel
theorem dX7_addStrangers_51 : decode cX7_addStrangers 51 = .ok (.aload_n 1, 1) := by decide +kernel
theorem dX7_addStrangers_52 : decode cX7_addStrangers 52 = .ok (.getfield 62, 3) := by decide +kernel
theorem dX7_addStrangers_55 : decode cX7_addStrangers 55 = .ok (.iload_n 3, 1) := by decide +kernel
theorem dX7_addStrangers_56 : decode cX7_addStrangers 56 = .ok (.iaload, 1) := by decide +kernel
theorem dX7_addStrangers_57 : decode cX7_addStrangers 57 = .ok (.iadd, 1) := by decide +kernel
theorem dX7_addStrangers_58 : decode cX7_addStrangers 58 = .ok (.istore_n 2, 1) := by decide +kernel
theorem dX7_addStrangers_59 : decode cX7_addStrangers 59 = .ok (.iinc 3 1, 3) := by decide +kernel
theorem dX7_addStrangers_62 : decode cX7_addStrangers 62 = .ok (.goto (-58), 3) := by decide +kernel
theorem dX7_addStrangers_65 : decode cX7_addStrangers 65 = .ok (.return_, 1) := by decide +kernel
theorem dX7_endFile_0 : decode cX7_endFile 0 = .ok (.aload_n 0, 1) := by decide +kernel
theorem dX7_endFile_1 : decode cX7_endFile 1 = .ok (.getfield 14, 3) := by decide +kernel
theorem dX7_endFile_4 : decode cX7_endFile 4 = .ok (.iconst 4, 1) := by decide +kernel
theorem dX7_endFile_5 : decode cX7_endFile 5 = .ok (.aload_n 0, 1) := by decide +kernel
theorem dX7_endFile_6 : decode cX7_endFile 6 = .ok (.getfield 14, 3) := by decide +kernel
theorem dX7_endFile_9 : decode cX7_endFile 9 = .ok (.getfield 43, 3) := by decide +kernel
theorem dX7_endFile_12 : decode cX7_endFile 12 = .ok (.bipush 8, 2) := by decide +kernel
theorem dX7_endFile_14 : decode cX7_endFile 14 = .ok (.isub, 1) := by decide +kernel
theorem dX7_endFile_15 : decode cX7_endFile 15 = .ok (.invokevirtual 46, 3) := by decide +kernel
theorem dX7_endFile_18 : decode cX7_endFile 18 = .ok (.return_, 1) := by decide +kernel
theorem dX7_tellChunk_0 : decode cX7_tellChunk 0 = .ok (.iload_n 1, 1) := by decide +kernel
theorem dX7_tellChunk_1 : decode cX7_tellChunk 1 = .ok (.ifCond .lt 20, 3) := by decide +kernel
theorem dX7_tellChunk_4 : decode cX7_tellChunk 4 = .ok (.iload_n 1, 1) := by decide +kernel
theorem dX7_tellChunk_5 : decode cX7_tellChunk 5 = .ok (.aload_n 0, 1) := by decide +kernel
theorem dX7_tellChunk_6 : decode cX7_tellChunk 6 = .ok (.getfield 30, 3) := by decide +kernel
theorem dX7_tellChunk_9 : decode cX7_tellChunk 9 = .ok (.if_icmp .ge 12, 3) := by decide +kernel
theorem dX7_tellChunk_12 : decode cX7_tellChunk 12 = .ok (.iload_n 1, 1) := by decide +kernel
theorem dX7_tellChunk_13 : decode cX7_tellChunk 13 = .ok (.aload_n 0, 1) := by decide +kernel
theorem dX7_tellChunk_14 : decode cX7_tellChunk 14 = .ok (.getfield 20, 3) := by decide +kernel
theorem dX7_tellChunk_17 : decode cX7_tellChunk 17 = .ok (.arraylength, 1) := by decide +kernel
theorem dX7_tellChunk_18 : decode cX7_tellChunk 18 = .ok (.if_icmp .lt 6, 3) := by decide +kernel
theorem dX7_tellChunk_21 : decode cX7_tellChunk 21 = .ok (.bipush (-2), 2) := by decide +kernel
theorem dX7_tellChunk_23 : decode cX7_tellChunk 23 = .ok (.ireturn, 1) := by decide +kernel
theorem dX7_tellChunk_24 : decode cX7_tellChunk 24 = .ok (.iload_n 2, 1) := by decide +kernel
theorem dX7_tellChunk_25 : decode cX7_tellChunk 25 = .ok (.lookupswitch 41 #[(0, 27), (1, 34)], 27) := by decide +kernel
theorem dX7_tellChunk_52 : decode cX7_tellChunk 52 = .ok (.aload_n 0, 1) := by decide +kernel
theorem dX7_tellChunk_53 : decode cX7_tellChunk 53 = .ok (.getfield 20, 3) := by decide +kernel
theorem dX7_tellChunk_56 : decode cX7_tellChunk 56 = .ok (.iload_n 1, 1) := by decide +kernel
theorem dX7_tellChunk_57 : decode cX7_tellChunk 57 = .ok (.iaload, 1) := by decide +kernel
theorem dX7_tellChunk_58 : decode cX7_tellChunk 58 = .ok (.ireturn, 1) := by decide +kernel
theorem dX7_tellChunk_59 : decode cX7_tellChunk 59 = .ok (.aload_n 0, 1) := by decide +kernel
theorem dX7_tellChunk_60 : decode cX7_tellChunk 60 = .ok (.getfield 24, 3) := by decide +kernel
theorem dX7_tellChunk_63 : decode cX7_tellChunk 63 = .ok (.iload_n 1, 1) := by decide +kernel
theorem dX7_tellChunk_64 : decode cX7_tellChunk 64 = .ok (.iaload, 1) := by decide +kernel
theorem dX7_tellChunk_65 : decode cX7_tellChunk 65 = .ok (.ireturn, 1) := by decide +kernel
theorem dX7_tellChunk_66 : decode cX7_tellChunk 66 = .ok (.aload_n 0, 1) := by decide +kernel
theorem dX7_tellChunk_67 : decode cX7_tellChunk 67 = .ok (.getfield 27, 3) := by decide +kernel
theorem dX7_tellChunk_70 : decode cX7_tellChunk 70 = .ok (.iload_n 1, 1) := by decide +kernel
theorem dX7_tellChunk_71 : decode cX7_tellChunk 71 = .ok (.iaload, 1) := by decide +kernel
theorem dX7_tellChunk_72 : decode cX7_tellChunk 72 = .ok (.ireturn, 1) := by decide +kernel
theorem dX8_init_0 : decode cX8_init 0 = .ok (.aload_n 0, 1) := by decide +kernel
theorem dX8_init_1 : decode cX8_init 1 = .ok (.invokespecial 3, 3) := by decide +kernel
theorem dX8_init_4 : decode cX8_init 4 = .ok (.aload_n 0, 1) := by decide +kernel
theorem dX8_init_5 : decode cX8_init 5 = .ok (.new 9, 3) := by decide +kernel
theorem dX8_init_8 : decode cX8_init 8 = .ok (.dup, 1) := by decide +kernel
theorem dX8_init_9 : decode cX8_init 9 = .ok (.invokespecial 11, 3) := by decide +kernel
theorem dX8_init_12 : decode cX8_init 12 = .ok (.putfield 12, 3) := by decide +kernel
theorem dX8_init_15 : decode cX8_init 15 = .ok (.aload_n 0, 1) := by decide +kernel
theorem dX8_init_16 : decode cX8_init 16 = .ok (.new 16, 3) := by decide +kernel
theorem dX8_init_19 : decode cX8_init 19 = .ok (.dup, 1) := by decide +kernel
theorem dX8_init_20 : decode cX8_init 20 = .ok (.invokespecial 18, 3) := by decide +kernel
theorem dX8_init_23 : decode cX8_init 23 = .ok (.putfield 19, 3) := by decide +kernel
theorem dX8_init_26 : decode cX8_init 26 = .ok (.aload_n 0, 1) := by decide +kernel
theorem dX8_init_27 : decode cX8_init 27 = .ok (.aload_n 0, 1) := by decide +kernel
theorem dX8_init_28 : decode cX8_init 28 = .ok (.getfield 12, 3) := by decide +kernel
theorem dX8_init_31 : decode cX8_init 31 = .ok (.getfield 23, 3) := by decide +kernel
theorem dX8_init_34 : decode cX8_init 34 = .ok (.putfield 27, 3) := by decide +kernel
theorem dX8_init_37 : decode cX8_init 37 = .ok (.aload_n 0, 1) := by decide +kernel
theorem dX8_init_38 : decode cX8_init 38 = .ok (.aload_n 0, 1) := by decide +kernel
theorem dX8_init_39 : decode cX8_init 39 = .ok (.getfield 19, 3) := by decide +kernel
theorem dX8_init_42 : decode cX8_init 42 = .ok (.getfield 30, 3) := by decide +kernel
theorem dX8_init_45 : decode cX8_init 45 = .ok (.putfield 31, 3) := by decide +kernel
theorem dX8_init_48 : decode cX8_init 48 = .ok (.aload_n 0, 1) := by decide +kernel
theorem dX8_init_49 : decode cX8_init 49 = .ok (.new 34, 3) := by decide +kernel
theorem dX8_init_52 : decode cX8_init 52 = .ok (.dup, 1) := by decide +kernel
theorem dX8_init_53 : decode cX8_init 53 = .ok (.sipush 8000, 3) := by decide +kernel
theorem dX8_init_56 : decode cX8_init 56 = .ok (.invokespecial 36, 3) := by decide +kernel
theorem dX8_init_59 : decode cX8_init 59 = .ok (.putfield 39, 3) := by decide +kernel
theorem dX8_init_62 : decode cX8_init 62 = .ok (.aload_n 0, 1) := by decide +kernel
theorem dX8_init_63 : decode cX8_init 63 = .ok (.new 34, 3) := by decide +kernel
theorem dX8_init_66 : decode cX8_init 66 = .ok (.dup, 1) := by decide +kernel
theorem dX8_init_67 : decode cX8_init 67 = .ok (.sipush 3860, 3) := by decide +kernel
theorem dX8_init_70 : decode cX8_init 70 = .ok (.invokespecial 36, 3) := by decide +kernel
theorem dX8_init_73 : decode cX8_init 73 = .ok (.putfield 42, 3) := by decide +kernel
theorem dX8_init_76 : decode cX8_init 76 = .ok (.aload_n 0, 1) := by decide +kernel
theorem dX8_init_77 : decode cX8_init 77 = .ok (.new 45, 3) := by decide +kernel
theorem dX8_init_80 : decode cX8_init 80 = .ok (.dup, 1) := by decide +kernel
theorem dX8_init_81 : decode cX8_init 81 = .ok (.invokespecial 47, 3) := by decide +kernel
theorem dX8_init_84 : decode cX8_init 84 = .ok (.putfield 48, 3) := by decide +kernel
theorem dX8_init_87 : decode cX8_init 87 = .ok (.aload_n 0, 1) := by decide +kernel
theorem dX8_init_88 : decode cX8_init 88 = .ok (.new 52, 3) := by decide +kernel
theorem dX8_init_91 : decode cX8_init 91 = .ok (.dup, 1) := by decide +kernel
theorem dX8_init_92 : decode cX8_init 92 = .ok (.invokespecial 54, 3) := by decide +kernel
theorem dX8_init_95 : decode cX8_init 95 = .ok (.putfield 55, 3) := by decide +kernel
theorem dX8_init_98 : decode cX8_init 98 = .ok (.aload_n 0, 1) := by decide +kernel
theorem dX8_init_99 : decode cX8_init 99 = .ok (.new 59, 3) := by decide +kernel
theorem dX8_init_102 : decode cX8_init 102 = .ok (.dup, 1) := by decide +kernel
theorem dX8_init_103 : decode cX8_init 103 = .ok (.invokespecial 61, 3) := by decide +kernel
theorem dX8_init_106 : decode cX8_init 106 = .ok (.putfield 62, 3) := by decide +kernel
theorem dX8_init_109 : decode cX8_init 109 = .ok (.aload_n 0, 1) := by decide +kernel
theorem dX8_init_110 : decode cX8_init 110 = .ok (.new 59, 3) := by decide +kernel
theorem dX8_init_113 : decode cX8_init 113 = .ok (.dup, 1) := by decide +kernel
theorem dX8_init_114 : decode cX8_init 114 = .ok (.invokespecial 61, 3) := by decide +kernel
theorem dX8_init_117 : decode cX8_init 117 = .ok (.putfield 66, 3) := by decide +kernel
theorem dX8_init_120 : decode cX8_init 120 = .ok (.aload_n 0, 1) := by decide +kernel
theorem dX8_init_121 : decode cX8_init 121 = .ok (.new 69, 3) := by decide +kernel
theorem dX8_init_124 : decode cX8_init 124 = .ok (.dup, 1) := by decide +kernel
theorem dX8_init_125 : decode cX8_init 125 = .ok (.invokespecial 71, 3) := by decide +kernel
theorem dX8_init_128 : decode cX8_init 128 = .ok (.putfield 72, 3) := by decide +kernel
theorem dX8_init_131 : decode cX8_init 131 = .ok (.aload_n 0, 1) := by decide +kernel
theorem dX8_init_132 : decode cX8_init 132 = .ok (.new 69, 3) := by decide +kernel
theorem dX8_init_135 : decode cX8_init 135 = .ok (.dup, 1) := by decide +kernel
theorem dX8_init_136 : decode cX8_init 136 = .ok (.invokespecial 71, 3) := by decide +kernel
theorem dX8_init_139 : decode cX8_init 139 = .ok (.putfield 76, 3) := by decide +kernel
theorem dX8_init_142 : decode cX8_init 142 = .ok (.aload_n 0, 1) := by decide +kernel
theorem dX8_init_143 : decode cX8_init 143 = .ok (.iconst 0, 1) := by decide +kernel
theorem dX8_init_144 : decode cX8_init 144 = .ok (.putfield 79, 3) := by decide +kernel
theorem dX8_init_147 : decode cX8_init 147 = .ok (.aload_n 0, 1) := by decide +kernel
theorem dX8_init_148 : decode cX8_init 148 = .ok (.bipush (-2), 2) := by decide +kernel
theorem dX8_init_150 : decode cX8_init 150 = .ok (.putfield 83, 3) := by decide +kernel
theorem dX8_init_153 : decode cX8_init 153 = .ok (.aload_n 0, 1) := by decide +kernel
theorem dX8_init_154 : decode cX8_init 154 = .ok (.iconst 0, 1) := by decide +kernel
theorem dX8_init_155 : decode cX8_init 155 = .ok (.putfield 87, 3) := by decide +kernel
theorem dX8_init_158 : decode cX8_init 158 = .ok (.aload_n 0, 1) := by decide +kernel
theorem dX8_init_159 : decode cX8_init 159 = .ok (.bipush (-2), 2) := by decide +kernel
theorem dX8_init_161 : decode cX8_init 161 = .ok (.putfield 90, 3) := by decide +kernel
theorem dX8_init_164 : decode cX8_init 164 = .ok (.return_, 1) := by decide +kernel
theorem dX8_feed_0 : decode cX8_feed 0 = .ok (.aload_n 0, 1) := by decide +kernel
theorem dX8_feed_1 : decode cX8_feed 1 = .ok (.getfield 27, 3) := by decide +kernel
theorem dX8_feed_4 : decode cX8_feed 4 = .ok (.invokevirtual 93, 3) := by decide +kernel
theorem dX8_feed_7 : decode cX8_feed 7 = .ok (.bipush 20, 2) := by decide +kernel
theorem dX8_feed_9 : decode cX8_feed 9 = .ok (.if_icmp .ge 6, 3) := by decide +kernel
theorem dX8_feed_12 : decode cX8_feed 12 = .ok (.bipush (-3), 2) := by decide +kernel
theorem dX8_feed_14 : decode cX8_feed 14 = .ok (.ireturn, 1) := by decide +kernel
theorem dX8_feed_15 : decode cX8_feed 15 = .ok (.aload_n 0, 1) := by decide +kernel
theorem dX8_feed_16 : decode cX8_feed 16 = .ok (.getfield 27, 3) := by decide +kernel
theorem dX8_feed_19 : decode cX8_feed 19 = .ok (.iload_n 1, 1) := by decide +kernel
theorem dX8_feed_20 : decode cX8_feed 20 = .ok (.iconst 4, 1) := by decide +kernel
theorem dX8_feed_21 : decode cX8_feed 21 = .ok (.invokevirtual 97, 3) := by decide +kernel
theorem dX8_feed_24 : decode cX8_feed 24 = .ok (.aload_n 0, 1) := by decide +kernel
theorem dX8_feed_25 : decode cX8_feed 25 = .ok (.getfield 27, 3) := by decide +kernel
theorem dX8_feed_28 : decode cX8_feed 28 = .ok (.iload_n 2, 1) := by decide +kernel
theorem dX8_feed_29 : decode cX8_feed 29 = .ok (.iconst 4, 1) := by decide +kernel
theorem dX8_feed_30 : decode cX8_feed 30 = .ok (.invokevirtual 97, 3) := by decide +kernel
theorem dX8_feed_33 : decode cX8_feed 33 = .ok (.aload_n 0, 1) := by decide +kernel
theorem dX8_feed_34 : decode cX8_feed 34 = .ok (.getfield 27, 3) := by decide +kernel
theorem dX8_feed_37 : decode cX8_feed 37 = .ok (.iload_n 3, 1) := by decide +kernel
theorem dX8_feed_38 : decode cX8_feed 38 = .ok (.iconst 4, 1) := by decide +kernel
theorem dX8_feed_39 : decode cX8_feed 39 = .ok (.invokevirtual 97, 3) := by decide +kernel
theorem dX8_feed_42 : decode cX8_feed 42 = .ok (.aload_n 0, 1) := by decide +kernel
theorem dX8_feed_43 : decode cX8_feed 43 = .ok (.getfield 27, 3) := by decide +kernel
theorem dX8_feed_46 : decode cX8_feed 46 = .ok (.iload 4, 2) := by decide +kernel
theorem dX8_feed_48 : decode cX8_feed 48 = .ok (.iconst 4, 1) := by decide +kernel
theorem dX8_feed_49 : decode cX8_feed 49 = .ok (.invokevirtual 97, 3) := by decide +kernel
theorem dX8_feed_52 : decode cX8_feed 52 = .ok (.aload_n 0, 1) := by decide +kernel
theorem dX8_feed_53 : decode cX8_feed 53 = .ok (.getfield 27, 3) := by decide +kernel
theorem dX8_feed_56 : decode cX8_feed 56 = .ok (.iload 5, 2) := by decide +kernel
theorem dX8_feed_58 : decode cX8_feed 58 = .ok (.iconst 4, 1) := by decide +kernel
theorem dX8_feed_59 : decode cX8_feed 59 = .ok (.invokevirtual 97, 3) := by decide +kernel
theorem dX8_feed_62 : decode cX8_feed 62 = .ok (.aload_n 0, 1) := by decide +kernel
theorem dX8_feed_63 : decode cX8_feed 63 = .ok (.getfield 27, 3) := by decide +kernel
theorem dX8_feed_66 : decode cX8_feed 66 = .ok (.getfield 101, 3) := by decide +kernel
theorem dX8_feed_69 : decode cX8_feed 69 = .ok (.ireturn, 1) := by decide +kernel
theorem dX8_end_0 : decode cX8_end 0 = .ok (.iload_n 1, 1) := by decide +kernel
theorem dX8_end_1 : decode cX8_end 1 = .ok (.aload_n 0, 1) := by decide +kernel
theorem dX8_end_2 : decode cX8_end 2 = .ok (.getfield 27, 3) := by decide +kernel
theorem dX8_end_5 : decode cX8_end 5 = .ok (.getfield 101, 3) := by decide +kernel
theorem dX8_end_8 : decode cX8_end 8 = .ok (.invokestatic 104, 3) := by decide +kernel
theorem dX8_end_11 : decode cX8_end 11 = .ok (.ifCond .ne 5, 3) := by decide +kernel
theorem dX8_end_14 : decode cX8_end 14 = .ok (.iconst (-1), 1) := by decide +kernel
theorem dX8_end_15 : decode cX8_end 15 = .ok (.ireturn, 1) := by decide +kernel
theorem dX8_end_16 : decode cX8_end 16 = .ok (.aload_n 0, 1) := by decide +kernel
theorem dX8_end_17 : decode cX8_end 17 = .ok (.getfield 27, 3) := by decide +kernel
theorem dX8_end_20 : decode cX8_end 20 = .ok (.getfield 101, 3) := by decide +kernel
theorem dX8_end_23 : decode cX8_end 23 = .ok (.iload_n 1, 1) := by decide +kernel
theorem dX8_end_24 : decode cX8_end 24 = .ok (.isub, 1) := by decide +kernel
theorem dX8_end_25 : decode cX8_end 25 = .ok (.istore_n 2, 1) := by decide +kernel
theorem dX8_end_26 : decode cX8_end 26 = .ok (.aload_n 0, 1) := by decide +kernel
theorem dX8_end_27 : decode cX8_end 27 = .ok (.getfield 27, 3) := by decide +kernel
theorem dX8_end_30 : decode cX8_end 30 = .ok (.iload_n 1, 1) := by decide +kernel
theorem dX8_end_31 : decode cX8_end 31 = .ok (.invokevirtual 108, 3) := by decide +kernel
theorem dX8_end_34 : decode cX8_end 34 = .ok (.iload_n 2, 1) := by decide +kernel
theorem dX8_end_35 : decode cX8_end 35 = .ok (.ireturn, 1) := by decide +kernel
theorem dX8_out_0 : decode cX8_out 0 = .ok (.iload_n 1, 1) := by decide +kernel
theorem dX8_out_1 : decode cX8_out 1 = .ok (.aload_n 0, 1) := by decide +kernel
theorem dX8_out_2 : decode cX8_out 2 = .ok (.getfield 31, 3) := by decide +kernel
theorem dX8_out_5 : decode cX8_out 5 = .ok (.getfield 101, 3) := by decide +kernel
theorem dX8_out_8 : decode cX8_out 8 = .ok (.iconst 1, 1) := by decide +kernel
theorem dX8_out_9 : decode cX8_out 9 = .ok (.isub, 1) := by decide +kernel
theorem dX8_out_10 : decode cX8_out 10 = .ok (.invokestatic 104, 3) := by decide +kernel
theorem dX8_out_13 : decode cX8_out 13 = .ok (.ifCond .eq 14, 3) := by decide +kernel
theorem dX8_out_16 : decode cX8_out 16 = .ok (.aload_n 0, 1) := by decide +kernel
theorem dX8_out_17 : decode cX8_out 17 = .ok (.getfield 31, 3) := by decide +kernel
theorem dX8_out_20 : decode cX8_out 20 = .ok (.iload_n 1, 1) := by decide +kernel
theorem dX8_out_21 : decode cX8_out 21 = .ok (.invokevirtual 111, 3) := by decide +kernel
theorem dX8_out_24 : decode cX8_out 24 = .ok (.goto 4, 3) := by decide +kernel
theorem dX8_out_27 : decode cX8_out 27 = .ok (.iconst (-1), 1) := by decide +kernel
theorem dX8_out_28 : decode cX8_out 28 = .ok (.ireturn, 1) := by decide +kernel
theorem dX8_back_0 : decode cX8_back 0 = .ok (.aload_n 0, 1) := by decide +kernel
theorem dX8_back_1 : decode cX8_back 1 = .ok (.aload_n 0, 1) := by decide +kernel
theorem dX8_back_2 : decode cX8_back 2 = .ok (.getfield 31, 3) := by decide +kernel
theorem dX8_back_5 : decode cX8_back 5 = .ok (.invokevirtual 115, 3) := by decide +kernel
theorem dX8_back_8 : decode cX8_back 8 = .ok (.ireturn, 1) := by decide +kernel
theorem dX8_story_0 : decode cX8_story 0 = .ok (.aload_n 0, 1) := by decide +kernel
theorem dX8_story_1 : decode cX8_story 1 = .ok (.getfield 27, 3) := by decide +kernel
theorem dX8_story_4 : decode cX8_story 4 = .ok (.getfield 101, 3) := by decide +kernel
theorem dX8_story_7 : decode cX8_story 7 = .ok (.bipush 10, 2) := by decide +kernel
theorem dX8_story_9 : decode cX8_story 9 = .ok (.isub, 1) := by decide +kernel
theorem dX8_story_10 : decode cX8_story 10 = .ok (.istore_n 1, 1) := by decide +kernel
theorem dX8_story_11 : decode cX8_story 11 = .ok (.iload_n 1, 1) := by decide +kernel
theorem dX8_story_12 : decode cX8_story 12 = .ok (.iconst 1, 1) := by decide +kernel
theorem dX8_story_13 : decode cX8_story 13 = .ok (.if_icmp .lt 14, 3) := by decide +kernel
theorem dX8_story_16 : decode cX8_story 16 = .ok (.iload_n 1, 1) := by decide +kernel
theorem dX8_story_17 : decode cX8_story 17 = .ok (.sipush 1000, 3) := by decide +kernel
theorem dX8_story_20 : decode cX8_story 20 = .ok (.if_icmp .gt 7, 3) := by decide +kernel
theorem dX8_story_23 : decode cX8_story 23 = .ok (.iconst 1, 1) := by decide +kernel
theorem dX8_story_24 : decode cX8_story 24 = .ok (.goto 4, 3) := by decide +kernel
theorem dX8_story_27 : decode cX8_story 27 = .ok (.iconst 0, 1) := by decide +kernel
theorem dX8_story_28 : decode cX8_story 28 = .ok (.istore_n 2, 1) := by decide +kernel
theorem dX8_story_29 : decode cX8_story 29 = .ok (.iload_n 2, 1) := by decide +kernel
theorem dX8_story_30 : decode cX8_story 30 = .ok (.ifCond .eq 39, 3) := by decide +kernel
theorem dX8_story_33 : decode cX8_story 33 = .ok (.aload_n 0, 1) := by decide +kernel
theorem dX8_story_34 : decode cX8_story 34 = .ok (.getfield 48, 3) := by decide +kernel
theorem dX8_story_37 : decode cX8_story 37 = .ok (.aload_n 0, 1) := by decide +kernel
theorem dX8_story_38 : decode cX8_story 38 = .ok (.getfield 27, 3) := by decide +kernel
theorem dX8_story_41 : decode cX8_story 41 = .ok (.invokevirtual 119, 3) := by decide +kernel
theorem dX8_story_44 : decode cX8_story 44 = .ok (.aload_n 0, 1) := by decide +kernel
theorem dX8_story_45 : decode cX8_story 45 = .ok (.getfield 62, 3) := by decide +kernel
theorem dX8_story_48 : decode cX8_story 48 = .ok (.aload_n 0, 1) := by decide +kernel
theorem dX8_story_49 : decode cX8_story 49 = .ok (.getfield 48, 3) := by decide +kernel
theorem dX8_story_52 : decode cX8_story 52 = .ok (.invokevirtual 123, 3) := by decide +kernel
theorem dX8_story_55 : decode cX8_story 55 = .ok (.aload_n 0, 1) := by decide +kernel
theorem dX8_story_56 : decode cX8_story 56 = .ok (.getfield 72, 3) := by decide +kernel
theorem dX8_story_59 : decode cX8_story 59 = .ok (.invokevirtual 127, 3) := by decide +kernel
theorem dX8_story_62 : decode cX8_story 62 = .ok (.aload_n 0, 1) := by decide +kernel
theorem dX8_story_63 : decode cX8_story 63 = .ok (.getfield 55, 3) := by decide +kernel
theorem dX8_story_66 : decode cX8_story 66 = .ok (.invokevirtual 130, 3) := by decide +kernel
theorem dX8_story_69 : decode cX8_story 69 = .ok (.aload_n 0, 1) := by decide +kernel
theorem dX8_story_70 : decode cX8_story 70 = .ok (.getfield 27, 3) := by decide +kernel
theorem dX8_story_73 : decode cX8_story 73 = .ok (.invokevirtual 131, 3) := by decide +kernel
theorem dX8_story_76 : decode cX8_story 76 = .ok (.iload_n 2, 1) := by decide +kernel
theorem dX8_story_77 : decode cX8_story 77 = .ok (.ifCond .eq 7, 3) := by decide +kernel
theorem dX8_story_80 : decode cX8_story 80 = .ok (.iload_n 1, 1) := by decide +kernel
theorem dX8_story_81 : decode cX8_story 81 = .ok (.goto 4, 3) := by decide +kernel
theorem dX8_story_84 : decode cX8_story 84 = .ok (.iconst (-1), 1) := by decide +kernel
theorem dX8_story_85 : decode cX8_story 85 = .ok (.ireturn, 1) := by decide +kernel
theorem dX8_poke_0 : decode cX8_poke 0 = .ok (.aload_n 0, 1) := by decide +kernel
theorem dX8_poke_1 : decode cX8_poke 1 = .ok (.invokevirtual 132, 3) := by decide +kernel
theorem dX8_poke_4 : decode cX8_poke 4 = .ok (.ifCond .eq 6, 3) := by decide +kernel
theorem dX8_poke_7 : decode cX8_poke 7 = .ok (.bipush (-4), 2) := by decide +kernel
theorem dX8_poke_9 : decode cX8_poke 9 = .ok (.ireturn, 1) := by decide +kernel
theorem dX8_poke_10 : decode cX8_poke 10 = .ok (.iload_n 1, 1) := by decide +kernel
theorem dX8_poke_11 : decode cX8_poke 11 = .ok (.aload_n 0, 1) := by decide +kernel
theorem dX8_poke_12 : decode cX8_poke 12 = .ok (.getfield 62, 3) := by decide +kernel
theorem dX8_poke_15 : decode cX8_poke 15 = .ok (.getfield 136, 3) := by decide +kernel
theorem dX8_poke_18 : decode cX8_poke 18 = .ok (.iconst 1, 1) := by decide +kernel
theorem dX8_poke_19 : decode cX8_poke 19 = .ok (.isub, 1) := by decide +kernel
theorem dX8_poke_20 : decode cX8_poke 20 = .ok (.invokestatic 104, 3) := by decide +kernel
theorem dX8_poke_23 : decode cX8_poke 23 = .ok (.ifCond .eq 13, 3) := by decide +kernel
theorem dX8_poke_26 : decode cX8_poke 26 = .ok (.iload_n 2, 1) := by decide +kernel
theorem dX8_poke_27 : decode cX8_poke 27 = .ok (.sipush 255, 3) := by decide +kernel
theorem dX8_poke_30 : decode cX8_poke 30 = .ok (.invokestatic 104, 3) := by decide +kernel
theorem dX8_poke_33 : decode cX8_poke 33 = .ok (.ifCond .ne 5, 3) := by decide +kernel
theorem dX8_poke_36 : decode cX8_poke 36 = .ok (.iconst (-1), 1) := by decide +kernel
theorem dX8_poke_37 : decode cX8_poke 37 = .ok (.ireturn, 1) := by decide +kernel
theorem dX8_poke_38 : decode cX8_poke 38 = .ok (.aload_n 0, 1) := by decide +kernel
theorem dX8_poke_39 : decode cX8_poke 39 = .ok (.getfield 62, 3) := by decide +kernel
theorem dX8_poke_42 : decode cX8_poke 42 = .ok (.iload_n 1, 1) := by decide +kernel
theorem dX8_poke_43 : decode cX8_poke 43 = .ok (.invokevirtual 137, 3) := by decide +kernel
theorem dX8_poke_46 : decode cX8_poke 46 = .ok (.istore_n 3, 1) := by decide +kernel
theorem dX8_poke_47 : decode cX8_poke 47 = .ok (.aload_n 0, 1) := by decide +kernel
theorem dX8_poke_48 : decode cX8_poke 48 = .ok (.getfield 62, 3) := by decide +kernel
theorem dX8_poke_51 : decode cX8_poke 51 = .ok (.iload_n 1, 1) := by decide +kernel
theorem dX8_poke_52 : decode cX8_poke 52 = .ok (.iload_n 2, 1) := by decide +kernel
theorem dX8_poke_53 : decode cX8_poke 53 = .ok (.invokevirtual 140, 3) := by decide +kernel
theorem dX8_poke_56 : decode cX8_poke 56 = .ok (.iload_n 3, 1) := by decide +kernel
theorem dX8_poke_57 : decode cX8_poke 57 = .ok (.ireturn, 1) := by decide +kernel
theorem dX8_peek_0 : decode cX8_peek 0 = .ok (.aload_n 0, 1) := by decide +kernel
theorem dX8_peek_1 : decode cX8_peek 1 = .ok (.invokevirtual 132, 3) := by decide +kernel
theorem dX8_peek_4 : decode cX8_peek 4 = .ok (.ifCond .eq 6, 3) := by decide +kernel
theorem dX8_peek_7 : decode cX8_peek 7 = .ok (.bipush (-4), 2) := by decide +kernel
theorem dX8_peek_9 : decode cX8_peek 9 = .ok (.ireturn, 1) := by decide +kernel
theorem dX8_peek_10 : decode cX8_peek 10 = .ok (.iload_n 1, 1) := by decide +kernel
theorem dX8_peek_11 : decode cX8_peek 11 = .ok (.aload_n 0, 1) := by decide +kernel
theorem dX8_peek_12 : decode cX8_peek 12 = .ok (.getfield 62, 3) := by decide +kernel
theorem dX8_peek_15 : decode cX8_peek 15 = .ok (.getfield 136, 3) := by decide +kernel
theorem dX8_peek_18 : decode cX8_peek 18 = .ok (.iconst 1, 1) := by decide +kernel
theorem dX8_peek_19 : decode cX8_peek 19 = .ok (.isub, 1) := by decide +kernel
theorem dX8_peek_20 : decode cX8_peek 20 = .ok (.invokestatic 104, 3) := by decide +kernel
theorem dX8_peek_23 : decode cX8_peek 23 = .ok (.ifCond .eq 14, 3) := by decide +kernel
theorem dX8_peek_26 : decode cX8_peek 26 = .ok (.aload_n 0, 1) := by decide +kernel
theorem dX8_peek_27 : decode cX8_peek 27 = .ok (.getfield 62, 3) := by decide +kernel
theorem dX8_peek_30 : decode cX8_peek 30 = .ok (.iload_n 1, 1) := by decide +kernel
theorem dX8_peek_31 : decode cX8_peek 31 = .ok (.invokevirtual 137, 3) := by decide +kernel
theorem dX8_peek_34 : decode cX8_peek 34 = .ok (.goto 4, 3) := by decide +kernel
theorem dX8_peek_37 : decode cX8_peek 37 = .ok (.iconst (-1), 1) := by decide +kernel
theorem dX8_peek_38 : decode cX8_peek 38 = .ok (.ireturn, 1) := by decide +kernel
theorem dX8_jump_0 : decode cX8_jump 0 = .ok (.aload_n 0, 1) := by decide +kernel
theorem dX8_jump_1 : decode cX8_jump 1 = .ok (.invokevirtual 132, 3) := by decide +kernel
theorem dX8_jump_4 : decode cX8_jump 4 = .ok (.ifCond .eq 6, 3) := by decide +kernel
theorem dX8_jump_7 : decode cX8_jump 7 = .ok (.bipush (-4), 2) := by decide +kernel
theorem dX8_jump_9 : decode cX8_jump 9 = .ok (.ireturn, 1) := by decide +kernel
theorem dX8_jump_10 : decode cX8_jump 10 = .ok (.iload_n 1, 1) := by decide +kernel
theorem dX8_jump_11 : decode cX8_jump 11 = .ok (.ldc 143, 2) := by decide +kernel
theorem dX8_jump_13 : decode cX8_jump 13 = .ok (.invokestatic 104, 3) := by decide +kernel
theorem dX8_jump_16 : decode cX8_jump 16 = .ok (.ifCond .ne 5, 3) := by decide +kernel
theorem dX8_jump_19 : decode cX8_jump 19 = .ok (.iconst (-1), 1) := by decide +kernel
theorem dX8_jump_20 : decode cX8_jump 20 = .ok (.ireturn, 1) := by decide +kernel
theorem dX8_jump_21 : decode cX8_jump 21 = .ok (.aload_n 0, 1) := by decide +kernel
theorem dX8_jump_22 : decode cX8_jump 22 = .ok (.getfield 62, 3) := by decide +kernel
theorem dX8_jump_25 : decode cX8_jump 25 = .ok (.getfield 144, 3) := by decide +kernel
theorem dX8_jump_28 : decode cX8_jump 28 = .ok (.istore_n 2, 1) := by decide +kernel
theorem dX8_jump_29 : decode cX8_jump 29 = .ok (.aload_n 0, 1) := by decide +kernel
theorem dX8_jump_30 : decode cX8_jump 30 = .ok (.getfield 62, 3) := by decide +kernel
theorem dX8_jump_33 : decode cX8_jump 33 = .ok (.iload_n 1, 1) := by decide +kernel
theorem dX8_jump_34 : decode cX8_jump 34 = .ok (.putfield 144, 3) := by decide +kernel
theorem dX8_jump_37 : decode cX8_jump 37 = .ok (.iload_n 2, 1) := by decide +kernel
theorem dX8_jump_38 : decode cX8_jump 38 = .ok (.ireturn, 1) := by decide +kernel
theorem dX8_call_0 : decode cX8_call 0 = .ok (.aload_n 0, 1) := by decide +kernel
theorem dX8_call_1 : decode cX8_call 1 = .ok (.invokevirtual 132, 3) := by decide +kernel
theorem dX8_call_4 : decode cX8_call 4 = .ok (.ifCond .eq 6, 3) := by decide +kernel
theorem dX8_call_7 : decode cX8_call 7 = .ok (.bipush (-4), 2) := by decide +kernel
theorem dX8_call_9 : decode cX8_call 9 = .ok (.ireturn, 1) := by decide +kernel
theorem dX8_call_10 : decode cX8_call 10 = .ok (.iload_n 2, 1) := by decide +kernel
theorem dX8_call_11 : decode cX8_call 11 = .ok (.bipush (-2), 2) := by decide +kernel
theorem dX8_call_13 : decode cX8_call 13 = .ok (.if_icmp .eq 13, 3) := by decide +kernel
theorem dX8_call_16 : decode cX8_call 16 = .ok (.iload_n 2, 1) := by decide +kernel
theorem dX8_call_17 : decode cX8_call 17 = .ok (.sipush 255, 3) := by decide +kernel
theorem dX8_call_20 : decode cX8_call 20 = .ok (.invokestatic 104, 3) := by decide +kernel
theorem dX8_call_23 : decode cX8_call 23 = .ok (.ifCond .eq 7, 3) := by decide +kernel
theorem dX8_call_26 : decode cX8_call 26 = .ok (.iconst 1, 1) := by decide +kernel
theorem dX8_call_27 : decode cX8_call 27 = .ok (.goto 4, 3) := by decide +kernel
theorem dX8_call_30 : decode cX8_call 30 = .ok (.iconst 0, 1) := by decide +kernel
theorem dX8_call_31 : decode cX8_call 31 = .ok (.istore 5, 2) := by decide +kernel
theorem dX8_call_33 : decode cX8_call 33 = .ok (.iload_n 1, 1) := by decide +kernel
theorem dX8_call_34 : decode cX8_call 34 = .ok (.ldc 143, 2) := by decide +kernel
theorem dX8_call_36 : decode cX8_call 36 = .ok (.invokestatic 104, 3) := by decide +kernel
theorem dX8_call_39 : decode cX8_call 39 = .ok (.ifCond .eq 27, 3) := by decide +kernel
theorem dX8_call_42 : decode cX8_call 42 = .ok (.iload 5, 2) := by decide +kernel
theorem dX8_call_44 : decode cX8_call 44 = .ok (.ifCond .eq 22, 3) := by decide +kernel
theorem dX8_call_47 : decode cX8_call 47 = .ok (.iload_n 3, 1) := by decide +kernel
theorem dX8_call_48 : decode cX8_call 48 = .ok (.bipush 7, 2) := by decide +kernel
theorem dX8_call_50 : decode cX8_call 50 = .ok (.invokestatic 104, 3) := by decide +kernel
theorem dX8_call_53 : decode cX8_call 53 = .ok (.ifCond .eq 13, 3) := by decide +kernel
theorem dX8_call_56 : decode cX8_call 56 = .ok (.iload 4, 2) := by decide +kernel
theorem dX8_call_58 : decode cX8_call 58 = .ok (.bipush 15, 2) := by decide +kernel
theorem dX8_call_60 : decode cX8_call 60 = .ok (.invokestatic 104, 3) := by decide +kernel
theorem dX8_call_63 : decode cX8_call 63 = .ok (.ifCond .ne 5, 3) := by decide +kernel
theorem dX8_call_66 : decode cX8_call 66 = .ok (.iconst (-1), 1) := by decide +kernel
theorem dX8_call_67 : decode cX8_call 67 = .ok (.ireturn, 1) := by decide +kernel
theorem dX8_call_68 : decode cX8_call 68 = .ok (.aload_n 0, 1) := by decide +kernel
theorem dX8_call_69 : decode cX8_call 69 = .ok (.getfield 62, 3) := by decide +kernel
theorem dX8_call_72 : decode cX8_call 72 = .ok (.getfield 147, 3) := by decide +kernel
theorem dX8_call_75 : decode cX8_call 75 = .ok (.bipush 20, 2) := by decide +kernel
theorem dX8_call_77 : decode cX8_call 77 = .ok (.if_icmp .lt 6, 3) := by decide +kernel
theorem dX8_call_80 : decode cX8_call 80 = .ok (.bipush (-3), 2) := by decide +kernel
theorem dX8_call_82 : decode cX8_call 82 = .ok (.ireturn, 1) := by decide +kernel
theorem dX8_call_83 : decode cX8_call 83 = .ok (.aload_n 0, 1) := by decide +kernel
theorem dX8_call_84 : decode cX8_call 84 = .ok (.getfield 62, 3) := by decide +kernel
theorem dX8_call_87 : decode cX8_call 87 = .ok (.aload_n 0, 1) := by decide +kernel
theorem dX8_call_88 : decode cX8_call 88 = .ok (.getfield 62, 3) := by decide +kernel
theorem dX8_call_91 : decode cX8_call 91 = .ok (.getfield 144, 3) := by decide +kernel
theorem dX8_call_94 : decode cX8_call 94 = .ok (.iload_n 2, 1) := by decide +kernel
theorem dX8_call_95 : decode cX8_call 95 = .ok (.iload_n 3, 1) := by decide +kernel
theorem dX8_call_96 : decode cX8_call 96 = .ok (.iload 4, 2) := by decide +kernel
theorem dX8_call_98 : decode cX8_call 98 = .ok (.invokevirtual 150, 3) := by decide +kernel
theorem dX8_call_101 : decode cX8_call 101 = .ok (.aload_n 0, 1) := by decide +kernel
theorem dX8_call_102 : decode cX8_call 102 = .ok (.getfield 62, 3) := by decide +kernel
theorem dX8_call_105 : decode cX8_call 105 = .ok (.iload_n 1, 1) := by decide +kernel
theorem dX8_call_106 : decode cX8_call 106 = .ok (.putfield 144, 3) := by decide +kernel
theorem dX8_call_109 : decode cX8_call 109 = .ok (.aload_n 0, 1) := by decide +kernel
theorem dX8_call_110 : decode cX8_call 110 = .ok (.getfield 62, 3) := by decide +kernel
theorem dX8_call_113 : decode cX8_call 113 = .ok (.getfield 147, 3) := by decide +kernel
theorem dX8_call_116 : decode cX8_call 116 = .ok (.ireturn, 1) := by decide +kernel
theorem dX8_leave_0 : decode cX8_leave 0 = .ok (.aload_n 0, 1) := by decide +kernel
theorem dX8_leave_1 : decode cX8_leave 1 = .ok (.invokevirtual 132, 3) := by decide +kernel
theorem dX8_leave_4 : decode cX8_leave 4 = .ok (.ifCond .eq 6, 3) := by decide +kernel
theorem dX8_leave_7 : decode cX8_leave 7 = .ok (.bipush (-4), 2) := by decide +kernel
theorem dX8_leave_9 : decode cX8_leave 9 = .ok (.ireturn, 1) := by decide +kernel
theorem dX8_leave_10 : decode cX8_leave 10 = .ok (.aload_n 0, 1) := by decide +kernel
theorem dX8_leave_11 : decode cX8_leave 11 = .ok (.getfield 62, 3) := by decide +kernel
theorem dX8_leave_14 : decode cX8_leave 14 = .ok (.invokevirtual 154, 3) := by decide +kernel
theorem dX8_leave_17 : decode cX8_leave 17 = .ok (.astore_n 1, 1) := by decide +kernel
theorem dX8_leave_18 : decode cX8_leave 18 = .ok (.aload_n 1, 1) := by decide +kernel
theorem dX8_leave_19 : decode cX8_leave 19 = .ok (.ifnull 14, 3) := by decide +kernel
theorem dX8_leave_22 : decode cX8_leave 22 = .ok (.aload_n 0, 1) := by decide +kernel
theorem dX8_leave_23 : decode cX8_leave 23 = .ok (.getfield 62, 3) := by decide +kernel
theorem dX8_leave_26 : decode cX8_leave 26 = .ok (.getfield 147, 3) := by decide +kernel
theorem dX8_leave_29 : decode cX8_leave 29 = .ok (.iconst 1, 1) := by decide +kernel
theorem dX8_leave_30 : decode cX8_leave 30 = .ok (.if_icmp .gt 6, 3) := by decide +kernel
theorem dX8_leave_33 : decode cX8_leave 33 = .ok (.bipush (-2), 2) := by decide +kernel
theorem dX8_leave_35 : decode cX8_leave 35 = .ok (.ireturn, 1) := by decide +kernel
theorem dX8_leave_36 : decode cX8_leave 36 = .ok (.aload_n 0, 1) := by decide +kernel
theorem dX8_leave_37 : decode cX8_leave 37 = .ok (.getfield 62, 3) := by decide +kernel
theorem dX8_leave_40 : decode cX8_leave 40 = .ok (.aload_n 1, 1) := by decide +kernel
theorem dX8_leave_41 : decode cX8_leave 41 = .ok (.getfield 158, 3) := by decide +kernel
theorem dX8_leave_44 : decode cX8_leave 44 = .ok (.putfield 144, 3) := by decide +kernel
theorem dX8_leave_47 : decode cX8_leave 47 = .ok (.aload_n 0, 1) := by decide +kernel
theorem dX8_leave_48 : decode cX8_leave 48 = .ok (.getfield 62, 3) := by decide +kernel
theorem dX8_leave_51 : decode cX8_leave 51 = .ok (.dup, 1) := by decide +kernel
theorem dX8_leave_52 : decode cX8_leave 52 = .ok (.getfield 147, 3) := by decide +kernel
theorem dX8_leave_55 : decode cX8_leave 55 = .ok (.iconst 1, 1) := by decide +kernel
theorem dX8_leave_56 : decode cX8_leave 56 = .ok (.isub, 1) := by decide +kernel
theorem dX8_leave_57 : decode cX8_leave 57 = .ok (.putfield 147, 3) := by decide +kernel
theorem dX8_leave_60 : decode cX8_leave 60 = .ok (.aload_n 0, 1) := by decide +kernel
theorem dX8_leave_61 : decode cX8_leave 61 = .ok (.getfield 62, 3) := by decide +kernel
theorem dX8_leave_64 : decode cX8_leave 64 = .ok (.getfield 144, 3) := by decide +kernel
theorem dX8_leave_67 : decode cX8_leave 67 = .ok (.ireturn, 1) := by decide +kernel
theorem dX8_local_0 : decode cX8_local 0 = .ok (.aload_n 0, 1) := by decide +kernel
theorem dX8_local_1 : decode cX8_local 1 = .ok (.invokevirtual 132, 3) := by decide +kernel
theorem dX8_local_4 : decode cX8_local 4 = .ok (.ifCond .eq 6, 3) := by decide +kernel
theorem dX8_local_7 : decode cX8_local 7 = .ok (.bipush (-4), 2) := by decide +kernel
theorem dX8_local_9 : decode cX8_local 9 = .ok (.ireturn, 1) := by decide +kernel
theorem dX8_local_10 : decode cX8_local 10 = .ok (.aload_n 0, 1) := by decide +kernel
theorem dX8_local_11 : decode cX8_local 11 = .ok (.getfield 62, 3) := by decide +kernel
theorem dX8_local_14 : decode cX8_local 14 = .ok (.invokevirtual 154, 3) := by decide +kernel
theorem dX8_local_17 : decode cX8_local 17 = .ok (.astore_n 3, 1) := by decide +kernel
theorem dX8_local_18 : decode cX8_local 18 = .ok (.aload_n 3, 1) := by decide +kernel
theorem dX8_local_19 : decode cX8_local 19 = .ok (.ifnull 25, 3) := by decide +kernel
theorem dX8_local_22 : decode cX8_local 22 = .ok (.iload_n 1, 1) := by decide +kernel
theorem dX8_local_23 : decode cX8_local 23 = .ok (.aload_n 3, 1) := by decide +kernel
theorem dX8_local_24 : decode cX8_local 24 = .ok (.getfield 163, 3) := by decide +kernel
theorem dX8_local_27 : decode cX8_local 27 = .ok (.iconst 1, 1) := by decide +kernel
theorem dX8_local_28 : decode cX8_local 28 = .ok (.isub, 1) := by decide +kernel
theorem dX8_local_29 : decode cX8_local 29 = .ok (.invokestatic 104, 3) := by decide +kernel
theorem dX8_local_32 : decode cX8_local 32 = .ok (.ifCond .eq 12, 3) := by decide +kernel
theorem dX8_local_35 : decode cX8_local 35 = .ok (.iload_n 2, 1) := by decide +kernel
theorem dX8_local_36 : decode cX8_local 36 = .ok (.ldc 166, 2) := by decide +kernel
theorem dX8_local_38 : decode cX8_local 38 = .ok (.invokestatic 104, 3) := by decide +kernel
theorem dX8_local_41 : decode cX8_local 41 = .ok (.ifCond .ne 5, 3) := by decide +kernel
theorem dX8_local_44 : decode cX8_local 44 = .ok (.iconst (-1), 1) := by decide +kernel
theorem dX8_local_45 : decode cX8_local 45 = .ok (.ireturn, 1) := by decide +kernel
theorem dX8_local_46 : decode cX8_local 46 = .ok (.aload_n 3, 1) := by decide +kernel
theorem dX8_local_47 : decode cX8_local 47 = .ok (.iload_n 1, 1) := by decide +kernel
theorem dX8_local_48 : decode cX8_local 48 = .ok (.invokevirtual 167, 3) := by decide +kernel
theorem dX8_local_51 : decode cX8_local 51 = .ok (.istore 4, 2) := by decide +kernel
theorem dX8_local_53 : decode cX8_local 53 = .ok (.aload_n 3, 1) := by decide +kernel
theorem dX8_local_54 : decode cX8_local 54 = .ok (.iload_n 1, 1) := by decide +kernel
theorem dX8_local_55 : decode cX8_local 55 = .ok (.iload_n 2, 1) := by decide +kernel
theorem dX8_local_56 : decode cX8_local 56 = .ok (.invokevirtual 170, 3) := by decide +kernel
theorem dX8_local_59 : decode cX8_local 59 = .ok (.iload 4, 2) := by decide +kernel
theorem dX8_local_61 : decode cX8_local 61 = .ok (.ireturn, 1) := by decide +kernel
theorem dX8_push_0 : decode cX8_push 0 = .ok (.aload_n 0, 1) := by decide +kernel
theorem dX8_push_1 : decode cX8_push 1 = .ok (.invokevirtual 132, 3) := by decide +kernel
theorem dX8_push_4 : decode cX8_push 4 = .ok (.ifCond .eq 6, 3) := by decide +kernel
theorem dX8_push_7 : decode cX8_push 7 = .ok (.bipush (-4), 2) := by decide +kernel
theorem dX8_push_9 : decode cX8_push 9 = .ok (.ireturn, 1) := by decide +kernel
theorem dX8_push_10 : decode cX8_push 10 = .ok (.iload_n 1, 1) := by decide +kernel
theorem dX8_push_11 : decode cX8_push 11 = .ok (.ldc 166, 2) := by decide +kernel
theorem dX8_push_13 : decode cX8_push 13 = .ok (.invokestatic 104, 3) := by decide +kernel
theorem dX8_push_16 : decode cX8_push 16 = .ok (.ifCond .ne 5, 3) := by decide +kernel
theorem dX8_push_19 : decode cX8_push 19 = .ok (.iconst (-1), 1) := by decide +kernel
theorem dX8_push_20 : decode cX8_push 20 = .ok (.ireturn, 1) := by decide +kernel
theorem dX8_push_21 : decode cX8_push 21 = .ok (.aload_n 0, 1) := by decide +kernel
theorem dX8_push_22 : decode cX8_push 22 = .ok (.getfield 62, 3) := by decide +kernel
theorem dX8_push_25 : decode cX8_push 25 = .ok (.invokevirtual 154, 3) := by decide +kernel
theorem dX8_push_28 : decode cX8_push 28 = .ok (.astore_n 2, 1) := by decide +kernel
theorem dX8_push_29 : decode cX8_push 29 = .ok (.aload_n 2, 1) := by decide +kernel
theorem dX8_push_30 : decode cX8_push 30 = .ok (.ifnull 12, 3) := by decide +kernel
theorem dX8_push_33 : decode cX8_push 33 = .ok (.aload_n 2, 1) := by decide +kernel
theorem dX8_push_34 : decode cX8_push 34 = .ok (.getfield 173, 3) := by decide +kernel
theorem dX8_push_37 : decode cX8_push 37 = .ok (.bipush 40, 2) := by decide +kernel
theorem dX8_push_39 : decode cX8_push 39 = .ok (.if_icmp .lt 6, 3) := by decide +kernel
theorem dX8_push_42 : decode cX8_push 42 = .ok (.bipush (-3), 2) := by decide +kernel
theorem dX8_push_44 : decode cX8_push 44 = .ok (.ireturn, 1) := by decide +kernel
theorem dX8_push_45 : decode cX8_push 45 = .ok (.aload_n 2, 1) := by decide +kernel
theorem dX8_push_46 : decode cX8_push 46 = .ok (.iload_n 1, 1) := by decide +kernel
theorem dX8_push_47 : decode cX8_push 47 = .ok (.invokevirtual 176, 3) := by decide +kernel
theorem dX8_push_50 : decode cX8_push 50 = .ok (.aload_n 2, 1) := by decide +kernel
theorem dX8_push_51 : decode cX8_push 51 = .ok (.getfield 173, 3) := by decide +kernel
theorem dX8_push_54 : decode cX8_push 54 = .ok (.ireturn, 1) := by decide +kernel
theorem dX8_pop_0 : decode cX8_pop 0 = .ok (.aload_n 0, 1) := by decide +kernel
theorem dX8_pop_1 : decode cX8_pop 1 = .ok (.invokevirtual 132, 3) := by decide +kernel
theorem dX8_pop_4 : decode cX8_pop 4 = .ok (.ifCond .eq 6, 3) := by decide +kernel
theorem dX8_pop_7 : decode cX8_pop 7 = .ok (.bipush (-4), 2) := by decide +kernel
theorem dX8_pop_9 : decode cX8_pop 9 = .ok (.ireturn, 1) := by decide +kernel
theorem dX8_pop_10 : decode cX8_pop 10 = .ok (.aload_n 0, 1) := by decide +kernel
theorem dX8_pop_11 : decode cX8_pop 11 = .ok (.getfield 62, 3) := by decide +kernel
theorem dX8_pop_14 : decode cX8_pop 14 = .ok (.invokevirtual 154, 3) := by decide +kernel
theorem dX8_pop_17 : decode cX8_pop 17 = .ok (.astore_n 1, 1) := by decide +kernel
theorem dX8_pop_18 : decode cX8_pop 18 = .ok (.aload_n 1, 1) := by decide +kernel
theorem dX8_pop_19 : decode cX8_pop 19 = .ok (.ifnull 10, 3) := by decide +kernel
theorem dX8_pop_22 : decode cX8_pop 22 = .ok (.aload_n 1, 1) := by decide +kernel
theorem dX8_pop_23 : decode cX8_pop 23 = .ok (.getfield 173, 3) := by decide +kernel
theorem dX8_pop_26 : decode cX8_pop 26 = .ok (.ifCond .gt 6, 3) := by decide +kernel
theorem dX8_pop_29 : decode cX8_pop 29 = .ok (.bipush (-2), 2) := by decide +kernel
theorem dX8_pop_31 : decode cX8_pop 31 = .ok (.ireturn, 1) := by decide +kernel
theorem dX8_pop_32 : decode cX8_pop 32 = .ok (.aload_n 1, 1) := by decide +kernel
theorem dX8_pop_33 : decode cX8_pop 33 = .ok (.aload_n 1, 1) := by decide +kernel
theorem dX8_pop_34 : decode cX8_pop 34 = .ok (.invokevirtual 179, 3) := by decide +kernel
theorem dX8_pop_37 : decode cX8_pop 37 = .ok (.iconst 1, 1) := by decide +kernel
theorem dX8_pop_38 : decode cX8_pop 38 = .ok (.isub, 1) := by decide +kernel
theorem dX8_pop_39 : decode cX8_pop 39 = .ok (.invokevirtual 167, 3) := by decide +kernel
theorem dX8_pop_42 : decode cX8_pop 42 = .ok (.istore_n 2, 1) := by decide +kernel
theorem dX8_pop_43 : decode cX8_pop 43 = .ok (.aload_n 1, 1) := by decide +kernel
theorem dX8_pop_44 : decode cX8_pop 44 = .ok (.dup, 1) := by decide +kernel
theorem dX8_pop_45 : decode cX8_pop 45 = .ok (.getfield 173, 3) := by decide +kernel
theorem dX8_pop_48 : decode cX8_pop 48 = .ok (.iconst 1, 1) := by decide +kernel
theorem dX8_pop_49 : decode cX8_pop 49 = .ok (.isub, 1) := by decide +kernel
theorem dX8_pop_50 : decode cX8_pop 50 = .ok (.putfield 173, 3) := by decide +kernel
theorem dX8_pop_53 : decode cX8_pop 53 = .ok (.iload_n 2, 1) := by decide +kernel
theorem dX8_pop_54 : decode cX8_pop 54 = .ok (.ireturn, 1) := by decide +kernel
theorem dX8_frame_0 : decode cX8_frame 0 = .ok (.aload_n 0, 1) := by decide +kernel
theorem dX8_frame_1 : decode cX8_frame 1 = .ok (.invokevirtual 132, 3) := by decide +kernel
theorem dX8_frame_4 : decode cX8_frame 4 = .ok (.ifCond .eq 6, 3) := by decide +kernel
theorem dX8_frame_7 : decode cX8_frame 7 = .ok (.bipush (-4), 2) := by decide +kernel
theorem dX8_frame_9 : decode cX8_frame 9 = .ok (.ireturn, 1) := by decide +kernel
theorem dX8_frame_10 : decode cX8_frame 10 = .ok (.aload_n 0, 1) := by decide +kernel
theorem dX8_frame_11 : decode cX8_frame 11 = .ok (.getfield 62, 3) := by decide +kernel
theorem dX8_frame_14 : decode cX8_frame 14 = .ok (.iload_n 1, 1) := by decide +kernel
theorem dX8_frame_15 : decode cX8_frame 15 = .ok (.invokevirtual 182, 3) := by decide +kernel
theorem dX8_frame_18 : decode cX8_frame 18 = .ok (.astore_n 3, 1) := by decide +kernel
theorem dX8_frame_19 : decode cX8_frame 19 = .ok (.aload_n 3, 1) := by decide +kernel
theorem dX8_frame_20 : decode cX8_frame 20 = .ok (.ifnonnull 6, 3) := by decide +kernel
theorem dX8_frame_23 : decode cX8_frame 23 = .ok (.bipush (-2), 2) := by decide +kernel
theorem dX8_frame_25 : decode cX8_frame 25 = .ok (.ireturn, 1) := by decide +kernel
theorem dX8_frame_26 : decode cX8_frame 26 = .ok (.iload_n 2, 1) := by decide +kernel
theorem dX8_frame_27 : decode cX8_frame 27 = .ok (.bipush 10, 2) := by decide +kernel
theorem dX8_frame_29 : decode cX8_frame 29 = .ok (.if_icmp .lt 28, 3) := by decide +kernel
theorem dX8_frame_32 : decode cX8_frame 32 = .ok (.iload_n 2, 1) := by decide +kernel
theorem dX8_frame_33 : decode cX8_frame 33 = .ok (.bipush 10, 2) := by decide +kernel
theorem dX8_frame_35 : decode cX8_frame 35 = .ok (.isub, 1) := by decide +kernel
theorem dX8_frame_36 : decode cX8_frame 36 = .ok (.aload_n 3, 1) := by decide +kernel
theorem dX8_frame_37 : decode cX8_frame 37 = .ok (.invokevirtual 179, 3) := by decide +kernel
theorem dX8_frame_40 : decode cX8_frame 40 = .ok (.if_icmp .ge 14, 3) := by decide +kernel
theorem dX8_frame_43 : decode cX8_frame 43 = .ok (.aload_n 3, 1) := by decide +kernel
theorem dX8_frame_44 : decode cX8_frame 44 = .ok (.iload_n 2, 1) := by decide +kernel
theorem dX8_frame_45 : decode cX8_frame 45 = .ok (.bipush 10, 2) := by decide +kernel
theorem dX8_frame_47 : decode cX8_frame 47 = .ok (.isub, 1) := by decide +kernel
theorem dX8_frame_48 : decode cX8_frame 48 = .ok (.invokevirtual 167, 3) := by decide +kernel
theorem dX8_frame_51 : decode cX8_frame 51 = .ok (.goto 5, 3) := by decide +kernel
theorem dX8_frame_54 : decode cX8_frame 54 = .ok (.bipush (-2), 2) := by decide +kernel
theorem dX8_frame_56 : decode cX8_frame 56 = .ok (.ireturn, 1) := by decide +kernel
theorem dX8_frame_57 : decode cX8_frame 57 = .ok (.iload_n 2, 1) := by decide +kernel
theorem dX8_frame_58 : decode cX8_frame 58 = .ok (.tableswitch 59 0 4 #[34, 39, 44, 49, 54], 34) := by decide +kernel
theorem dX8_frame_92 : decode cX8_frame 92 = .ok (.aload_n 3, 1) := by decide +kernel
theorem dX8_frame_93 : decode cX8_frame 93 = .ok (.getfield 158, 3) := by decide +kernel
theorem dX8_frame_96 : decode cX8_frame 96 = .ok (.ireturn, 1) := by decide +kernel
theorem dX8_frame_97 : decode cX8_frame 97 = .ok (.aload_n 3, 1) := by decide +kernel
theorem dX8_frame_98 : decode cX8_frame 98 = .ok (.getfield 186, 3) := by decide +kernel
theorem dX8_frame_101 : decode cX8_frame 101 = .ok (.ireturn, 1) := by decide +kernel
theorem dX8_frame_102 : decode cX8_frame 102 = .ok (.aload_n 3, 1) := by decide +kernel
theorem dX8_frame_103 : decode cX8_frame 103 = .ok (.getfield 189, 3) := by decide +kernel
theorem dX8_frame_106 : decode cX8_frame 106 = .ok (.ireturn, 1) := by decide +kernel
theorem dX8_frame_107 : decode cX8_frame 107 = .ok (.aload_n 3, 1) := by decide +kernel
theorem dX8_frame_108 : decode cX8_frame 108 = .ok (.getfield 163, 3) := by decide +kernel
theorem dX8_frame_111 : decode cX8_frame 111 = .ok (.ireturn, 1) := by decide +kernel
theorem dX8_frame_112 : decode cX8_frame 112 = .ok (.aload_n 3, 1) := by decide +kernel
theorem dX8_frame_113 : decode cX8_frame 113 = .ok (.getfield 173, 3) := by decide +kernel
theorem dX8_frame_116 : decode cX8_frame 116 = .ok (.ireturn, 1) := by decide +kernel
theorem dX8_frame_117 : decode cX8_frame 117 = .ok (.iconst (-1), 1) := by decide +kernel
theorem dX8_frame_118 : decode cX8_frame 118 = .ok (.ireturn, 1) := by decide +kernel
theorem dX8_print_0 : decode cX8_print 0 = .ok (.aload_n 0, 1) := by decide +kernel
theorem dX8_print_1 : decode cX8_print 1 = .ok (.invokevirtual 132, 3) := by decide +kernel
theorem dX8_print_4 : decode cX8_print 4 = .ok (.ifCond .eq 5, 3) := by decide +kernel
theorem dX8_print_7 : decode cX8_print 7 = .ok (.lconst 0, 1) := by decide +kernel
theorem dX8_print_8 : decode cX8_print 8 = .ok (.lreturn, 1) := by decide +kernel
theorem dX8_print_9 : decode cX8_print 9 = .ok (.ldc2_w 192, 3) := by decide +kernel
theorem dX8_print_12 : decode cX8_print 12 = .ok (.lstore_n 1, 1) := by decide +kernel
theorem dX8_print_13 : decode cX8_print 13 = .ok (.iconst 0, 1) := by decide +kernel
theorem dX8_print_14 : decode cX8_print 14 = .ok (.istore_n 3, 1) := by decide +kernel
theorem dX8_print_15 : decode cX8_print 15 = .ok (.iload_n 3, 1) := by decide +kernel
theorem dX8_print_16 : decode cX8_print 16 = .ok (.aload_n 0, 1) := by decide +kernel
theorem dX8_print_17 : decode cX8_print 17 = .ok (.getfield 62, 3) := by decide +kernel
theorem dX8_print_20 : decode cX8_print 20 = .ok (.getfield 136, 3) := by decide +kernel
theorem dX8_print_23 : decode cX8_print 23 = .ok (.if_icmp .ge 22, 3) := by decide +kernel
theorem dX8_print_26 : decode cX8_print 26 = .ok (.lload_n 1, 1) := by decide +kernel
theorem dX8_print_27 : decode cX8_print 27 = .ok (.aload_n 0, 1) := by decide +kernel
theorem dX8_print_28 : decode cX8_print 28 = .ok (.getfield 62, 3) := by decide +kernel
theorem dX8_print_31 : decode cX8_print 31 = .ok (.iload_n 3, 1) := by decide +kernel
theorem dX8_print_32 : decode cX8_print 32 = .ok (.invokevirtual 137, 3) := by decide +kernel
theorem dX8_print_35 : decode cX8_print 35 = .ok (.invokestatic 194, 3) := by decide +kernel
theorem dX8_print_38 : decode cX8_print 38 = .ok (.lstore_n 1, 1) := by decide +kernel
theorem dX8_print_39 : decode cX8_print 39 = .ok (.iinc 3 1, 3) := by decide +kernel
theorem dX8_print_42 : decode cX8_print 42 = .ok (.goto (-27), 3) := by decide +kernel
theorem dX8_print_45 : decode cX8_print 45 = .ok (.aload_n 0, 1) := by decide +kernel
theorem dX8_print_46 : decode cX8_print 46 = .ok (.getfield 42, 3) := by decide +kernel
theorem dX8_print_49 : decode cX8_print 49 = .ok (.invokevirtual 131, 3) := by decide +kernel
theorem dX8_print_52 : decode cX8_print 52 = .ok (.aload_n 0, 1) := by decide +kernel
theorem dX8_print_53 : decode cX8_print 53 = .ok (.getfield 42, 3) := by decide +kernel
theorem dX8_print_56 : decode cX8_print 56 = .ok (.aload_n 0, 1) := by decide +kernel
theorem dX8_print_57 : decode cX8_print 57 = .ok (.getfield 62, 3) := by decide +kernel
theorem dX8_print_60 : decode cX8_print 60 = .ok (.getfield 144, 3) := by decide +kernel
theorem dX8_print_63 : decode cX8_print 63 = .ok (.iconst 3, 1) := by decide +kernel
theorem dX8_print_64 : decode cX8_print 64 = .ok (.invokevirtual 97, 3) := by decide +kernel
theorem dX8_print_67 : decode cX8_print 67 = .ok (.aload_n 0, 1) := by decide +kernel
theorem dX8_print_68 : decode cX8_print 68 = .ok (.getfield 62, 3) := by decide +kernel
theorem dX8_print_71 : decode cX8_print 71 = .ok (.aload_n 0, 1) := by decide +kernel
theorem dX8_print_72 : decode cX8_print 72 = .ok (.getfield 42, 3) := by decide +kernel
theorem dX8_print_75 : decode cX8_print 75 = .ok (.invokevirtual 198, 3) := by decide +kernel
theorem dX8_print_78 : decode cX8_print 78 = .ok (.iconst 0, 1) := by decide +kernel
theorem dX8_print_79 : decode cX8_print 79 = .ok (.istore_n 3, 1) := by decide +kernel
theorem dX8_print_80 : decode cX8_print 80 = .ok (.iload_n 3, 1) := by decide +kernel
theorem dX8_print_81 : decode cX8_print 81 = .ok (.aload_n 0, 1) := by decide +kernel
theorem dX8_print_82 : decode cX8_print 82 = .ok (.getfield 42, 3) := by decide +kernel
theorem dX8_print_85 : decode cX8_print 85 = .ok (.getfield 101, 3) := by decide +kernel
theorem dX8_print_88 : decode cX8_print 88 = .ok (.if_icmp .ge 22, 3) := by decide +kernel
theorem dX8_print_91 : decode cX8_print 91 = .ok (.lload_n 1, 1) := by decide +kernel
theorem dX8_print_92 : decode cX8_print 92 = .ok (.aload_n 0, 1) := by decide +kernel
theorem dX8_print_93 : decode cX8_print 93 = .ok (.getfield 42, 3) := by decide +kernel
theorem dX8_print_96 : decode cX8_print 96 = .ok (.iload_n 3, 1) := by decide +kernel
theorem dX8_print_97 : decode cX8_print 97 = .ok (.invokevirtual 111, 3) := by decide +kernel
theorem dX8_print_100 : decode cX8_print 100 = .ok (.invokestatic 194, 3) := by decide +kernel
theorem dX8_print_103 : decode cX8_print 103 = .ok (.lstore_n 1, 1) := by decide +kernel
theorem dX8_print_104 : decode cX8_print 104 = .ok (.iinc 3 1, 3) := by decide +kernel
theorem dX8_print_107 : decode cX8_print 107 = .ok (.goto (-27), 3) := by decide +kernel
theorem dX8_print_110 : decode cX8_print 110 = .ok (.lload_n 1, 1) := by decide +kernel
theorem dX8_print_111 : decode cX8_print 111 = .ok (.lreturn, 1) := by decide +kernel
theorem dX8_save_0 : decode cX8_save 0 = .ok (.aload_n 0, 1) := by decide +kernel
theorem dX8_save_1 : decode cX8_save 1 = .ok (.invokevirtual 132, 3) := by decide +kernel
theorem dX8_save_4 : decode cX8_save 4 = .ok (.ifCond .eq 6, 3) := by decide +kernel
theorem dX8_save_7 : decode cX8_save 7 = .ok (.bipush (-4), 2) := by decide +kernel
theorem dX8_save_9 : decode cX8_save 9 = .ok (.ireturn, 1) := by decide +kernel
theorem dX8_save_10 : decode cX8_save 10 = .ok (.aload_n 0, 1) := by decide +kernel
theorem dX8_save_11 : decode cX8_save 11 = .ok (.getfield 19, 3) := by decide +kernel
theorem dX8_save_14 : decode cX8_save 14 = .ok (.invokevirtual 201, 3) := by decide +kernel
theorem dX8_save_17 : decode cX8_save 17 = .ok (.aload_n 0, 1) := by decide +kernel
theorem dX8_save_18 : decode cX8_save 18 = .ok (.getfield 19, 3) := by decide +kernel
theorem dX8_save_21 : decode cX8_save 21 = .ok (.ldc 204, 2) := by decide +kernel
theorem dX8_save_23 : decode cX8_save 23 = .ok (.invokevirtual 205, 3) := by decide +kernel
theorem dX8_save_26 : decode cX8_save 26 = .ok (.aload_n 0, 1) := by decide +kernel
theorem dX8_save_27 : decode cX8_save 27 = .ok (.getfield 48, 3) := by decide +kernel
theorem dX8_save_30 : decode cX8_save 30 = .ok (.aload_n 0, 1) := by decide +kernel
theorem dX8_save_31 : decode cX8_save 31 = .ok (.getfield 31, 3) := by decide +kernel
theorem dX8_save_34 : decode cX8_save 34 = .ok (.invokevirtual 208, 3) := by decide +kernel
theorem dX8_save_37 : decode cX8_save 37 = .ok (.aload_n 0, 1) := by decide +kernel
theorem dX8_save_38 : decode cX8_save 38 = .ok (.getfield 31, 3) := by decide +kernel
theorem dX8_save_41 : decode cX8_save 41 = .ok (.aload_n 0, 1) := by decide +kernel
theorem dX8_save_42 : decode cX8_save 42 = .ok (.getfield 62, 3) := by decide +kernel
theorem dX8_save_45 : decode cX8_save 45 = .ok (.getfield 144, 3) := by decide +kernel
theorem dX8_save_48 : decode cX8_save 48 = .ok (.iconst 3, 1) := by decide +kernel
theorem dX8_save_49 : decode cX8_save 49 = .ok (.invokevirtual 97, 3) := by decide +kernel
theorem dX8_save_52 : decode cX8_save 52 = .ok (.aload_n 0, 1) := by decide +kernel
theorem dX8_save_53 : decode cX8_save 53 = .ok (.getfield 19, 3) := by decide +kernel
theorem dX8_save_56 : decode cX8_save 56 = .ok (.invokevirtual 211, 3) := by decide +kernel
theorem dX8_save_59 : decode cX8_save 59 = .ok (.aload_n 0, 1) := by decide +kernel
theorem dX8_save_60 : decode cX8_save 60 = .ok (.getfield 19, 3) := by decide +kernel
theorem dX8_save_63 : decode cX8_save 63 = .ok (.iload_n 1, 1) := by decide +kernel
theorem dX8_save_64 : decode cX8_save 64 = .ok (.ifCond .eq 8, 3) := by decide +kernel
theorem dX8_save_67 : decode cX8_save 67 = .ok (.ldc 214, 2) := by decide +kernel
theorem dX8_save_69 : decode cX8_save 69 = .ok (.goto 5, 3) := by decide +kernel
theorem dX8_save_72 : decode cX8_save 72 = .ok (.ldc 215, 2) := by decide +kernel
theorem dX8_save_74 : decode cX8_save 74 = .ok (.invokevirtual 205, 3) := by decide +kernel
theorem dX8_save_77 : decode cX8_save 77 = .ok (.iload_n 1, 1) := by decide +kernel
theorem dX8_save_78 : decode cX8_save 78 = .ok (.ifCond .eq 17, 3) := by decide +kernel
theorem dX8_save_81 : decode cX8_save 81 = .ok (.aload_n 0, 1) := by decide +kernel
theorem dX8_save_82 : decode cX8_save 82 = .ok (.getfield 62, 3) := by decide +kernel
theorem dX8_save_85 : decode cX8_save 85 = .ok (.aload_n 0, 1) := by decide +kernel
theorem dX8_save_86 : decode cX8_save 86 = .ok (.getfield 31, 3) := by decide +kernel
theorem dX8_save_89 : decode cX8_save 89 = .ok (.invokevirtual 216, 3) := by decide +kernel
theorem dX8_save_92 : decode cX8_save 92 = .ok (.goto 18, 3) := by decide +kernel
theorem dX8_save_95 : decode cX8_save 95 = .ok (.aload_n 0, 1) := by decide +kernel
theorem dX8_save_96 : decode cX8_save 96 = .ok (.getfield 62, 3) := by decide +kernel
theorem dX8_save_99 : decode cX8_save 99 = .ok (.aload_n 0, 1) := by decide +kernel
theorem dX8_save_100 : decode cX8_save 100 = .ok (.getfield 48, 3) := by decide +kernel
theorem dX8_save_103 : decode cX8_save 103 = .ok (.aload_n 0, 1) := by decide +kernel
theorem dX8_save_104 : decode cX8_save 104 = .ok (.getfield 31, 3) := by decide +kernel
theorem dX8_save_107 : decode cX8_save 107 = .ok (.invokevirtual 219, 3) := by decide +kernel
theorem dX8_save_110 : decode cX8_save 110 = .ok (.aload_n 0, 1) := by decide +kernel
theorem dX8_save_111 : decode cX8_save 111 = .ok (.getfield 19, 3) := by decide +kernel
theorem dX8_save_114 : decode cX8_save 114 = .ok (.invokevirtual 211, 3) := by decide +kernel
theorem dX8_save_117 : decode cX8_save 117 = .ok (.aload_n 0, 1) := by decide +kernel
theorem dX8_save_118 : decode cX8_save 118 = .ok (.getfield 19, 3) := by decide +kernel
theorem dX8_save_121 : decode cX8_save 121 = .ok (.ldc 223, 2) := by decide +kernel
theorem dX8_save_123 : decode cX8_save 123 = .ok (.invokevirtual 205, 3) := by decide +kernel
theorem dX8_save_126 : decode cX8_save 126 = .ok (.aload_n 0, 1) := by decide +kernel
theorem dX8_save_127 : decode cX8_save 127 = .ok (.getfield 62, 3) := by decide +kernel
theorem dX8_save_130 : decode cX8_save 130 = .ok (.aload_n 0, 1) := by decide +kernel
theorem dX8_save_131 : decode cX8_save 131 = .ok (.getfield 31, 3) := by decide +kernel
theorem dX8_save_134 : decode cX8_save 134 = .ok (.invokevirtual 198, 3) := by decide +kernel
theorem dX8_save_137 : decode cX8_save 137 = .ok (.aload_n 0, 1) := by decide +kernel
theorem dX8_save_138 : decode cX8_save 138 = .ok (.getfield 19, 3) := by decide +kernel
theorem dX8_save_141 : decode cX8_save 141 = .ok (.invokevirtual 211, 3) := by decide +kernel
theorem dX8_save_144 : decode cX8_save 144 = .ok (.aload_n 0, 1) := by decide +kernel
theorem dX8_save_145 : decode cX8_save 145 = .ok (.getfield 19, 3) := by decide +kernel
theorem dX8_save_148 : decode cX8_save 148 = .ok (.aload_n 0, 1) := by decide +kernel
theorem dX8_save_149 : decode cX8_save 149 = .ok (.getfield 72, 3) := by decide +kernel
theorem dX8_save_152 : decode cX8_save 152 = .ok (.invokevirtual 224, 3) := by decide +kernel
theorem dX8_save_155 : decode cX8_save 155 = .ok (.aload_n 0, 1) := by decide +kernel
theorem dX8_save_156 : decode cX8_save 156 = .ok (.getfield 19, 3) := by decide +kernel
theorem dX8_save_159 : decode cX8_save 159 = .ok (.invokevirtual 228, 3) := by decide +kernel
theorem dX8_save_162 : decode cX8_save 162 = .ok (.aload_n 0, 1) := by decide +kernel
theorem dX8_save_163 : decode cX8_save 163 = .ok (.getfield 31, 3) := by decide +kernel
theorem dX8_save_166 : decode cX8_save 166 = .ok (.getfield 101, 3) := by decide +kernel
theorem dX8_save_169 : decode cX8_save 169 = .ok (.ireturn, 1) := by decide +kernel
theorem dX8_restore_0 : decode cX8_restore 0 = .ok (.aload_n 0, 1) := by decide +kernel
theorem dX8_restore_1 : decode cX8_restore 1 = .ok (.invokevirtual 132, 3) := by decide +kernel
theorem dX8_restore_4 : decode cX8_restore 4 = .ok (.ifCond .eq 13, 3) := by decide +kernel
theorem dX8_restore_7 : decode cX8_restore 7 = .ok (.aload_n 0, 1) := by decide +kernel
theorem dX8_restore_8 : decode cX8_restore 8 = .ok (.getfield 27, 3) := by decide +kernel
theorem dX8_restore_11 : decode cX8_restore 11 = .ok (.invokevirtual 131, 3) := by decide +kernel
theorem dX8_restore_14 : decode cX8_restore 14 = .ok (.bipush (-4), 2) := by decide +kernel
theorem dX8_restore_16 : decode cX8_restore 16 = .ok (.ireturn, 1) := by decide +kernel
theorem dX8_restore_17 : decode cX8_restore 17 = .ok (.aload_n 0, 1) := by decide +kernel
theorem dX8_restore_18 : decode cX8_restore 18 = .ok (.getfield 12, 3) := by decide +kernel
theorem dX8_restore_21 : decode cX8_restore 21 = .ok (.aload_n 0, 1) := by decide +kernel
theorem dX8_restore_22 : decode cX8_restore 22 = .ok (.getfield 48, 3) := by decide +kernel
theorem dX8_restore_25 : decode cX8_restore 25 = .ok (.aload_n 0, 1) := by decide +kernel
theorem dX8_restore_26 : decode cX8_restore 26 = .ok (.getfield 66, 3) := by decide +kernel
theorem dX8_restore_29 : decode cX8_restore 29 = .ok (.aload_n 0, 1) := by decide +kernel
theorem dX8_restore_30 : decode cX8_restore 30 = .ok (.getfield 76, 3) := by decide +kernel
theorem dX8_restore_33 : decode cX8_restore 33 = .ok (.invokevirtual 231, 3) := by decide +kernel
theorem dX8_restore_36 : decode cX8_restore 36 = .ok (.istore_n 1, 1) := by decide +kernel
theorem dX8_restore_37 : decode cX8_restore 37 = .ok (.aload_n 0, 1) := by decide +kernel
theorem dX8_restore_38 : decode cX8_restore 38 = .ok (.getfield 27, 3) := by decide +kernel
theorem dX8_restore_41 : decode cX8_restore 41 = .ok (.invokevirtual 131, 3) := by decide +kernel
theorem dX8_restore_44 : decode cX8_restore 44 = .ok (.aload_n 0, 1) := by decide +kernel
theorem dX8_restore_45 : decode cX8_restore 45 = .ok (.iload_n 1, 1) := by decide +kernel
theorem dX8_restore_46 : decode cX8_restore 46 = .ok (.bipush 16, 2) := by decide +kernel
theorem dX8_restore_48 : decode cX8_restore 48 = .ok (.iushr, 1) := by decide +kernel
theorem dX8_restore_49 : decode cX8_restore 49 = .ok (.putfield 87, 3) := by decide +kernel
theorem dX8_restore_52 : decode cX8_restore 52 = .ok (.aload_n 0, 1) := by decide +kernel
theorem dX8_restore_53 : decode cX8_restore 53 = .ok (.iload_n 1, 1) := by decide +kernel
theorem dX8_restore_54 : decode cX8_restore 54 = .ok (.ifCond .ne 8, 3) := by decide +kernel
theorem dX8_restore_57 : decode cX8_restore 57 = .ok (.bipush (-2), 2) := by decide +kernel
theorem dX8_restore_59 : decode cX8_restore 59 = .ok (.goto 7, 3) := by decide +kernel
theorem dX8_restore_62 : decode cX8_restore 62 = .ok (.iload_n 1, 1) := by decide +kernel
theorem dX8_restore_63 : decode cX8_restore 63 = .ok (.ldc 166, 2) := by decide +kernel
theorem dX8_restore_65 : decode cX8_restore 65 = .ok (.iand, 1) := by decide +kernel
theorem dX8_restore_66 : decode cX8_restore 66 = .ok (.putfield 90, 3) := by decide +kernel
theorem dX8_restore_69 : decode cX8_restore 69 = .ok (.iload_n 1, 1) := by decide +kernel
theorem dX8_restore_70 : decode cX8_restore 70 = .ok (.ifCond .eq 11, 3) := by decide +kernel
theorem dX8_restore_73 : decode cX8_restore 73 = .ok (.bipush (-10), 2) := by decide +kernel
theorem dX8_restore_75 : decode cX8_restore 75 = .ok (.aload_n 0, 1) := by decide +kernel
theorem dX8_restore_76 : decode cX8_restore 76 = .ok (.getfield 87, 3) := by decide +kernel
theorem dX8_restore_79 : decode cX8_restore 79 = .ok (.isub, 1) := by decide +kernel
theorem dX8_restore_80 : decode cX8_restore 80 = .ok (.ireturn, 1) := by decide +kernel
theorem dX8_restore_81 : decode cX8_restore 81 = .ok (.aload_n 0, 1) := by decide +kernel
theorem dX8_restore_82 : decode cX8_restore 82 = .ok (.invokevirtual 235, 3) := by decide +kernel
theorem dX8_restore_85 : decode cX8_restore 85 = .ok (.aload_n 0, 1) := by decide +kernel
theorem dX8_restore_86 : decode cX8_restore 86 = .ok (.invokevirtual 238, 3) := by decide +kernel
theorem dX8_restore_89 : decode cX8_restore 89 = .ok (.iconst 1, 1) := by decide +kernel
theorem dX8_restore_90 : decode cX8_restore 90 = .ok (.ireturn, 1) := by decide +kernel
theorem dX8_why_0 : decode cX8_why 0 = .ok (.iload_n 1, 1) := by decide +kernel
theorem dX8_why_1 : decode cX8_why 1 = .ok (.lookupswitch 37 #[(0, 27), (1, 32)], 27) := by decide +kernel
theorem dX8_why_28 : decode cX8_why 28 = .ok (.aload_n 0, 1) := by decide +kernel
theorem dX8_why_29 : decode cX8_why 29 = .ok (.getfield 87, 3) := by decide +kernel
theorem dX8_why_32 : decode cX8_why 32 = .ok (.ireturn, 1) := by decide +kernel
theorem dX8_why_33 : decode cX8_why 33 = .ok (.aload_n 0, 1) := by decide +kernel
theorem dX8_why_34 : decode cX8_why 34 = .ok (.getfield 90, 3) := by decide +kernel
theorem dX8_why_37 : decode cX8_why 37 = .ok (.ireturn, 1) := by decide +kernel
theorem dX8_why_38 : decode cX8_why 38 = .ok (.iconst (-1), 1) := by decide +kernel
theorem dX8_why_39 : decode cX8_why 39 = .ok (.ireturn, 1) := by decide +kernel
theorem dX8_chunk_0 : decode cX8_chunk 0 = .ok (.iload_n 2, 1) := by decide +kernel
theorem dX8_chunk_1 : decode cX8_chunk 1 = .ok (.iconst 2, 1) := by decide +kernel
theorem dX8_chunk_2 : decode cX8_chunk 2 = .ok (.invokestatic 104, 3) := by decide +kernel
theorem dX8_chunk_5 : decode cX8_chunk 5 = .ok (.ifCond .ne 5, 3) := by decide +kernel
theorem dX8_chunk_8 : decode cX8_chunk 8 = .ok (.iconst (-1), 1) := by decide +kernel
theorem dX8_chunk_9 : decode cX8_chunk 9 = .ok (.ireturn, 1) := by decide +kernel
theorem dX8_chunk_10 : decode cX8_chunk 10 = .ok (.iload_n 1, 1) := by decide +kernel
theorem dX8_chunk_11 : decode cX8_chunk 11 = .ok (.aload_n 0, 1) := by decide +kernel
theorem dX8_chunk_12 : decode cX8_chunk 12 = .ok (.getfield 19, 3) := by decide +kernel
theorem dX8_chunk_15 : decode cX8_chunk 15 = .ok (.getfield 241, 3) := by decide +kernel
theorem dX8_chunk_18 : decode cX8_chunk 18 = .ok (.iconst 1, 1) := by decide +kernel
theorem dX8_chunk_19 : decode cX8_chunk 19 = .ok (.isub, 1) := by decide +kernel
theorem dX8_chunk_20 : decode cX8_chunk 20 = .ok (.invokestatic 104, 3) := by decide +kernel
theorem dX8_chunk_23 : decode cX8_chunk 23 = .ok (.ifCond .eq 15, 3) := by decide +kernel
theorem dX8_chunk_26 : decode cX8_chunk 26 = .ok (.aload_n 0, 1) := by decide +kernel
theorem dX8_chunk_27 : decode cX8_chunk 27 = .ok (.getfield 19, 3) := by decide +kernel
theorem dX8_chunk_30 : decode cX8_chunk 30 = .ok (.iload_n 1, 1) := by decide +kernel
theorem dX8_chunk_31 : decode cX8_chunk 31 = .ok (.iload_n 2, 1) := by decide +kernel
theorem dX8_chunk_32 : decode cX8_chunk 32 = .ok (.invokevirtual 242, 3) := by decide +kernel
theorem dX8_chunk_35 : decode cX8_chunk 35 = .ok (.goto 5, 3) := by decide +kernel
theorem dX8_chunk_38 : decode cX8_chunk 38 = .ok (.bipush (-2), 2) := by decide +kernel
theorem dX8_chunk_40 : decode cX8_chunk 40 = .ok (.ireturn, 1) := by decide +kernel
theorem dX8_write_0 : decode cX8_write 0 = .ok (.aload_n 0, 1) := by decide +kernel
theorem dX8_write_1 : decode cX8_write 1 = .ok (.getfield 83, 3) := by decide +kernel
theorem dX8_write_4 : decode cX8_write 4 = .ok (.bipush (-2), 2) := by decide +kernel
theorem dX8_write_6 : decode cX8_write 6 = .ok (.if_icmp .eq 21, 3) := by decide +kernel
theorem dX8_write_9 : decode cX8_write 9 = .ok (.aload_n 0, 1) := by decide +kernel
theorem dX8_write_10 : decode cX8_write 10 = .ok (.getfield 31, 3) := by decide +kernel
theorem dX8_write_13 : decode cX8_write 13 = .ok (.getfield 101, 3) := by decide +kernel
theorem dX8_write_16 : decode cX8_write 16 = .ok (.aload_n 0, 1) := by decide +kernel
theorem dX8_write_17 : decode cX8_write 17 = .ok (.getfield 83, 3) := by decide +kernel
theorem dX8_write_20 : decode cX8_write 20 = .ok (.if_icmp .le 7, 3) := by decide +kernel
theorem dX8_write_23 : decode cX8_write 23 = .ok (.iconst 1, 1) := by decide +kernel
theorem dX8_write_24 : decode cX8_write 24 = .ok (.goto 4, 3) := by decide +kernel
theorem dX8_write_27 : decode cX8_write 27 = .ok (.iconst 0, 1) := by decide +kernel
theorem dX8_write_28 : decode cX8_write 28 = .ok (.istore_n 1, 1) := by decide +kernel
theorem dX8_write_29 : decode cX8_write 29 = .ok (.aload_n 0, 1) := by decide +kernel
theorem dX8_write_30 : decode cX8_write 30 = .ok (.bipush (-2), 2) := by decide +kernel
theorem dX8_write_32 : decode cX8_write 32 = .ok (.putfield 83, 3) := by decide +kernel
theorem dX8_write_35 : decode cX8_write 35 = .ok (.iload_n 1, 1) := by decide +kernel
theorem dX8_write_36 : decode cX8_write 36 = .ok (.ifCond .eq 5, 3) := by decide +kernel
theorem dX8_write_39 : decode cX8_write 39 = .ok (.iconst 0, 1) := by decide +kernel
theorem dX8_write_40 : decode cX8_write 40 = .ok (.ireturn, 1) := by decide +kernel
theorem dX8_write_41 : decode cX8_write 41 = .ok (.aload_n 0, 1) := by decide +kernel
theorem dX8_write_42 : decode cX8_write 42 = .ok (.getfield 39, 3) := by decide +kernel
theorem dX8_write_45 : decode cX8_write 45 = .ok (.aload_n 0, 1) := by decide +kernel
theorem dX8_write_46 : decode cX8_write 46 = .ok (.getfield 31, 3) := by decide +kernel
theorem dX8_write_49 : decode cX8_write 49 = .ok (.invokevirtual 246, 3) := by decide +kernel
theorem dX8_write_52 : decode cX8_write 52 = .ok (.aload_n 0, 1) := by decide +kernel
theorem dX8_write_53 : decode cX8_write 53 = .ok (.iconst 1, 1) := by decide +kernel
theorem dX8_write_54 : decode cX8_write 54 = .ok (.putfield 79, 3) := by decide +kernel
theorem dX8_write_57 : decode cX8_write 57 = .ok (.iconst 1, 1) := by decide +kernel
theorem dX8_write_58 : decode cX8_write 58 = .ok (.ireturn, 1) := by decide +kernel
theorem dX8_cut_0 : decode cX8_cut 0 = .ok (.iload_n 1, 1) := by decide +kernel
theorem dX8_cut_1 : decode cX8_cut 1 = .ok (.ifCond .ge 11, 3) := by decide +kernel
theorem dX8_cut_4 : decode cX8_cut 4 = .ok (.iload_n 1, 1) := by decide +kernel
theorem dX8_cut_5 : decode cX8_cut 5 = .ok (.bipush (-2), 2) := by decide +kernel
theorem dX8_cut_7 : decode cX8_cut 7 = .ok (.if_icmp .eq 5, 3) := by decide +kernel
theorem dX8_cut_10 : decode cX8_cut 10 = .ok (.iconst (-1), 1) := by decide +kernel
theorem dX8_cut_11 : decode cX8_cut 11 = .ok (.ireturn, 1) := by decide +kernel
theorem dX8_cut_12 : decode cX8_cut 12 = .ok (.aload_n 0, 1) := by decide +kernel
theorem dX8_cut_13 : decode cX8_cut 13 = .ok (.iload_n 1, 1) := by decide +kernel
theorem dX8_cut_14 : decode cX8_cut 14 = .ok (.putfield 83, 3) := by decide +kernel
theorem dX8_cut_17 : decode cX8_cut 17 = .ok (.iconst 1, 1) := by decide +kernel
theorem dX8_cut_18 : decode cX8_cut 18 = .ok (.ireturn, 1) := by decide +kernel
theorem dX8_load_0 : decode cX8_load 0 = .ok (.aload_n 0, 1) := by decide +kernel
theorem dX8_load_1 : decode cX8_load 1 = .ok (.getfield 79, 3) := by decide +kernel
theorem dX8_load_4 : decode cX8_load 4 = .ok (.ifCond .eq 14, 3) := by decide +kernel
theorem dX8_load_7 : decode cX8_load 7 = .ok (.aload_n 0, 1) := by decide +kernel
theorem dX8_load_8 : decode cX8_load 8 = .ok (.aload_n 0, 1) := by decide +kernel
theorem dX8_load_9 : decode cX8_load 9 = .ok (.getfield 39, 3) := by decide +kernel
theorem dX8_load_12 : decode cX8_load 12 = .ok (.invokevirtual 115, 3) := by decide +kernel
theorem dX8_load_15 : decode cX8_load 15 = .ok (.goto 5, 3) := by decide +kernel
theorem dX8_load_18 : decode cX8_load 18 = .ok (.bipush (-2), 2) := by decide +kernel
theorem dX8_load_20 : decode cX8_load 20 = .ok (.ireturn, 1) := by decide +kernel
theorem dX8_keep_0 : decode cX8_keep 0 = .ok (.aload_n 0, 1) := by decide +kernel
theorem dX8_keep_1 : decode cX8_keep 1 = .ok (.invokevirtual 132, 3) := by decide +kernel
theorem dX8_keep_4 : decode cX8_keep 4 = .ok (.ifCond .eq 6, 3) := by decide +kernel
theorem dX8_keep_7 : decode cX8_keep 7 = .ok (.bipush (-4), 2) := by decide +kernel
theorem dX8_keep_9 : decode cX8_keep 9 = .ok (.ireturn, 1) := by decide +kernel
theorem dX8_keep_10 : decode cX8_keep 10 = .ok (.aload_n 0, 1) := by decide +kernel
theorem dX8_keep_11 : decode cX8_keep 11 = .ok (.invokevirtual 249, 3) := by decide +kernel
theorem dX8_keep_14 : decode cX8_keep 14 = .ok (.istore_n 1, 1) := by decide +kernel
theorem dX8_keep_15 : decode cX8_keep 15 = .ok (.aload_n 0, 1) := by decide +kernel
theorem dX8_keep_16 : decode cX8_keep 16 = .ok (.getfield 42, 3) := by decide +kernel
theorem dX8_keep_19 : decode cX8_keep 19 = .ok (.getfield 101, 3) := by decide +kernel
theorem dX8_keep_22 : decode cX8_keep 22 = .ok (.aload_n 0, 1) := by decide +kernel
theorem dX8_keep_23 : decode cX8_keep 23 = .ok (.getfield 55, 3) := by decide +kernel
theorem dX8_keep_26 : decode cX8_keep 26 = .ok (.getfield 252, 3) := by decide +kernel
theorem dX8_keep_29 : decode cX8_keep 29 = .ok (.if_icmp .le 6, 3) := by decide +kernel
theorem dX8_keep_32 : decode cX8_keep 32 = .ok (.bipush (-3), 2) := by decide +kernel
theorem dX8_keep_34 : decode cX8_keep 34 = .ok (.ireturn, 1) := by decide +kernel
theorem dX8_keep_35 : decode cX8_keep 35 = .ok (.aload_n 0, 1) := by decide +kernel
theorem dX8_keep_36 : decode cX8_keep 36 = .ok (.getfield 55, 3) := by decide +kernel
theorem dX8_keep_39 : decode cX8_keep 39 = .ok (.aload_n 0, 1) := by decide +kernel
theorem dX8_keep_40 : decode cX8_keep 40 = .ok (.getfield 42, 3) := by decide +kernel
theorem dX8_keep_43 : decode cX8_keep 43 = .ok (.iload_n 1, 1) := by decide +kernel
theorem dX8_keep_44 : decode cX8_keep 44 = .ok (.aload_n 0, 1) := by decide +kernel
theorem dX8_keep_45 : decode cX8_keep 45 = .ok (.getfield 62, 3) := by decide +kernel
theorem dX8_keep_48 : decode cX8_keep 48 = .ok (.getfield 144, 3) := by decide +kernel
theorem dX8_keep_51 : decode cX8_keep 51 = .ok (.invokevirtual 255, 3) := by decide +kernel
theorem dX8_keep_54 : decode cX8_keep 54 = .ok (.aload_n 0, 1) := by decide +kernel
theorem dX8_keep_55 : decode cX8_keep 55 = .ok (.getfield 55, 3) := by decide +kernel
theorem dX8_keep_58 : decode cX8_keep 58 = .ok (.getfield 259, 3) := by decide +kernel
theorem dX8_keep_61 : decode cX8_keep 61 = .ok (.ireturn, 1) := by decide +kernel
theorem dX8_undo_0 : decode cX8_undo 0 = .ok (.aload_n 0, 1) := by decide +kernel
theorem dX8_undo_1 : decode cX8_undo 1 = .ok (.invokevirtual 132, 3) := by decide +kernel
theorem dX8_undo_4 : decode cX8_undo 4 = .ok (.ifCond .eq 6, 3) := by decide +kernel
theorem dX8_undo_7 : decode cX8_undo 7 = .ok (.bipush (-4), 2) := by decide +kernel
theorem dX8_undo_9 : decode cX8_undo 9 = .ok (.ireturn, 1) := by decide +kernel
theorem dX8_undo_10 : decode cX8_undo 10 = .ok (.aload_n 0, 1) := by decide +kernel
theorem dX8_undo_11 : decode cX8_undo 11 = .ok (.getfield 55, 3) := by decide +kernel
theorem dX8_undo_14 : decode cX8_undo 14 = .ok (.getfield 259, 3) := by decide +kernel
theorem dX8_undo_17 : decode cX8_undo 17 = .ok (.ifCond .gt 6, 3) := by decide +kernel
theorem dX8_undo_20 : decode cX8_undo 20 = .ok (.bipush (-2), 2) := by decide +kernel
theorem dX8_undo_22 : decode cX8_undo 22 = .ok (.ireturn, 1) := by decide +kernel
theorem dX8_undo_23 : decode cX8_undo 23 = .ok (.aload_n 0, 1) := by decide +kernel
theorem dX8_undo_24 : decode cX8_undo 24 = .ok (.getfield 55, 3) := by decide +kernel
theorem dX8_undo_27 : decode cX8_undo 27 = .ok (.aload_n 0, 1) := by decide +kernel
theorem dX8_undo_28 : decode cX8_undo 28 = .ok (.getfield 48, 3) := by decide +kernel
theorem dX8_undo_31 : decode cX8_undo 31 = .ok (.aload_n 0, 1) := by decide +kernel
theorem dX8_undo_32 : decode cX8_undo 32 = .ok (.getfield 66, 3) := by decide +kernel
theorem dX8_undo_35 : decode cX8_undo 35 = .ok (.invokevirtual 260, 3) := by decide +kernel
theorem dX8_undo_38 : decode cX8_undo 38 = .ok (.aload_n 0, 1) := by decide +kernel
theorem dX8_undo_39 : decode cX8_undo 39 = .ok (.invokevirtual 235, 3) := by decide +kernel
theorem dX8_undo_42 : decode cX8_undo 42 = .ok (.aload_n 0, 1) := by decide +kernel
theorem dX8_undo_43 : decode cX8_undo 43 = .ok (.getfield 55, 3) := by decide +kernel
theorem dX8_undo_46 : decode cX8_undo 46 = .ok (.getfield 259, 3) := by decide +kernel
theorem dX8_undo_49 : decode cX8_undo 49 = .ok (.ireturn, 1) := by decide +kernel
theorem dX8_bound_0 : decode cX8_bound 0 = .ok (.iload_n 1, 1) := by decide +kernel
theorem dX8_bound_1 : decode cX8_bound 1 = .ok (.sipush 10000, 3) := by decide +kernel
theorem dX8_bound_4 : decode cX8_bound 4 = .ok (.invokestatic 104, 3) := by decide +kernel
theorem dX8_bound_7 : decode cX8_bound 7 = .ok (.ifCond .ne 5, 3) := by decide +kernel
theorem dX8_bound_10 : decode cX8_bound 10 = .ok (.iconst (-1), 1) := by decide +kernel
theorem dX8_bound_11 : decode cX8_bound 11 = .ok (.ireturn, 1) := by decide +kernel
theorem dX8_bound_12 : decode cX8_bound 12 = .ok (.aload_n 0, 1) := by decide +kernel
theorem dX8_bound_13 : decode cX8_bound 13 = .ok (.getfield 55, 3) := by decide +kernel
theorem dX8_bound_16 : decode cX8_bound 16 = .ok (.getfield 252, 3) := by decide +kernel
theorem dX8_bound_19 : decode cX8_bound 19 = .ok (.istore_n 2, 1) := by decide +kernel
theorem dX8_bound_20 : decode cX8_bound 20 = .ok (.aload_n 0, 1) := by decide +kernel
theorem dX8_bound_21 : decode cX8_bound 21 = .ok (.getfield 55, 3) := by decide +kernel
theorem dX8_bound_24 : decode cX8_bound 24 = .ok (.iload_n 1, 1) := by decide +kernel
theorem dX8_bound_25 : decode cX8_bound 25 = .ok (.putfield 252, 3) := by decide +kernel
theorem dX8_bound_28 : decode cX8_bound 28 = .ok (.aload_n 0, 1) := by decide +kernel
theorem dX8_bound_29 : decode cX8_bound 29 = .ok (.getfield 55, 3) := by decide +kernel
theorem dX8_bound_32 : decode cX8_bound 32 = .ok (.bipush 8, 2) := by decide +kernel
theorem dX8_bound_34 : decode cX8_bound 34 = .ok (.iload_n 1, 1) := by decide +kernel
theorem dX8_bound_35 : decode cX8_bound 35 = .ok (.invokevirtual 264, 3) := by decide +kernel
theorem dX8_bound_38 : decode cX8_bound 38 = .ok (.iload_n 2, 1) := by decide +kernel
theorem dX8_bound_39 : decode cX8_bound 39 = .ok (.ireturn, 1) := by decide +kernel
theorem dX8_restart_0 : decode cX8_restart 0 = .ok (.aload_n 0, 1) := by decide +kernel
theorem dX8_restart_1 : decode cX8_restart 1 = .ok (.invokevirtual 132, 3) := by decide +kernel
theorem dX8_restart_4 : decode cX8_restart 4 = .ok (.ifCond .eq 6, 3) := by decide +kernel
theorem dX8_restart_7 : decode cX8_restart 7 = .ok (.bipush (-4), 2) := by decide +kernel
theorem dX8_restart_9 : decode cX8_restart 9 = .ok (.ireturn, 1) := by decide +kernel
theorem dX8_restart_10 : decode cX8_restart 10 = .ok (.aload_n 0, 1) := by decide +kernel
theorem dX8_restart_11 : decode cX8_restart 11 = .ok (.getfield 66, 3) := by decide +kernel
theorem dX8_restart_14 : decode cX8_restart 14 = .ok (.aload_n 0, 1) := by decide +kernel
theorem dX8_restart_15 : decode cX8_restart 15 = .ok (.getfield 48, 3) := by decide +kernel
theorem dX8_restart_18 : decode cX8_restart 18 = .ok (.invokevirtual 123, 3) := by decide +kernel
theorem dX8_restart_21 : decode cX8_restart 21 = .ok (.aload_n 0, 1) := by decide +kernel
theorem dX8_restart_22 : decode cX8_restart 22 = .ok (.invokevirtual 235, 3) := by decide +kernel
theorem dX8_restart_25 : decode cX8_restart 25 = .ok (.iconst 1, 1) := by decide +kernel
theorem dX8_restart_26 : decode cX8_restart 26 = .ok (.ireturn, 1) := by decide +kernel
theorem dX8_told_0 : decode cX8_told 0 = .ok (.iload_n 1, 1) := by decide +kernel
theorem dX8_told_1 : decode cX8_told 1 = .ok (.tableswitch 155 0 9 #[55, 63, 71, 79, 87, 98, 111, 119, 127, 135], 55) := by decide +kernel
theorem dX8_told_56 : decode cX8_told 56 = .ok (.aload_n 0, 1) := by decide +kernel
theorem dX8_told_57 : decode cX8_told 57 = .ok (.getfield 62, 3) := by decide +kernel
theorem dX8_told_60 : decode cX8_told 60 = .ok (.getfield 136, 3) := by decide +kernel
theorem dX8_told_63 : decode cX8_told 63 = .ok (.ireturn, 1) := by decide +kernel
theorem dX8_told_64 : decode cX8_told 64 = .ok (.aload_n 0, 1) := by decide +kernel
theorem dX8_told_65 : decode cX8_told 65 = .ok (.getfield 62, 3) := by decide +kernel
theorem dX8_told_68 : decode cX8_told 68 = .ok (.getfield 144, 3) := by decide +kernel
theorem dX8_told_71 : decode cX8_told 71 = .ok (.ireturn, 1) := by decide +kernel
theorem dX8_told_72 : decode cX8_told 72 = .ok (.aload_n 0, 1) := by decide +kernel
theorem dX8_told_73 : decode cX8_told 73 = .ok (.getfield 62, 3) := by decide +kernel
theorem dX8_told_76 : decode cX8_told 76 = .ok (.getfield 147, 3) := by decide +kernel
theorem dX8_told_79 : decode cX8_told 79 = .ok (.ireturn, 1) := by decide +kernel
theorem dX8_told_80 : decode cX8_told 80 = .ok (.aload_n 0, 1) := by decide +kernel
theorem dX8_told_81 : decode cX8_told 81 = .ok (.getfield 55, 3) := by decide +kernel
theorem dX8_told_84 : decode cX8_told 84 = .ok (.getfield 259, 3) := by decide +kernel
theorem dX8_told_87 : decode cX8_told 87 = .ok (.ireturn, 1) := by decide +kernel
theorem dX8_told_88 : decode cX8_told 88 = .ok (.aload_n 0, 1) := by decide +kernel
theorem dX8_told_89 : decode cX8_told 89 = .ok (.getfield 55, 3) := by decide +kernel
theorem dX8_told_92 : decode cX8_told 92 = .ok (.getfield 267, 3) := by decide +kernel
theorem dX8_told_95 : decode cX8_told 95 = .ok (.getfield 101, 3) := by decide +kernel
theorem dX8_told_98 : decode cX8_told 98 = .ok (.ireturn, 1) := by decide +kernel
theorem dX8_told_99 : decode cX8_told 99 = .ok (.aload_n 0, 1) := by decide +kernel
theorem dX8_told_100 : decode cX8_told 100 = .ok (.invokevirtual 249, 3) := by decide +kernel
theorem dX8_told_103 : decode cX8_told 103 = .ok (.pop, 1) := by decide +kernel
theorem dX8_told_104 : decode cX8_told 104 = .ok (.aload_n 0, 1) := by decide +kernel
theorem dX8_told_105 : decode cX8_told 105 = .ok (.getfield 42, 3) := by decide +kernel
theorem dX8_told_108 : decode cX8_told 108 = .ok (.getfield 101, 3) := by decide +kernel
theorem dX8_told_111 : decode cX8_told 111 = .ok (.ireturn, 1) := by decide +kernel
theorem dX8_told_112 : decode cX8_told 112 = .ok (.aload_n 0, 1) := by decide +kernel
theorem dX8_told_113 : decode cX8_told 113 = .ok (.getfield 72, 3) := by decide +kernel
theorem dX8_told_116 : decode cX8_told 116 = .ok (.getfield 270, 3) := by decide +kernel
theorem dX8_told_119 : decode cX8_told 119 = .ok (.ireturn, 1) := by decide +kernel
theorem dX8_told_120 : decode cX8_told 120 = .ok (.aload_n 0, 1) := by decide +kernel
theorem dX8_told_121 : decode cX8_told 121 = .ok (.getfield 27, 3) := by decide +kernel
theorem dX8_told_124 : decode cX8_told 124 = .ok (.getfield 101, 3) := by decide +kernel
theorem dX8_told_127 : decode cX8_told 127 = .ok (.ireturn, 1) := by decide +kernel
theorem dX8_told_128 : decode cX8_told 128 = .ok (.aload_n 0, 1) := by decide +kernel
theorem dX8_told_129 : decode cX8_told 129 = .ok (.getfield 31, 3) := by decide +kernel
theorem dX8_told_132 : decode cX8_told 132 = .ok (.getfield 101, 3) := by decide +kernel
theorem dX8_told_135 : decode cX8_told 135 = .ok (.ireturn, 1) := by decide +kernel
theorem dX8_told_136 : decode cX8_told 136 = .ok (.aload_n 0, 1) := by decide +kernel
theorem dX8_told_137 : decode cX8_told 137 = .ok (.getfield 79, 3) := by decide +kernel
theorem dX8_told_140 : decode cX8_told 140 = .ok (.ifCond .eq 13, 3) := by decide +kernel
theorem dX8_told_143 : decode cX8_told 143 = .ok (.aload_n 0, 1) := by decide +kernel
theorem dX8_told_144 : decode cX8_told 144 = .ok (.getfield 39, 3) := by decide +kernel
theorem dX8_told_147 : decode cX8_told 147 = .ok (.getfield 101, 3) := by decide +kernel
theorem dX8_told_150 : decode cX8_told 150 = .ok (.goto 5, 3) := by decide +kernel
theorem dX8_told_153 : decode cX8_told 153 = .ok (.bipush (-2), 2) := by decide +kernel
theorem dX8_told_155 : decode cX8_told 155 = .ok (.ireturn, 1) := by decide +kernel
theorem dX8_told_156 : decode cX8_told 156 = .ok (.iconst (-1), 1) := by decide +kernel
theorem dX8_told_157 : decode cX8_told 157 = .ok (.ireturn, 1) := by decide +kernel
theorem dX8_noStory_0 : decode cX8_noStory 0 = .ok (.aload_n 0, 1) := by decide +kernel
theorem dX8_noStory_1 : decode cX8_noStory 1 = .ok (.getfield 48, 3) := by decide +kernel
theorem dX8_noStory_4 : decode cX8_noStory 4 = .ok (.getfield 271, 3) := by decide +kernel
theorem dX8_noStory_7 : decode cX8_noStory 7 = .ok (.ifCond .ne 7, 3) := by decide +kernel
theorem dX8_noStory_10 : decode cX8_noStory 10 = .ok (.iconst 1, 1) := by decide +kernel
theorem dX8_noStory_11 : decode cX8_noStory 11 = .ok (.goto 4, 3) := by decide +kernel
theorem dX8_noStory_14 : decode cX8_noStory 14 = .ok (.iconst 0, 1) := by decide +kernel
theorem dX8_noStory_15 : decode cX8_noStory 15 = .ok (.ireturn, 1) := by decide +kernel
theorem dX8_within_0 : decode cX8_within 0 = .ok (.iload_n 0, 1) := by decide +kernel
theorem dX8_within_1 : decode cX8_within 1 = .ok (.ifCond .lt 12, 3) := by decide +kernel
theorem dX8_within_4 : decode cX8_within 4 = .ok (.iload_n 0, 1) := by decide +kernel
theorem dX8_within_5 : decode cX8_within 5 = .ok (.iload_n 1, 1) := by decide +kernel
theorem dX8_within_6 : decode cX8_within 6 = .ok (.if_icmp .gt 7, 3) := by decide +kernel
theorem dX8_within_9 : decode cX8_within 9 = .ok (.iconst 1, 1) := by decide +kernel
theorem dX8_within_10 : decode cX8_within 10 = .ok (.goto 4, 3) := by decide +kernel
theorem dX8_within_13 : decode cX8_within 13 = .ok (.iconst 0, 1) := by decide +kernel
theorem dX8_within_14 : decode cX8_within 14 = .ok (.ireturn, 1) := by decide +kernel
theorem dX8_printed_0 : decode cX8_printed 0 = .ok (.lload_n 0, 1) := by decide +kernel
theorem dX8_printed_1 : decode cX8_printed 1 = .ok (.iload_n 2, 1) := by decide +kernel
theorem dX8_printed_2 : decode cX8_printed 2 = .ok (.i2l, 1) := by decide +kernel
theorem dX8_printed_3 : decode cX8_printed 3 = .ok (.lxor, 1) := by decide +kernel
theorem dX8_printed_4 : decode cX8_printed 4 = .ok (.ldc2_w 272, 3) := by decide +kernel
theorem dX8_printed_7 : decode cX8_printed 7 = .ok (.lmul, 1) := by decide +kernel
theorem dX8_printed_8 : decode cX8_printed 8 = .ok (.lreturn, 1) := by decide +kernel
theorem dX8_fillTape_0 : decode cX8_fillTape 0 = .ok (.aload_n 1, 1) := by decide +kernel
theorem dX8_fillTape_1 : decode cX8_fillTape 1 = .ok (.getfield 101, 3) := by decide +kernel
theorem dX8_fillTape_4 : decode cX8_fillTape 4 = .ok (.sipush 2000, 3) := by decide +kernel
theorem dX8_fillTape_7 : decode cX8_fillTape 7 = .ok (.if_icmp .le 6, 3) := by decide +kernel
theorem dX8_fillTape_10 : decode cX8_fillTape 10 = .ok (.bipush (-3), 2) := by decide +kernel
theorem dX8_fillTape_12 : decode cX8_fillTape 12 = .ok (.ireturn, 1) := by decide +kernel
theorem dX8_fillTape_13 : decode cX8_fillTape 13 = .ok (.aload_n 0, 1) := by decide +kernel
theorem dX8_fillTape_14 : decode cX8_fillTape 14 = .ok (.getfield 27, 3) := by decide +kernel
theorem dX8_fillTape_17 : decode cX8_fillTape 17 = .ok (.aload_n 1, 1) := by decide +kernel
theorem dX8_fillTape_18 : decode cX8_fillTape 18 = .ok (.invokevirtual 246, 3) := by decide +kernel
theorem dX8_fillTape_21 : decode cX8_fillTape 21 = .ok (.aload_n 0, 1) := by decide +kernel
theorem dX8_fillTape_22 : decode cX8_fillTape 22 = .ok (.getfield 27, 3) := by decide +kernel
theorem dX8_fillTape_25 : decode cX8_fillTape 25 = .ok (.getfield 101, 3) := by decide +kernel
theorem dX8_fillTape_28 : decode cX8_fillTape 28 = .ok (.ireturn, 1) := by decide +kernel
theorem dX8_turnToSpare_0 : decode cX8_turnToSpare 0 = .ok (.aload_n 0, 1) := by decide +kernel
theorem dX8_turnToSpare_1 : decode cX8_turnToSpare 1 = .ok (.getfield 62, 3) := by decide +kernel
theorem dX8_turnToSpare_4 : decode cX8_turnToSpare 4 = .ok (.astore_n 1, 1) := by decide +kernel
theorem dX8_turnToSpare_5 : decode cX8_turnToSpare 5 = .ok (.aload_n 0, 1) := by decide +kernel
theorem dX8_turnToSpare_6 : decode cX8_turnToSpare 6 = .ok (.getfield 66, 3) := by decide +kernel
theorem dX8_turnToSpare_9 : decode cX8_turnToSpare 9 = .ok (.aload_n 1, 1) := by decide +kernel
theorem dX8_turnToSpare_10 : decode cX8_turnToSpare 10 = .ok (.invokevirtual 274, 3) := by decide +kernel
theorem dX8_turnToSpare_13 : decode cX8_turnToSpare 13 = .ok (.invokevirtual 277, 3) := by decide +kernel
theorem dX8_turnToSpare_16 : decode cX8_turnToSpare 16 = .ok (.aload_n 0, 1) := by decide +kernel
theorem dX8_turnToSpare_17 : decode cX8_turnToSpare 17 = .ok (.aload_n 0, 1) := by decide +kernel
theorem dX8_turnToSpare_18 : decode cX8_turnToSpare 18 = .ok (.getfield 66, 3) := by decide +kernel
theorem dX8_turnToSpare_21 : decode cX8_turnToSpare 21 = .ok (.putfield 62, 3) := by decide +kernel
theorem dX8_turnToSpare_24 : decode cX8_turnToSpare 24 = .ok (.aload_n 0, 1) := by decide +kernel
theorem dX8_turnToSpare_25 : decode cX8_turnToSpare 25 = .ok (.aload_n 1, 1) := by decide +kernel
theorem dX8_turnToSpare_26 : decode cX8_turnToSpare 26 = .ok (.putfield 66, 3) := by decide +kernel
theorem dX8_turnToSpare_29 : decode cX8_turnToSpare 29 = .ok (.return_, 1) := by decide +kernel
theorem dX8_turnToComing_0 : decode cX8_turnToComing 0 = .ok (.aload_n 0, 1) := by decide +kernel
theorem dX8_turnToComing_1 : decode cX8_turnToComing 1 = .ok (.getfield 72, 3) := by decide +kernel
theorem dX8_turnToComing_4 : decode cX8_turnToComing 4 = .ok (.astore_n 1, 1) := by decide +kernel
theorem dX8_turnToComing_5 : decode cX8_turnToComing 5 = .ok (.aload_n 0, 1) := by decide +kernel
theorem dX8_turnToComing_6 : decode cX8_turnToComing 6 = .ok (.aload_n 0, 1) := by decide +kernel
theorem dX8_turnToComing_7 : decode cX8_turnToComing 7 = .ok (.getfield 76, 3) := by decide +kernel
theorem dX8_turnToComing_10 : decode cX8_turnToComing 10 = .ok (.putfield 72, 3) := by decide +kernel
theorem dX8_turnToComing_13 : decode cX8_turnToComing 13 = .ok (.aload_n 0, 1) := by decide +kernel
theorem dX8_turnToComing_14 : decode cX8_turnToComing 14 = .ok (.aload_n 1, 1) := by decide +kernel
theorem dX8_turnToComing_15 : decode cX8_turnToComing 15 = .ok (.putfield 76, 3) := by decide +kernel
theorem dX8_turnToComing_18 : decode cX8_turnToComing 18 = .ok (.return_, 1) := by decide +kernel
theorem dX8_weighNow_0 : decode cX8_weighNow 0 = .ok (.aload_n 0, 1) := by decide +kernel
theorem dX8_weighNow_1 : decode cX8_weighNow 1 = .ok (.getfield 42, 3) := by decide +kernel
theorem dX8_weighNow_4 : decode cX8_weighNow 4 = .ok (.invokevirtual 131, 3) := by decide +kernel
theorem dX8_weighNow_7 : decode cX8_weighNow 7 = .ok (.aload_n 0, 1) := by decide +kernel
theorem dX8_weighNow_8 : decode cX8_weighNow 8 = .ok (.getfield 62, 3) := by decide +kernel
theorem dX8_weighNow_11 : decode cX8_weighNow 11 = .ok (.aload_n 0, 1) := by decide +kernel
theorem dX8_weighNow_12 : decode cX8_weighNow 12 = .ok (.getfield 48, 3) := by decide +kernel
theorem dX8_weighNow_15 : decode cX8_weighNow 15 = .ok (.aload_n 0, 1) := by decide +kernel
theorem dX8_weighNow_16 : decode cX8_weighNow 16 = .ok (.getfield 42, 3) := by decide +kernel
theorem dX8_weighNow_19 : decode cX8_weighNow 19 = .ok (.invokevirtual 219, 3) := by decide +kernel
theorem dX8_weighNow_22 : decode cX8_weighNow 22 = .ok (.aload_n 0, 1) := by decide +kernel
theorem dX8_weighNow_23 : decode cX8_weighNow 23 = .ok (.getfield 42, 3) := by decide +kernel
theorem dX8_weighNow_26 : decode cX8_weighNow 26 = .ok (.getfield 101, 3) := by decide +kernel
theorem dX8_weighNow_29 : decode cX8_weighNow 29 = .ok (.istore_n 1, 1) := by decide +kernel
theorem dX8_weighNow_30 : decode cX8_weighNow 30 = .ok (.aload_n 0, 1) := by decide +kernel
theorem dX8_weighNow_31 : decode cX8_weighNow 31 = .ok (.getfield 62, 3) := by decide +kernel
theorem dX8_weighNow_34 : decode cX8_weighNow 34 = .ok (.aload_n 0, 1) := by decide +kernel
theorem dX8_weighNow_35 : decode cX8_weighNow 35 = .ok (.getfield 42, 3) := by decide +kernel
theorem dX8_weighNow_38 : decode cX8_weighNow 38 = .ok (.invokevirtual 198, 3) := by decide +kernel
theorem dX8_weighNow_41 : decode cX8_weighNow 41 = .ok (.iload_n 1, 1) := by decide +kernel
theorem dX8_weighNow_42 : decode cX8_weighNow 42 = .ok (.ireturn, 1) := by decide +kernel
theorem dX8_fault_0 : decode cX8_fault 0 = .ok (.iload_n 0, 1) := by decide +kernel
theorem dX8_fault_1 : decode cX8_fault 1 = .ok (.bipush 16, 2) := by decide +kernel
theorem dX8_fault_3 : decode cX8_fault 3 = .ok (.ishl, 1) := by decide +kernel
theorem dX8_fault_4 : decode cX8_fault 4 = .ok (.iload_n 1, 1) := by decide +kernel
theorem dX8_fault_5 : decode cX8_fault 5 = .ok (.ior, 1) := by decide +kernel
theorem dX8_fault_6 : decode cX8_fault 6 = .ok (.ireturn, 1) := by decide +kernel
theorem dX9_init_0 : decode cX9_init 0 = .ok (.aload_n 0, 1) := by decide +kernel
theorem dX9_init_1 : decode cX9_init 1 = .ok (.invokespecial 3, 3) := by decide +kernel
theorem dX9_init_4 : decode cX9_init 4 = .ok (.aload_n 0, 1) := by decide +kernel
theorem dX9_init_5 : decode cX9_init 5 = .ok (.sipush 2000, 3) := by decide +kernel
theorem dX9_init_8 : decode cX9_init 8 = .ok (.newarray .int, 2) := by decide +kernel
theorem dX9_init_10 : decode cX9_init 10 = .ok (.putfield 9, 3) := by decide +kernel
theorem dX9_init_13 : decode cX9_init 13 = .ok (.aload_n 0, 1) := by decide +kernel
theorem dX9_init_14 : decode cX9_init 14 = .ok (.sipush 8000, 3) := by decide +kernel
theorem dX9_init_17 : decode cX9_init 17 = .ok (.newarray .int, 2) := by decide +kernel
theorem dX9_init_19 : decode cX9_init 19 = .ok (.putfield 13, 3) := by decide +kernel
theorem dX9_init_22 : decode cX9_init 22 = .ok (.aload_n 0, 1) := by decide +kernel
theorem dX9_init_23 : decode cX9_init 23 = .ok (.sipush 8000, 3) := by decide +kernel
theorem dX9_init_26 : decode cX9_init 26 = .ok (.newarray .int, 2) := by decide +kernel
theorem dX9_init_28 : decode cX9_init 28 = .ok (.putfield 16, 3) := by decide +kernel
theorem dX9_init_31 : decode cX9_init 31 = .ok (.aload_n 0, 1) := by decide +kernel
theorem dX9_init_32 : decode cX9_init 32 = .ok (.bipush (-2), 2) := by decide +kernel
theorem dX9_init_34 : decode cX9_init 34 = .ok (.putfield 19, 3) := by decide +kernel
theorem dX9_init_37 : decode cX9_init 37 = .ok (.aload_n 0, 1) := by decide +kernel
theorem dX9_init_38 : decode cX9_init 38 = .ok (.bipush (-2), 2) := by decide +kernel
theorem dX9_init_40 : decode cX9_init 40 = .ok (.putfield 23, 3) := by decide +kernel
theorem dX9_init_43 : decode cX9_init 43 = .ok (.aload_n 0, 1) := by decide +kernel
theorem dX9_init_44 : decode cX9_init 44 = .ok (.bipush 10, 2) := by decide +kernel
theorem dX9_init_46 : decode cX9_init 46 = .ok (.newarray .int, 2) := by decide +kernel
theorem dX9_init_48 : decode cX9_init 48 = .ok (.putfield 26, 3) := by decide +kernel
theorem dX9_init_51 : decode cX9_init 51 = .ok (.aload_n 0, 1) := by decide +kernel
theorem dX9_init_52 : decode cX9_init 52 = .ok (.sipush 1000, 3) := by decide +kernel
theorem dX9_init_55 : decode cX9_init 55 = .ok (.newarray .int, 2) := by decide +kernel
theorem dX9_init_57 : decode cX9_init 57 = .ok (.putfield 29, 3) := by decide +kernel
theorem dX9_init_60 : decode cX9_init 60 = .ok (.aload_n 0, 1) := by decide +kernel
theorem dX9_init_61 : decode cX9_init 61 = .ok (.sipush 2202, 3) := by decide +kernel
theorem dX9_init_64 : decode cX9_init 64 = .ok (.newarray .int, 2) := by decide +kernel
theorem dX9_init_66 : decode cX9_init 66 = .ok (.putfield 32, 3) := by decide +kernel
theorem dX9_init_69 : decode cX9_init 69 = .ok (.aload_n 0, 1) := by decide +kernel
theorem dX9_init_70 : decode cX9_init 70 = .ok (.sipush 2202, 3) := by decide +kernel
theorem dX9_init_73 : decode cX9_init 73 = .ok (.newarray .int, 2) := by decide +kernel
theorem dX9_init_75 : decode cX9_init 75 = .ok (.putfield 35, 3) := by decide +kernel
theorem dX9_init_78 : decode cX9_init 78 = .ok (.aload_n 0, 1) := by decide +kernel
theorem dX9_init_79 : decode cX9_init 79 = .ok (.sipush 19818, 3) := by decide +kernel
theorem dX9_init_82 : decode cX9_init 82 = .ok (.newarray .int, 2) := by decide +kernel
theorem dX9_init_84 : decode cX9_init 84 = .ok (.putfield 38, 3) := by decide +kernel
theorem dX9_init_87 : decode cX9_init 87 = .ok (.aload_n 0, 1) := by decide +kernel
theorem dX9_init_88 : decode cX9_init 88 = .ok (.bipush 9, 2) := by decide +kernel
theorem dX9_init_90 : decode cX9_init 90 = .ok (.newarray .int, 2) := by decide +kernel
theorem dX9_init_92 : decode cX9_init 92 = .ok (.putfield 41, 3) := by decide +kernel
theorem dX9_init_95 : decode cX9_init 95 = .ok (.aload_n 0, 1) := by decide +kernel
theorem dX9_init_96 : decode cX9_init 96 = .ok (.sipush 1000, 3) := by decide +kernel
theorem dX9_init_99 : decode cX9_init 99 = .ok (.putfield 44, 3) := by decide +kernel
theorem dX9_init_102 : decode cX9_init 102 = .ok (.aload_n 0, 1) := by decide +kernel
theorem dX9_init_103 : decode cX9_init 103 = .ok (.sipush 1616, 3) := by decide +kernel
theorem dX9_init_106 : decode cX9_init 106 = .ok (.newarray .int, 2) := by decide +kernel
theorem dX9_init_108 : decode cX9_init 108 = .ok (.putfield 47, 3) := by decide +kernel
theorem dX9_init_111 : decode cX9_init 111 = .ok (.aload_n 0, 1) := by decide +kernel
theorem dX9_init_112 : decode cX9_init 112 = .ok (.sipush 1616, 3) := by decide +kernel
theorem dX9_init_115 : decode cX9_init 115 = .ok (.newarray .int, 2) := by decide +kernel
theorem dX9_init_117 : decode cX9_init 117 = .ok (.putfield 50, 3) := by decide +kernel
theorem dX9_init_120 : decode cX9_init 120 = .ok (.aload_n 0, 1) := by decide +kernel
theorem dX9_init_121 : decode cX9_init 121 = .ok (.bipush (-2), 2) := by decide +kernel
theorem dX9_init_123 : decode cX9_init 123 = .ok (.putfield 53, 3) := by decide +kernel
theorem dX9_init_126 : decode cX9_init 126 = .ok (.aload_n 0, 1) := by decide +kernel
theorem dX9_init_127 : decode cX9_init 127 = .ok (.bipush 16, 2) := by decide +kernel
theorem dX9_init_129 : decode cX9_init 129 = .ok (.newarray .int, 2) := by decide +kernel
theorem dX9_init_131 : decode cX9_init 131 = .ok (.putfield 56, 3) := by decide +kernel
theorem dX9_init_134 : decode cX9_init 134 = .ok (.aload_n 0, 1) := by decide +kernel
theorem dX9_init_135 : decode cX9_init 135 = .ok (.bipush 16, 2) := by decide +kernel
theorem dX9_init_137 : decode cX9_init 137 = .ok (.newarray .int, 2) := by decide +kernel
theorem dX9_init_139 : decode cX9_init 139 = .ok (.putfield 59, 3) := by decide +kernel
theorem dX9_init_142 : decode cX9_init 142 = .ok (.aload_n 0, 1) := by decide +kernel
theorem dX9_init_143 : decode cX9_init 143 = .ok (.bipush 16, 2) := by decide +kernel
theorem dX9_init_145 : decode cX9_init 145 = .ok (.newarray .int, 2) := by decide +kernel
theorem dX9_init_147 : decode cX9_init 147 = .ok (.putfield 62, 3) := by decide +kernel
theorem dX9_init_150 : decode cX9_init 150 = .ok (.aload_n 0, 1) := by decide +kernel
theorem dX9_init_151 : decode cX9_init 151 = .ok (.sipush 8000, 3) := by decide +kernel
theorem dX9_init_154 : decode cX9_init 154 = .ok (.newarray .int, 2) := by decide +kernel
theorem dX9_init_156 : decode cX9_init 156 = .ok (.putfield 65, 3) := by decide +kernel
theorem dX9_init_159 : decode cX9_init 159 = .ok (.return_, 1) := by decide +kernel
theorem dX9_outside_0 : decode cX9_outside 0 = .ok (.iload_n 0, 1) := by decide +kernel
theorem dX9_outside_1 : decode cX9_outside 1 = .ok (.iload_n 1, 1) := by decide +kernel
theorem dX9_outside_2 : decode cX9_outside 2 = .ok (.if_icmp .lt 8, 3) := by decide +kernel
theorem dX9_outside_5 : decode cX9_outside 5 = .ok (.iload_n 0, 1) := by decide +kernel
theorem dX9_outside_6 : decode cX9_outside 6 = .ok (.iload_n 2, 1) := by decide +kernel
theorem dX9_outside_7 : decode cX9_outside 7 = .ok (.if_icmp .le 7, 3) := by decide +kernel
theorem dX9_outside_10 : decode cX9_outside 10 = .ok (.iconst 1, 1) := by decide +kernel
theorem dX9_outside_11 : decode cX9_outside 11 = .ok (.goto 4, 3) := by decide +kernel
theorem dX9_outside_14 : decode cX9_outside 14 = .ok (.iconst 0, 1) := by decide +kernel
theorem dX9_outside_15 : decode cX9_outside 15 = .ok (.ireturn, 1) := by decide +kernel
theorem dX9_feed_0 : decode cX9_feed 0 = .ok (.aload_n 0, 1) := by decide +kernel
theorem dX9_feed_1 : decode cX9_feed 1 = .ok (.getfield 68, 3) := by decide +kernel
theorem dX9_feed_4 : decode cX9_feed 4 = .ok (.sipush 1980, 3) := by decide +kernel
theorem dX9_feed_7 : decode cX9_feed 7 = .ok (.if_icmp .le 6, 3) := by decide +kernel
theorem dX9_feed_10 : decode cX9_feed 10 = .ok (.bipush (-3), 2) := by decide +kernel
theorem dX9_feed_12 : decode cX9_feed 12 = .ok (.ireturn, 1) := by decide +kernel
theorem dX9_feed_13 : decode cX9_feed 13 = .ok (.aload_n 0, 1) := by decide +kernel
theorem dX9_feed_14 : decode cX9_feed 14 = .ok (.iload_n 1, 1) := by decide +kernel
theorem dX9_feed_15 : decode cX9_feed 15 = .ok (.aload_n 0, 1) := by decide +kernel
theorem dX9_feed_16 : decode cX9_feed 16 = .ok (.getfield 68, 3) := by decide +kernel
theorem dX9_feed_19 : decode cX9_feed 19 = .ok (.invokevirtual 71, 3) := by decide +kernel
theorem dX9_feed_22 : decode cX9_feed 22 = .ok (.aload_n 0, 1) := by decide +kernel
theorem dX9_feed_23 : decode cX9_feed 23 = .ok (.iload_n 2, 1) := by decide +kernel
theorem dX9_feed_24 : decode cX9_feed 24 = .ok (.aload_n 0, 1) := by decide +kernel
theorem dX9_feed_25 : decode cX9_feed 25 = .ok (.getfield 68, 3) := by decide +kernel
theorem dX9_feed_28 : decode cX9_feed 28 = .ok (.iconst 4, 1) := by decide +kernel
theorem dX9_feed_29 : decode cX9_feed 29 = .ok (.iadd, 1) := by decide +kernel
theorem dX9_feed_30 : decode cX9_feed 30 = .ok (.invokevirtual 71, 3) := by decide +kernel
theorem dX9_feed_33 : decode cX9_feed 33 = .ok (.aload_n 0, 1) := by decide +kernel
theorem dX9_feed_34 : decode cX9_feed 34 = .ok (.iload_n 3, 1) := by decide +kernel
theorem dX9_feed_35 : decode cX9_feed 35 = .ok (.aload_n 0, 1) := by decide +kernel
theorem dX9_feed_36 : decode cX9_feed 36 = .ok (.getfield 68, 3) := by decide +kernel
theorem dX9_feed_39 : decode cX9_feed 39 = .ok (.bipush 8, 2) := by decide +kernel
