theorem dX9_readFile_425 : decode cX9_readFile 425 = .ok (.lcmp, 1) := by decide +kernel
theorem dX9_readFile_426 : decode cX9_readFile 426 = .ok (.ifCond .ge 31, 3) := by decide +kernel
theorem dX9_readFile_429 : decode cX9_readFile 429 = .ok (.aload_n 0, 1) := by decide +kernel
theorem dX9_readFile_430 : decode cX9_readFile 430 = .ok (.getfield 50, 3) := by decide +kernel
theorem dX9_readFile_433 : decode cX9_readFile 433 = .ok (.iload 10, 2) := by decide +kernel
theorem dX9_readFile_435 : decode cX9_readFile 435 = .ok (.iconst 2, 1) := by decide +kernel
theorem dX9_readFile_436 : decode cX9_readFile 436 = .ok (.iadd, 1) := by decide +kernel
theorem dX9_readFile_437 : decode cX9_readFile 437 = .ok (.iload 11, 2) := by decide +kernel
theorem dX9_readFile_439 : decode cX9_readFile 439 = .ok (.iadd, 1) := by decide +kernel
theorem dX9_readFile_440 : decode cX9_readFile 440 = .ok (.aload_n 0, 1) := by decide +kernel
theorem dX9_readFile_441 : decode cX9_readFile 441 = .ok (.getfield 9, 3) := by decide +kernel
theorem dX9_readFile_444 : decode cX9_readFile 444 = .ok (.iload 8, 2) := by decide +kernel
theorem dX9_readFile_446 : decode cX9_readFile 446 = .ok (.iload 11, 2) := by decide +kernel
theorem dX9_readFile_448 : decode cX9_readFile 448 = .ok (.iadd, 1) := by decide +kernel
theorem dX9_readFile_449 : decode cX9_readFile 449 = .ok (.iaload, 1) := by decide +kernel
theorem dX9_readFile_450 : decode cX9_readFile 450 = .ok (.iastore, 1) := by decide +kernel
theorem dX9_readFile_451 : decode cX9_readFile 451 = .ok (.iinc 11 1, 3) := by decide +kernel
theorem dX9_readFile_454 : decode cX9_readFile 454 = .ok (.goto (-34), 3) := by decide +kernel
theorem dX9_readFile_457 : decode cX9_readFile 457 = .ok (.aload_n 0, 1) := by decide +kernel
theorem dX9_readFile_458 : decode cX9_readFile 458 = .ok (.dup, 1) := by decide +kernel
theorem dX9_readFile_459 : decode cX9_readFile 459 = .ok (.getfield 152, 3) := by decide +kernel
theorem dX9_readFile_462 : decode cX9_readFile 462 = .ok (.iconst 1, 1) := by decide +kernel
theorem dX9_readFile_463 : decode cX9_readFile 463 = .ok (.iadd, 1) := by decide +kernel
theorem dX9_readFile_464 : decode cX9_readFile 464 = .ok (.putfield 152, 3) := by decide +kernel
theorem dX9_readFile_467 : decode cX9_readFile 467 = .ok (.iload 9, 2) := by decide +kernel
theorem dX9_readFile_469 : decode cX9_readFile 469 = .ok (.lload 6, 2) := by decide +kernel
theorem dX9_readFile_471 : decode cX9_readFile 471 = .ok (.ldc2_w 167, 3) := by decide +kernel
theorem dX9_readFile_474 : decode cX9_readFile 474 = .ok (.lrem, 1) := by decide +kernel
theorem dX9_readFile_475 : decode cX9_readFile 475 = .ok (.l2i, 1) := by decide +kernel
theorem dX9_readFile_476 : decode cX9_readFile 476 = .ok (.iadd, 1) := by decide +kernel
theorem dX9_readFile_477 : decode cX9_readFile 477 = .ok (.istore 4, 2) := by decide +kernel
theorem dX9_readFile_479 : decode cX9_readFile 479 = .ok (.goto (-381), 3) := by decide +kernel
theorem dX9_readFile_482 : decode cX9_readFile 482 = .ok (.iload_n 1, 1) := by decide +kernel
theorem dX9_readFile_483 : decode cX9_readFile 483 = .ok (.ifCond .eq 11, 3) := by decide +kernel
theorem dX9_readFile_486 : decode cX9_readFile 486 = .ok (.iload_n 2, 1) := by decide +kernel
theorem dX9_readFile_487 : decode cX9_readFile 487 = .ok (.ifCond .eq 7, 3) := by decide +kernel
theorem dX9_readFile_490 : decode cX9_readFile 490 = .ok (.iload_n 3, 1) := by decide +kernel
theorem dX9_readFile_491 : decode cX9_readFile 491 = .ok (.ifCond .ne 16, 3) := by decide +kernel
theorem dX9_readFile_494 : decode cX9_readFile 494 = .ok (.aload_n 0, 1) := by decide +kernel
theorem dX9_readFile_495 : decode cX9_readFile 495 = .ok (.bipush 10, 2) := by decide +kernel
theorem dX9_readFile_497 : decode cX9_readFile 497 = .ok (.aload_n 0, 1) := by decide +kernel
theorem dX9_readFile_498 : decode cX9_readFile 498 = .ok (.getfield 139, 3) := by decide +kernel
theorem dX9_readFile_501 : decode cX9_readFile 501 = .ok (.invokevirtual 155, 3) := by decide +kernel
theorem dX9_readFile_504 : decode cX9_readFile 504 = .ok (.ifCond .eq 7, 3) := by decide +kernel
theorem dX9_readFile_507 : decode cX9_readFile 507 = .ok (.iconst 1, 1) := by decide +kernel
theorem dX9_readFile_508 : decode cX9_readFile 508 = .ok (.goto 4, 3) := by decide +kernel
theorem dX9_readFile_511 : decode cX9_readFile 511 = .ok (.iconst 0, 1) := by decide +kernel
theorem dX9_readFile_512 : decode cX9_readFile 512 = .ok (.ireturn, 1) := by decide +kernel
theorem dX9_readA_0 : decode cX9_readA 0 = .ok (.iload_n 3, 1) := by decide +kernel
theorem dX9_readA_1 : decode cX9_readA 1 = .ok (.bipush 13, 2) := by decide +kernel
theorem dX9_readA_3 : decode cX9_readA 3 = .ok (.if_icmp .eq 13, 3) := by decide +kernel
theorem dX9_readA_6 : decode cX9_readA 6 = .ok (.aload_n 0, 1) := by decide +kernel
theorem dX9_readA_7 : decode cX9_readA 7 = .ok (.bipush 6, 2) := by decide +kernel
theorem dX9_readA_9 : decode cX9_readA 9 = .ok (.iload_n 1, 1) := by decide +kernel
theorem dX9_readA_10 : decode cX9_readA 10 = .ok (.iconst 4, 1) := by decide +kernel
theorem dX9_readA_11 : decode cX9_readA 11 = .ok (.iadd, 1) := by decide +kernel
theorem dX9_readA_12 : decode cX9_readA 12 = .ok (.invokevirtual 155, 3) := by decide +kernel
theorem dX9_readA_15 : decode cX9_readA 15 = .ok (.ireturn, 1) := by decide +kernel
theorem dX9_readA_16 : decode cX9_readA 16 = .ok (.iconst 0, 1) := by decide +kernel
theorem dX9_readA_17 : decode cX9_readA 17 = .ok (.istore 4, 2) := by decide +kernel
theorem dX9_readA_19 : decode cX9_readA 19 = .ok (.iload 4, 2) := by decide +kernel
theorem dX9_readA_21 : decode cX9_readA 21 = .ok (.bipush 10, 2) := by decide +kernel
theorem dX9_readA_23 : decode cX9_readA 23 = .ok (.if_icmp .ge 39, 3) := by decide +kernel
theorem dX9_readA_26 : decode cX9_readA 26 = .ok (.aload_n 0, 1) := by decide +kernel
theorem dX9_readA_27 : decode cX9_readA 27 = .ok (.getfield 9, 3) := by decide +kernel
theorem dX9_readA_30 : decode cX9_readA 30 = .ok (.iload_n 2, 1) := by decide +kernel
theorem dX9_readA_31 : decode cX9_readA 31 = .ok (.iload 4, 2) := by decide +kernel
theorem dX9_readA_33 : decode cX9_readA 33 = .ok (.iadd, 1) := by decide +kernel
theorem dX9_readA_34 : decode cX9_readA 34 = .ok (.iaload, 1) := by decide +kernel
theorem dX9_readA_35 : decode cX9_readA 35 = .ok (.aload_n 0, 1) := by decide +kernel
theorem dX9_readA_36 : decode cX9_readA 36 = .ok (.getfield 26, 3) := by decide +kernel
theorem dX9_readA_39 : decode cX9_readA 39 = .ok (.iload 4, 2) := by decide +kernel
theorem dX9_readA_41 : decode cX9_readA 41 = .ok (.iaload, 1) := by decide +kernel
theorem dX9_readA_42 : decode cX9_readA 42 = .ok (.if_icmp .eq 14, 3) := by decide +kernel
theorem dX9_readA_45 : decode cX9_readA 45 = .ok (.aload_n 0, 1) := by decide +kernel
theorem dX9_readA_46 : decode cX9_readA 46 = .ok (.bipush 6, 2) := by decide +kernel
theorem dX9_readA_48 : decode cX9_readA 48 = .ok (.iload_n 2, 1) := by decide +kernel
theorem dX9_readA_49 : decode cX9_readA 49 = .ok (.iload 4, 2) := by decide +kernel
theorem dX9_readA_51 : decode cX9_readA 51 = .ok (.iadd, 1) := by decide +kernel
theorem dX9_readA_52 : decode cX9_readA 52 = .ok (.invokevirtual 155, 3) := by decide +kernel
theorem dX9_readA_55 : decode cX9_readA 55 = .ok (.ireturn, 1) := by decide +kernel
theorem dX9_readA_56 : decode cX9_readA 56 = .ok (.iinc 4 1, 3) := by decide +kernel
theorem dX9_readA_59 : decode cX9_readA 59 = .ok (.goto (-40), 3) := by decide +kernel
theorem dX9_readA_62 : decode cX9_readA 62 = .ok (.aload_n 0, 1) := by decide +kernel
theorem dX9_readA_63 : decode cX9_readA 63 = .ok (.getfield 35, 3) := by decide +kernel
theorem dX9_readA_66 : decode cX9_readA 66 = .ok (.sipush 1000, 3) := by decide +kernel
theorem dX9_readA_69 : decode cX9_readA 69 = .ok (.aload_n 0, 1) := by decide +kernel
theorem dX9_readA_70 : decode cX9_readA 70 = .ok (.getfield 9, 3) := by decide +kernel
theorem dX9_readA_73 : decode cX9_readA 73 = .ok (.iload_n 2, 1) := by decide +kernel
theorem dX9_readA_74 : decode cX9_readA 74 = .ok (.bipush 10, 2) := by decide +kernel
theorem dX9_readA_76 : decode cX9_readA 76 = .ok (.iadd, 1) := by decide +kernel
theorem dX9_readA_77 : decode cX9_readA 77 = .ok (.iaload, 1) := by decide +kernel
theorem dX9_readA_78 : decode cX9_readA 78 = .ok (.bipush 16, 2) := by decide +kernel
theorem dX9_readA_80 : decode cX9_readA 80 = .ok (.ishl, 1) := by decide +kernel
theorem dX9_readA_81 : decode cX9_readA 81 = .ok (.aload_n 0, 1) := by decide +kernel
theorem dX9_readA_82 : decode cX9_readA 82 = .ok (.getfield 9, 3) := by decide +kernel
theorem dX9_readA_85 : decode cX9_readA 85 = .ok (.iload_n 2, 1) := by decide +kernel
theorem dX9_readA_86 : decode cX9_readA 86 = .ok (.bipush 11, 2) := by decide +kernel
theorem dX9_readA_88 : decode cX9_readA 88 = .ok (.iadd, 1) := by decide +kernel
theorem dX9_readA_89 : decode cX9_readA 89 = .ok (.iaload, 1) := by decide +kernel
theorem dX9_readA_90 : decode cX9_readA 90 = .ok (.bipush 8, 2) := by decide +kernel
theorem dX9_readA_92 : decode cX9_readA 92 = .ok (.ishl, 1) := by decide +kernel
theorem dX9_readA_93 : decode cX9_readA 93 = .ok (.ior, 1) := by decide +kernel
theorem dX9_readA_94 : decode cX9_readA 94 = .ok (.aload_n 0, 1) := by decide +kernel
theorem dX9_readA_95 : decode cX9_readA 95 = .ok (.getfield 9, 3) := by decide +kernel
theorem dX9_readA_98 : decode cX9_readA 98 = .ok (.iload_n 2, 1) := by decide +kernel
theorem dX9_readA_99 : decode cX9_readA 99 = .ok (.bipush 12, 2) := by decide +kernel
theorem dX9_readA_101 : decode cX9_readA 101 = .ok (.iadd, 1) := by decide +kernel
theorem dX9_readA_102 : decode cX9_readA 102 = .ok (.iaload, 1) := by decide +kernel
theorem dX9_readA_103 : decode cX9_readA 103 = .ok (.ior, 1) := by decide +kernel
theorem dX9_readA_104 : decode cX9_readA 104 = .ok (.iastore, 1) := by decide +kernel
theorem dX9_readA_105 : decode cX9_readA 105 = .ok (.iconst 1, 1) := by decide +kernel
theorem dX9_readA_106 : decode cX9_readA 106 = .ok (.ireturn, 1) := by decide +kernel
theorem dX9_readB_0 : decode cX9_readB 0 = .ok (.iconst 0, 1) := by decide +kernel
theorem dX9_readB_1 : decode cX9_readB 1 = .ok (.istore_n 3, 1) := by decide +kernel
theorem dX9_readB_2 : decode cX9_readB 2 = .ok (.iload_n 3, 1) := by decide +kernel
theorem dX9_readB_3 : decode cX9_readB 3 = .ok (.sipush 1000, 3) := by decide +kernel
theorem dX9_readB_6 : decode cX9_readB 6 = .ok (.if_icmp .ge 33, 3) := by decide +kernel
theorem dX9_readB_9 : decode cX9_readB 9 = .ok (.aload_n 0, 1) := by decide +kernel
theorem dX9_readB_10 : decode cX9_readB 10 = .ok (.getfield 35, 3) := by decide +kernel
theorem dX9_readB_13 : decode cX9_readB 13 = .ok (.iload_n 3, 1) := by decide +kernel
theorem dX9_readB_14 : decode cX9_readB 14 = .ok (.iload_n 3, 1) := by decide +kernel
theorem dX9_readB_15 : decode cX9_readB 15 = .ok (.aload_n 0, 1) := by decide +kernel
theorem dX9_readB_16 : decode cX9_readB 16 = .ok (.getfield 82, 3) := by decide +kernel
theorem dX9_readB_19 : decode cX9_readB 19 = .ok (.if_icmp .ge 12, 3) := by decide +kernel
theorem dX9_readB_22 : decode cX9_readB 22 = .ok (.aload_n 0, 1) := by decide +kernel
theorem dX9_readB_23 : decode cX9_readB 23 = .ok (.getfield 29, 3) := by decide +kernel
theorem dX9_readB_26 : decode cX9_readB 26 = .ok (.iload_n 3, 1) := by decide +kernel
theorem dX9_readB_27 : decode cX9_readB 27 = .ok (.iaload, 1) := by decide +kernel
theorem dX9_readB_28 : decode cX9_readB 28 = .ok (.goto 4, 3) := by decide +kernel
theorem dX9_readB_31 : decode cX9_readB 31 = .ok (.iconst 0, 1) := by decide +kernel
theorem dX9_readB_32 : decode cX9_readB 32 = .ok (.iastore, 1) := by decide +kernel
theorem dX9_readB_33 : decode cX9_readB 33 = .ok (.iinc 3 1, 3) := by decide +kernel
theorem dX9_readB_36 : decode cX9_readB 36 = .ok (.goto (-34), 3) := by decide +kernel
theorem dX9_readB_39 : decode cX9_readB 39 = .ok (.iconst 0, 1) := by decide +kernel
theorem dX9_readB_40 : decode cX9_readB 40 = .ok (.istore_n 3, 1) := by decide +kernel
theorem dX9_readB_41 : decode cX9_readB 41 = .ok (.iload_n 1, 1) := by decide +kernel
theorem dX9_readB_42 : decode cX9_readB 42 = .ok (.istore 4, 2) := by decide +kernel
theorem dX9_readB_44 : decode cX9_readB 44 = .ok (.iload 4, 2) := by decide +kernel
theorem dX9_readB_46 : decode cX9_readB 46 = .ok (.iload_n 2, 1) := by decide +kernel
theorem dX9_readB_47 : decode cX9_readB 47 = .ok (.if_icmp .ge 119, 3) := by decide +kernel
theorem dX9_readB_50 : decode cX9_readB 50 = .ok (.aload_n 0, 1) := by decide +kernel
theorem dX9_readB_51 : decode cX9_readB 51 = .ok (.getfield 9, 3) := by decide +kernel
theorem dX9_readB_54 : decode cX9_readB 54 = .ok (.iload 4, 2) := by decide +kernel
theorem dX9_readB_56 : decode cX9_readB 56 = .ok (.iaload, 1) := by decide +kernel
theorem dX9_readB_57 : decode cX9_readB 57 = .ok (.ifCond .eq 49, 3) := by decide +kernel
theorem dX9_readB_60 : decode cX9_readB 60 = .ok (.iload_n 3, 1) := by decide +kernel
theorem dX9_readB_61 : decode cX9_readB 61 = .ok (.aload_n 0, 1) := by decide +kernel
theorem dX9_readB_62 : decode cX9_readB 62 = .ok (.getfield 82, 3) := by decide +kernel
theorem dX9_readB_65 : decode cX9_readB 65 = .ok (.if_icmp .ne 12, 3) := by decide +kernel
theorem dX9_readB_68 : decode cX9_readB 68 = .ok (.aload_n 0, 1) := by decide +kernel
theorem dX9_readB_69 : decode cX9_readB 69 = .ok (.bipush 7, 2) := by decide +kernel
theorem dX9_readB_71 : decode cX9_readB 71 = .ok (.iload 4, 2) := by decide +kernel
theorem dX9_readB_73 : decode cX9_readB 73 = .ok (.invokevirtual 155, 3) := by decide +kernel
theorem dX9_readB_76 : decode cX9_readB 76 = .ok (.ireturn, 1) := by decide +kernel
theorem dX9_readB_77 : decode cX9_readB 77 = .ok (.aload_n 0, 1) := by decide +kernel
theorem dX9_readB_78 : decode cX9_readB 78 = .ok (.getfield 35, 3) := by decide +kernel
theorem dX9_readB_81 : decode cX9_readB 81 = .ok (.iload_n 3, 1) := by decide +kernel
theorem dX9_readB_82 : decode cX9_readB 82 = .ok (.aload_n 0, 1) := by decide +kernel
theorem dX9_readB_83 : decode cX9_readB 83 = .ok (.getfield 29, 3) := by decide +kernel
theorem dX9_readB_86 : decode cX9_readB 86 = .ok (.iload_n 3, 1) := by decide +kernel
theorem dX9_readB_87 : decode cX9_readB 87 = .ok (.iaload, 1) := by decide +kernel
theorem dX9_readB_88 : decode cX9_readB 88 = .ok (.aload_n 0, 1) := by decide +kernel
theorem dX9_readB_89 : decode cX9_readB 89 = .ok (.getfield 9, 3) := by decide +kernel
theorem dX9_readB_92 : decode cX9_readB 92 = .ok (.iload 4, 2) := by decide +kernel
theorem dX9_readB_94 : decode cX9_readB 94 = .ok (.iaload, 1) := by decide +kernel
theorem dX9_readB_95 : decode cX9_readB 95 = .ok (.ixor, 1) := by decide +kernel
theorem dX9_readB_96 : decode cX9_readB 96 = .ok (.iastore, 1) := by decide +kernel
theorem dX9_readB_97 : decode cX9_readB 97 = .ok (.iinc 3 1, 3) := by decide +kernel
theorem dX9_readB_100 : decode cX9_readB 100 = .ok (.iinc 4 1, 3) := by decide +kernel
theorem dX9_readB_103 : decode cX9_readB 103 = .ok (.goto (-59), 3) := by decide +kernel
theorem dX9_readB_106 : decode cX9_readB 106 = .ok (.iload 4, 2) := by decide +kernel
theorem dX9_readB_108 : decode cX9_readB 108 = .ok (.iconst 1, 1) := by decide +kernel
theorem dX9_readB_109 : decode cX9_readB 109 = .ok (.iadd, 1) := by decide +kernel
theorem dX9_readB_110 : decode cX9_readB 110 = .ok (.iload_n 2, 1) := by decide +kernel
theorem dX9_readB_111 : decode cX9_readB 111 = .ok (.if_icmp .ne 11, 3) := by decide +kernel
theorem dX9_readB_114 : decode cX9_readB 114 = .ok (.aload_n 0, 1) := by decide +kernel
theorem dX9_readB_115 : decode cX9_readB 115 = .ok (.bipush 7, 2) := by decide +kernel
theorem dX9_readB_117 : decode cX9_readB 117 = .ok (.iload_n 2, 1) := by decide +kernel
theorem dX9_readB_118 : decode cX9_readB 118 = .ok (.invokevirtual 155, 3) := by decide +kernel
theorem dX9_readB_121 : decode cX9_readB 121 = .ok (.ireturn, 1) := by decide +kernel
theorem dX9_readB_122 : decode cX9_readB 122 = .ok (.aload_n 0, 1) := by decide +kernel
theorem dX9_readB_123 : decode cX9_readB 123 = .ok (.getfield 9, 3) := by decide +kernel
theorem dX9_readB_126 : decode cX9_readB 126 = .ok (.iload 4, 2) := by decide +kernel
theorem dX9_readB_128 : decode cX9_readB 128 = .ok (.iconst 1, 1) := by decide +kernel
theorem dX9_readB_129 : decode cX9_readB 129 = .ok (.iadd, 1) := by decide +kernel
theorem dX9_readB_130 : decode cX9_readB 130 = .ok (.iaload, 1) := by decide +kernel
theorem dX9_readB_131 : decode cX9_readB 131 = .ok (.iconst 1, 1) := by decide +kernel
theorem dX9_readB_132 : decode cX9_readB 132 = .ok (.iadd, 1) := by decide +kernel
theorem dX9_readB_133 : decode cX9_readB 133 = .ok (.istore 5, 2) := by decide +kernel
theorem dX9_readB_135 : decode cX9_readB 135 = .ok (.iload_n 3, 1) := by decide +kernel
theorem dX9_readB_136 : decode cX9_readB 136 = .ok (.iload 5, 2) := by decide +kernel
theorem dX9_readB_138 : decode cX9_readB 138 = .ok (.iadd, 1) := by decide +kernel
theorem dX9_readB_139 : decode cX9_readB 139 = .ok (.aload_n 0, 1) := by decide +kernel
theorem dX9_readB_140 : decode cX9_readB 140 = .ok (.getfield 82, 3) := by decide +kernel
theorem dX9_readB_143 : decode cX9_readB 143 = .ok (.if_icmp .le 12, 3) := by decide +kernel
theorem dX9_readB_146 : decode cX9_readB 146 = .ok (.aload_n 0, 1) := by decide +kernel
theorem dX9_readB_147 : decode cX9_readB 147 = .ok (.bipush 7, 2) := by decide +kernel
theorem dX9_readB_149 : decode cX9_readB 149 = .ok (.iload 4, 2) := by decide +kernel
theorem dX9_readB_151 : decode cX9_readB 151 = .ok (.invokevirtual 155, 3) := by decide +kernel
theorem dX9_readB_154 : decode cX9_readB 154 = .ok (.ireturn, 1) := by decide +kernel
theorem dX9_readB_155 : decode cX9_readB 155 = .ok (.iload_n 3, 1) := by decide +kernel
theorem dX9_readB_156 : decode cX9_readB 156 = .ok (.iload 5, 2) := by decide +kernel
theorem dX9_readB_158 : decode cX9_readB 158 = .ok (.iadd, 1) := by decide +kernel
theorem dX9_readB_159 : decode cX9_readB 159 = .ok (.istore_n 3, 1) := by decide +kernel
theorem dX9_readB_160 : decode cX9_readB 160 = .ok (.iinc 4 2, 3) := by decide +kernel
theorem dX9_readB_163 : decode cX9_readB 163 = .ok (.goto (-119), 3) := by decide +kernel
theorem dX9_readB_166 : decode cX9_readB 166 = .ok (.iconst 1, 1) := by decide +kernel
theorem dX9_readB_167 : decode cX9_readB 167 = .ok (.ireturn, 1) := by decide +kernel
theorem dX9_readC_0 : decode cX9_readC 0 = .ok (.iload_n 3, 1) := by decide +kernel
theorem dX9_readC_1 : decode cX9_readC 1 = .ok (.aload_n 0, 1) := by decide +kernel
theorem dX9_readC_2 : decode cX9_readC 2 = .ok (.getfield 82, 3) := by decide +kernel
theorem dX9_readC_5 : decode cX9_readC 5 = .ok (.if_icmp .eq 13, 3) := by decide +kernel
theorem dX9_readC_8 : decode cX9_readC 8 = .ok (.aload_n 0, 1) := by decide +kernel
theorem dX9_readC_9 : decode cX9_readC 9 = .ok (.bipush 7, 2) := by decide +kernel
theorem dX9_readC_11 : decode cX9_readC 11 = .ok (.iload_n 1, 1) := by decide +kernel
theorem dX9_readC_12 : decode cX9_readC 12 = .ok (.iconst 4, 1) := by decide +kernel
theorem dX9_readC_13 : decode cX9_readC 13 = .ok (.iadd, 1) := by decide +kernel
theorem dX9_readC_14 : decode cX9_readC 14 = .ok (.invokevirtual 155, 3) := by decide +kernel
theorem dX9_readC_17 : decode cX9_readC 17 = .ok (.ireturn, 1) := by decide +kernel
theorem dX9_readC_18 : decode cX9_readC 18 = .ok (.iconst 0, 1) := by decide +kernel
theorem dX9_readC_19 : decode cX9_readC 19 = .ok (.istore 4, 2) := by decide +kernel
theorem dX9_readC_21 : decode cX9_readC 21 = .ok (.iload 4, 2) := by decide +kernel
theorem dX9_readC_23 : decode cX9_readC 23 = .ok (.sipush 1000, 3) := by decide +kernel
theorem dX9_readC_26 : decode cX9_readC 26 = .ok (.if_icmp .ge 38, 3) := by decide +kernel
theorem dX9_readC_29 : decode cX9_readC 29 = .ok (.aload_n 0, 1) := by decide +kernel
theorem dX9_readC_30 : decode cX9_readC 30 = .ok (.getfield 35, 3) := by decide +kernel
theorem dX9_readC_33 : decode cX9_readC 33 = .ok (.iload 4, 2) := by decide +kernel
theorem dX9_readC_35 : decode cX9_readC 35 = .ok (.iload 4, 2) := by decide +kernel
theorem dX9_readC_37 : decode cX9_readC 37 = .ok (.aload_n 0, 1) := by decide +kernel
theorem dX9_readC_38 : decode cX9_readC 38 = .ok (.getfield 82, 3) := by decide +kernel
theorem dX9_readC_41 : decode cX9_readC 41 = .ok (.if_icmp .ge 15, 3) := by decide +kernel
theorem dX9_readC_44 : decode cX9_readC 44 = .ok (.aload_n 0, 1) := by decide +kernel
theorem dX9_readC_45 : decode cX9_readC 45 = .ok (.getfield 9, 3) := by decide +kernel
theorem dX9_readC_48 : decode cX9_readC 48 = .ok (.iload_n 2, 1) := by decide +kernel
theorem dX9_readC_49 : decode cX9_readC 49 = .ok (.iload 4, 2) := by decide +kernel
theorem dX9_readC_51 : decode cX9_readC 51 = .ok (.iadd, 1) := by decide +kernel
theorem dX9_readC_52 : decode cX9_readC 52 = .ok (.iaload, 1) := by decide +kernel
theorem dX9_readC_53 : decode cX9_readC 53 = .ok (.goto 4, 3) := by decide +kernel
theorem dX9_readC_56 : decode cX9_readC 56 = .ok (.iconst 0, 1) := by decide +kernel
theorem dX9_readC_57 : decode cX9_readC 57 = .ok (.iastore, 1) := by decide +kernel
theorem dX9_readC_58 : decode cX9_readC 58 = .ok (.iinc 4 1, 3) := by decide +kernel
theorem dX9_readC_61 : decode cX9_readC 61 = .ok (.goto (-40), 3) := by decide +kernel
theorem dX9_readC_64 : decode cX9_readC 64 = .ok (.iconst 1, 1) := by decide +kernel
theorem dX9_readC_65 : decode cX9_readC 65 = .ok (.ireturn, 1) := by decide +kernel
theorem dX9_readD_0 : decode cX9_readD 0 = .ok (.aload_n 0, 1) := by decide +kernel
theorem dX9_readD_1 : decode cX9_readD 1 = .ok (.getfield 35, 3) := by decide +kernel
theorem dX9_readD_4 : decode cX9_readD 4 = .ok (.sipush 1001, 3) := by decide +kernel
theorem dX9_readD_7 : decode cX9_readD 7 = .ok (.iconst 0, 1) := by decide +kernel
theorem dX9_readD_8 : decode cX9_readD 8 = .ok (.iastore, 1) := by decide +kernel
theorem dX9_readD_9 : decode cX9_readD 9 = .ok (.iload_n 1, 1) := by decide +kernel
theorem dX9_readD_10 : decode cX9_readD 10 = .ok (.istore_n 3, 1) := by decide +kernel
theorem dX9_readD_11 : decode cX9_readD 11 = .ok (.iload_n 3, 1) := by decide +kernel
theorem dX9_readD_12 : decode cX9_readD 12 = .ok (.iload_n 2, 1) := by decide +kernel
theorem dX9_readD_13 : decode cX9_readD 13 = .ok (.if_icmp .lt 14, 3) := by decide +kernel
theorem dX9_readD_16 : decode cX9_readD 16 = .ok (.aload_n 0, 1) := by decide +kernel
theorem dX9_readD_17 : decode cX9_readD 17 = .ok (.getfield 35, 3) := by decide +kernel
theorem dX9_readD_20 : decode cX9_readD 20 = .ok (.sipush 1001, 3) := by decide +kernel
theorem dX9_readD_23 : decode cX9_readD 23 = .ok (.iaload, 1) := by decide +kernel
theorem dX9_readD_24 : decode cX9_readD 24 = .ok (.ifCond .ne 521, 3) := by decide +kernel
theorem dX9_readD_27 : decode cX9_readD 27 = .ok (.aload_n 0, 1) := by decide +kernel
theorem dX9_readD_28 : decode cX9_readD 28 = .ok (.getfield 35, 3) := by decide +kernel
theorem dX9_readD_31 : decode cX9_readD 31 = .ok (.sipush 1001, 3) := by decide +kernel
theorem dX9_readD_34 : decode cX9_readD 34 = .ok (.iaload, 1) := by decide +kernel
theorem dX9_readD_35 : decode cX9_readD 35 = .ok (.bipush 20, 2) := by decide +kernel
theorem dX9_readD_37 : decode cX9_readD 37 = .ok (.if_icmp .ne 11, 3) := by decide +kernel
theorem dX9_readD_40 : decode cX9_readD 40 = .ok (.aload_n 0, 1) := by decide +kernel
theorem dX9_readD_41 : decode cX9_readD 41 = .ok (.bipush 9, 2) := by decide +kernel
theorem dX9_readD_43 : decode cX9_readD 43 = .ok (.iload_n 3, 1) := by decide +kernel
theorem dX9_readD_44 : decode cX9_readD 44 = .ok (.invokevirtual 155, 3) := by decide +kernel
theorem dX9_readD_47 : decode cX9_readD 47 = .ok (.ireturn, 1) := by decide +kernel
theorem dX9_readD_48 : decode cX9_readD 48 = .ok (.iload_n 2, 1) := by decide +kernel
theorem dX9_readD_49 : decode cX9_readD 49 = .ok (.iload_n 3, 1) := by decide +kernel
theorem dX9_readD_50 : decode cX9_readD 50 = .ok (.isub, 1) := by decide +kernel
theorem dX9_readD_51 : decode cX9_readD 51 = .ok (.bipush 8, 2) := by decide +kernel
theorem dX9_readD_53 : decode cX9_readD 53 = .ok (.if_icmp .ge 11, 3) := by decide +kernel
theorem dX9_readD_56 : decode cX9_readD 56 = .ok (.aload_n 0, 1) := by decide +kernel
theorem dX9_readD_57 : decode cX9_readD 57 = .ok (.bipush 8, 2) := by decide +kernel
theorem dX9_readD_59 : decode cX9_readD 59 = .ok (.iload_n 2, 1) := by decide +kernel
theorem dX9_readD_60 : decode cX9_readD 60 = .ok (.invokevirtual 155, 3) := by decide +kernel
theorem dX9_readD_63 : decode cX9_readD 63 = .ok (.ireturn, 1) := by decide +kernel
theorem dX9_readD_64 : decode cX9_readD 64 = .ok (.sipush 1002, 3) := by decide +kernel
theorem dX9_readD_67 : decode cX9_readD 67 = .ok (.aload_n 0, 1) := by decide +kernel
theorem dX9_readD_68 : decode cX9_readD 68 = .ok (.getfield 35, 3) := by decide +kernel
theorem dX9_readD_71 : decode cX9_readD 71 = .ok (.sipush 1001, 3) := by decide +kernel
theorem dX9_readD_74 : decode cX9_readD 74 = .ok (.iaload, 1) := by decide +kernel
theorem dX9_readD_75 : decode cX9_readD 75 = .ok (.bipush 60, 2) := by decide +kernel
theorem dX9_readD_77 : decode cX9_readD 77 = .ok (.imul, 1) := by decide +kernel
theorem dX9_readD_78 : decode cX9_readD 78 = .ok (.iadd, 1) := by decide +kernel
theorem dX9_readD_79 : decode cX9_readD 79 = .ok (.istore 4, 2) := by decide +kernel
theorem dX9_readD_81 : decode cX9_readD 81 = .ok (.aload_n 0, 1) := by decide +kernel
theorem dX9_readD_82 : decode cX9_readD 82 = .ok (.getfield 35, 3) := by decide +kernel
theorem dX9_readD_85 : decode cX9_readD 85 = .ok (.sipush 1001, 3) := by decide +kernel
theorem dX9_readD_88 : decode cX9_readD 88 = .ok (.iaload, 1) := by decide +kernel
theorem dX9_readD_89 : decode cX9_readD 89 = .ok (.ifCond .ne 7, 3) := by decide +kernel
theorem dX9_readD_92 : decode cX9_readD 92 = .ok (.iconst 1, 1) := by decide +kernel
theorem dX9_readD_93 : decode cX9_readD 93 = .ok (.goto 4, 3) := by decide +kernel
theorem dX9_readD_96 : decode cX9_readD 96 = .ok (.iconst 0, 1) := by decide +kernel
theorem dX9_readD_97 : decode cX9_readD 97 = .ok (.istore 5, 2) := by decide +kernel
theorem dX9_readD_99 : decode cX9_readD 99 = .ok (.iconst 0, 1) := by decide +kernel
theorem dX9_readD_100 : decode cX9_readD 100 = .ok (.istore 6, 2) := by decide +kernel
theorem dX9_readD_102 : decode cX9_readD 102 = .ok (.iload 5, 2) := by decide +kernel
theorem dX9_readD_104 : decode cX9_readD 104 = .ok (.ifCond .eq 39, 3) := by decide +kernel
theorem dX9_readD_107 : decode cX9_readD 107 = .ok (.iload 6, 2) := by decide +kernel
theorem dX9_readD_109 : decode cX9_readD 109 = .ok (.bipush 6, 2) := by decide +kernel
theorem dX9_readD_111 : decode cX9_readD 111 = .ok (.if_icmp .ge 32, 3) := by decide +kernel
theorem dX9_readD_114 : decode cX9_readD 114 = .ok (.aload_n 0, 1) := by decide +kernel
theorem dX9_readD_115 : decode cX9_readD 115 = .ok (.getfield 9, 3) := by decide +kernel
theorem dX9_readD_118 : decode cX9_readD 118 = .ok (.iload_n 3, 1) := by decide +kernel
theorem dX9_readD_119 : decode cX9_readD 119 = .ok (.iload 6, 2) := by decide +kernel
theorem dX9_readD_121 : decode cX9_readD 121 = .ok (.iadd, 1) := by decide +kernel
theorem dX9_readD_122 : decode cX9_readD 122 = .ok (.iaload, 1) := by decide +kernel
theorem dX9_readD_123 : decode cX9_readD 123 = .ok (.ifCond .eq 14, 3) := by decide +kernel
theorem dX9_readD_126 : decode cX9_readD 126 = .ok (.aload_n 0, 1) := by decide +kernel
theorem dX9_readD_127 : decode cX9_readD 127 = .ok (.bipush 8, 2) := by decide +kernel
theorem dX9_readD_129 : decode cX9_readD 129 = .ok (.iload_n 3, 1) := by decide +kernel
theorem dX9_readD_130 : decode cX9_readD 130 = .ok (.iload 6, 2) := by decide +kernel
theorem dX9_readD_132 : decode cX9_readD 132 = .ok (.iadd, 1) := by decide +kernel
theorem dX9_readD_133 : decode cX9_readD 133 = .ok (.invokevirtual 155, 3) := by decide +kernel
theorem dX9_readD_136 : decode cX9_readD 136 = .ok (.ireturn, 1) := by decide +kernel
theorem dX9_readD_137 : decode cX9_readD 137 = .ok (.iinc 6 1, 3) := by decide +kernel
theorem dX9_readD_140 : decode cX9_readD 140 = .ok (.goto (-38), 3) := by decide +kernel
theorem dX9_readD_143 : decode cX9_readD 143 = .ok (.aload_n 0, 1) := by decide +kernel
theorem dX9_readD_144 : decode cX9_readD 144 = .ok (.getfield 9, 3) := by decide +kernel
theorem dX9_readD_147 : decode cX9_readD 147 = .ok (.iload_n 3, 1) := by decide +kernel
theorem dX9_readD_148 : decode cX9_readD 148 = .ok (.iconst 3, 1) := by decide +kernel
theorem dX9_readD_149 : decode cX9_readD 149 = .ok (.iadd, 1) := by decide +kernel
theorem dX9_readD_150 : decode cX9_readD 150 = .ok (.iaload, 1) := by decide +kernel
theorem dX9_readD_151 : decode cX9_readD 151 = .ok (.istore 6, 2) := by decide +kernel
theorem dX9_readD_153 : decode cX9_readD 153 = .ok (.iload 6, 2) := by decide +kernel
theorem dX9_readD_155 : decode cX9_readD 155 = .ok (.bipush 31, 2) := by decide +kernel
theorem dX9_readD_157 : decode cX9_readD 157 = .ok (.if_icmp .le 13, 3) := by decide +kernel
theorem dX9_readD_160 : decode cX9_readD 160 = .ok (.aload_n 0, 1) := by decide +kernel
theorem dX9_readD_161 : decode cX9_readD 161 = .ok (.bipush 8, 2) := by decide +kernel
theorem dX9_readD_163 : decode cX9_readD 163 = .ok (.iload_n 3, 1) := by decide +kernel
theorem dX9_readD_164 : decode cX9_readD 164 = .ok (.iconst 3, 1) := by decide +kernel
theorem dX9_readD_165 : decode cX9_readD 165 = .ok (.iadd, 1) := by decide +kernel
theorem dX9_readD_166 : decode cX9_readD 166 = .ok (.invokevirtual 155, 3) := by decide +kernel
theorem dX9_readD_169 : decode cX9_readD 169 = .ok (.ireturn, 1) := by decide +kernel
theorem dX9_readD_170 : decode cX9_readD 170 = .ok (.iload 6, 2) := by decide +kernel
theorem dX9_readD_172 : decode cX9_readD 172 = .ok (.bipush 15, 2) := by decide +kernel
theorem dX9_readD_174 : decode cX9_readD 174 = .ok (.if_icmp .le 24, 3) := by decide +kernel
theorem dX9_readD_177 : decode cX9_readD 177 = .ok (.aload_n 0, 1) := by decide +kernel
theorem dX9_readD_178 : decode cX9_readD 178 = .ok (.getfield 9, 3) := by decide +kernel
theorem dX9_readD_181 : decode cX9_readD 181 = .ok (.iload_n 3, 1) := by decide +kernel
theorem dX9_readD_182 : decode cX9_readD 182 = .ok (.iconst 4, 1) := by decide +kernel
theorem dX9_readD_183 : decode cX9_readD 183 = .ok (.iadd, 1) := by decide +kernel
theorem dX9_readD_184 : decode cX9_readD 184 = .ok (.iaload, 1) := by decide +kernel
theorem dX9_readD_185 : decode cX9_readD 185 = .ok (.ifCond .eq 13, 3) := by decide +kernel
theorem dX9_readD_188 : decode cX9_readD 188 = .ok (.aload_n 0, 1) := by decide +kernel
theorem dX9_readD_189 : decode cX9_readD 189 = .ok (.bipush 8, 2) := by decide +kernel
theorem dX9_readD_191 : decode cX9_readD 191 = .ok (.iload_n 3, 1) := by decide +kernel
theorem dX9_readD_192 : decode cX9_readD 192 = .ok (.iconst 4, 1) := by decide +kernel
theorem dX9_readD_193 : decode cX9_readD 193 = .ok (.iadd, 1) := by decide +kernel
theorem dX9_readD_194 : decode cX9_readD 194 = .ok (.invokevirtual 155, 3) := by decide +kernel
theorem dX9_readD_197 : decode cX9_readD 197 = .ok (.ireturn, 1) := by decide +kernel
theorem dX9_readD_198 : decode cX9_readD 198 = .ok (.iconst 0, 1) := by decide +kernel
theorem dX9_readD_199 : decode cX9_readD 199 = .ok (.istore 7, 2) := by decide +kernel
theorem dX9_readD_201 : decode cX9_readD 201 = .ok (.iload 7, 2) := by decide +kernel
theorem dX9_readD_203 : decode cX9_readD 203 = .ok (.bipush 7, 2) := by decide +kernel
theorem dX9_readD_205 : decode cX9_readD 205 = .ok (.if_icmp .ge 26, 3) := by decide +kernel
theorem dX9_readD_208 : decode cX9_readD 208 = .ok (.iconst 1, 1) := by decide +kernel
theorem dX9_readD_209 : decode cX9_readD 209 = .ok (.iload 7, 2) := by decide +kernel
theorem dX9_readD_211 : decode cX9_readD 211 = .ok (.ishl, 1) := by decide +kernel
theorem dX9_readD_212 : decode cX9_readD 212 = .ok (.iconst 1, 1) := by decide +kernel
theorem dX9_readD_213 : decode cX9_readD 213 = .ok (.isub, 1) := by decide +kernel
theorem dX9_readD_214 : decode cX9_readD 214 = .ok (.aload_n 0, 1) := by decide +kernel
theorem dX9_readD_215 : decode cX9_readD 215 = .ok (.getfield 9, 3) := by decide +kernel
theorem dX9_readD_218 : decode cX9_readD 218 = .ok (.iload_n 3, 1) := by decide +kernel
theorem dX9_readD_219 : decode cX9_readD 219 = .ok (.iconst 5, 1) := by decide +kernel
theorem dX9_readD_220 : decode cX9_readD 220 = .ok (.iadd, 1) := by decide +kernel
theorem dX9_readD_221 : decode cX9_readD 221 = .ok (.iaload, 1) := by decide +kernel
theorem dX9_readD_222 : decode cX9_readD 222 = .ok (.if_icmp .eq 9, 3) := by decide +kernel
theorem dX9_readD_225 : decode cX9_readD 225 = .ok (.iinc 7 1, 3) := by decide +kernel
theorem dX9_readD_228 : decode cX9_readD 228 = .ok (.goto (-27), 3) := by decide +kernel
theorem dX9_readD_231 : decode cX9_readD 231 = .ok (.iconst 1, 1) := by decide +kernel
theorem dX9_readD_232 : decode cX9_readD 232 = .ok (.iload 7, 2) := by decide +kernel
theorem dX9_readD_234 : decode cX9_readD 234 = .ok (.ishl, 1) := by decide +kernel
theorem dX9_readD_235 : decode cX9_readD 235 = .ok (.iconst 1, 1) := by decide +kernel
theorem dX9_readD_236 : decode cX9_readD 236 = .ok (.isub, 1) := by decide +kernel
theorem dX9_readD_237 : decode cX9_readD 237 = .ok (.aload_n 0, 1) := by decide +kernel
theorem dX9_readD_238 : decode cX9_readD 238 = .ok (.getfield 9, 3) := by decide +kernel
theorem dX9_readD_241 : decode cX9_readD 241 = .ok (.iload_n 3, 1) := by decide +kernel
theorem dX9_readD_242 : decode cX9_readD 242 = .ok (.iconst 5, 1) := by decide +kernel
theorem dX9_readD_243 : decode cX9_readD 243 = .ok (.iadd, 1) := by decide +kernel
theorem dX9_readD_244 : decode cX9_readD 244 = .ok (.iaload, 1) := by decide +kernel
theorem dX9_readD_245 : decode cX9_readD 245 = .ok (.if_icmp .eq 13, 3) := by decide +kernel
theorem dX9_readD_248 : decode cX9_readD 248 = .ok (.aload_n 0, 1) := by decide +kernel
theorem dX9_readD_249 : decode cX9_readD 249 = .ok (.bipush 8, 2) := by decide +kernel
theorem dX9_readD_251 : decode cX9_readD 251 = .ok (.iload_n 3, 1) := by decide +kernel
theorem dX9_readD_252 : decode cX9_readD 252 = .ok (.iconst 5, 1) := by decide +kernel
theorem dX9_readD_253 : decode cX9_readD 253 = .ok (.iadd, 1) := by decide +kernel
theorem dX9_readD_254 : decode cX9_readD 254 = .ok (.invokevirtual 155, 3) := by decide +kernel
theorem dX9_readD_257 : decode cX9_readD 257 = .ok (.ireturn, 1) := by decide +kernel
theorem dX9_readD_258 : decode cX9_readD 258 = .ok (.aload_n 0, 1) := by decide +kernel
theorem dX9_readD_259 : decode cX9_readD 259 = .ok (.getfield 9, 3) := by decide +kernel
theorem dX9_readD_262 : decode cX9_readD 262 = .ok (.iload_n 3, 1) := by decide +kernel
theorem dX9_readD_263 : decode cX9_readD 263 = .ok (.bipush 6, 2) := by decide +kernel
theorem dX9_readD_265 : decode cX9_readD 265 = .ok (.iadd, 1) := by decide +kernel
theorem dX9_readD_266 : decode cX9_readD 266 = .ok (.iaload, 1) := by decide +kernel
theorem dX9_readD_267 : decode cX9_readD 267 = .ok (.bipush 8, 2) := by decide +kernel
theorem dX9_readD_269 : decode cX9_readD 269 = .ok (.ishl, 1) := by decide +kernel
theorem dX9_readD_270 : decode cX9_readD 270 = .ok (.aload_n 0, 1) := by decide +kernel
theorem dX9_readD_271 : decode cX9_readD 271 = .ok (.getfield 9, 3) := by decide +kernel
theorem dX9_readD_274 : decode cX9_readD 274 = .ok (.iload_n 3, 1) := by decide +kernel
theorem dX9_readD_275 : decode cX9_readD 275 = .ok (.bipush 7, 2) := by decide +kernel
theorem dX9_readD_277 : decode cX9_readD 277 = .ok (.iadd, 1) := by decide +kernel
theorem dX9_readD_278 : decode cX9_readD 278 = .ok (.iaload, 1) := by decide +kernel
theorem dX9_readD_279 : decode cX9_readD 279 = .ok (.ior, 1) := by decide +kernel
theorem dX9_readD_280 : decode cX9_readD 280 = .ok (.istore 8, 2) := by decide +kernel
theorem dX9_readD_282 : decode cX9_readD 282 = .ok (.iload 8, 2) := by decide +kernel
theorem dX9_readD_284 : decode cX9_readD 284 = .ok (.bipush 40, 2) := by decide +kernel
theorem dX9_readD_286 : decode cX9_readD 286 = .ok (.if_icmp .le 14, 3) := by decide +kernel
theorem dX9_readD_289 : decode cX9_readD 289 = .ok (.aload_n 0, 1) := by decide +kernel
theorem dX9_readD_290 : decode cX9_readD 290 = .ok (.bipush 9, 2) := by decide +kernel
theorem dX9_readD_292 : decode cX9_readD 292 = .ok (.iload_n 3, 1) := by decide +kernel
theorem dX9_readD_293 : decode cX9_readD 293 = .ok (.bipush 6, 2) := by decide +kernel
theorem dX9_readD_295 : decode cX9_readD 295 = .ok (.iadd, 1) := by decide +kernel
theorem dX9_readD_296 : decode cX9_readD 296 = .ok (.invokevirtual 155, 3) := by decide +kernel
theorem dX9_readD_299 : decode cX9_readD 299 = .ok (.ireturn, 1) := by decide +kernel
theorem dX9_readD_300 : decode cX9_readD 300 = .ok (.iload 6, 2) := by decide +kernel
theorem dX9_readD_302 : decode cX9_readD 302 = .ok (.bipush 15, 2) := by decide +kernel
theorem dX9_readD_304 : decode cX9_readD 304 = .ok (.iand, 1) := by decide +kernel
theorem dX9_readD_305 : decode cX9_readD 305 = .ok (.iload 8, 2) := by decide +kernel
theorem dX9_readD_307 : decode cX9_readD 307 = .ok (.iadd, 1) := by decide +kernel
theorem dX9_readD_308 : decode cX9_readD 308 = .ok (.istore 9, 2) := by decide +kernel
theorem dX9_readD_310 : decode cX9_readD 310 = .ok (.iload_n 2, 1) := by decide +kernel
theorem dX9_readD_311 : decode cX9_readD 311 = .ok (.iload_n 3, 1) := by decide +kernel
theorem dX9_readD_312 : decode cX9_readD 312 = .ok (.isub, 1) := by decide +kernel
theorem dX9_readD_313 : decode cX9_readD 313 = .ok (.bipush 8, 2) := by decide +kernel
theorem dX9_readD_315 : decode cX9_readD 315 = .ok (.isub, 1) := by decide +kernel
theorem dX9_readD_316 : decode cX9_readD 316 = .ok (.iconst 2, 1) := by decide +kernel
theorem dX9_readD_317 : decode cX9_readD 317 = .ok (.iload 9, 2) := by decide +kernel
theorem dX9_readD_319 : decode cX9_readD 319 = .ok (.imul, 1) := by decide +kernel
theorem dX9_readD_320 : decode cX9_readD 320 = .ok (.if_icmp .ge 11, 3) := by decide +kernel
theorem dX9_readD_323 : decode cX9_readD 323 = .ok (.aload_n 0, 1) := by decide +kernel
theorem dX9_readD_324 : decode cX9_readD 324 = .ok (.bipush 8, 2) := by decide +kernel
theorem dX9_readD_326 : decode cX9_readD 326 = .ok (.iload_n 2, 1) := by decide +kernel
theorem dX9_readD_327 : decode cX9_readD 327 = .ok (.invokevirtual 155, 3) := by decide +kernel
theorem dX9_readD_330 : decode cX9_readD 330 = .ok (.ireturn, 1) := by decide +kernel
theorem dX9_readD_331 : decode cX9_readD 331 = .ok (.iconst 0, 1) := by decide +kernel
theorem dX9_readD_332 : decode cX9_readD 332 = .ok (.istore 10, 2) := by decide +kernel
theorem dX9_readD_334 : decode cX9_readD 334 = .ok (.iload 10, 2) := by decide +kernel
theorem dX9_readD_336 : decode cX9_readD 336 = .ok (.bipush 60, 2) := by decide +kernel
theorem dX9_readD_338 : decode cX9_readD 338 = .ok (.if_icmp .ge 20, 3) := by decide +kernel
theorem dX9_readD_341 : decode cX9_readD 341 = .ok (.aload_n 0, 1) := by decide +kernel
theorem dX9_readD_342 : decode cX9_readD 342 = .ok (.getfield 35, 3) := by decide +kernel
theorem dX9_readD_345 : decode cX9_readD 345 = .ok (.iload 4, 2) := by decide +kernel
theorem dX9_readD_347 : decode cX9_readD 347 = .ok (.iload 10, 2) := by decide +kernel
theorem dX9_readD_349 : decode cX9_readD 349 = .ok (.iadd, 1) := by decide +kernel
theorem dX9_readD_350 : decode cX9_readD 350 = .ok (.iconst 0, 1) := by decide +kernel
theorem dX9_readD_351 : decode cX9_readD 351 = .ok (.iastore, 1) := by decide +kernel
theorem dX9_readD_352 : decode cX9_readD 352 = .ok (.iinc 10 1, 3) := by decide +kernel
theorem dX9_readD_355 : decode cX9_readD 355 = .ok (.goto (-21), 3) := by decide +kernel
theorem dX9_readD_358 : decode cX9_readD 358 = .ok (.aload_n 0, 1) := by decide +kernel
theorem dX9_readD_359 : decode cX9_readD 359 = .ok (.getfield 35, 3) := by decide +kernel
theorem dX9_readD_362 : decode cX9_readD 362 = .ok (.iload 4, 2) := by decide +kernel
theorem dX9_readD_364 : decode cX9_readD 364 = .ok (.aload_n 0, 1) := by decide +kernel
theorem dX9_readD_365 : decode cX9_readD 365 = .ok (.getfield 9, 3) := by decide +kernel
theorem dX9_readD_368 : decode cX9_readD 368 = .ok (.iload_n 3, 1) := by decide +kernel
theorem dX9_readD_369 : decode cX9_readD 369 = .ok (.iaload, 1) := by decide +kernel
theorem dX9_readD_370 : decode cX9_readD 370 = .ok (.bipush 16, 2) := by decide +kernel
theorem dX9_readD_372 : decode cX9_readD 372 = .ok (.ishl, 1) := by decide +kernel
theorem dX9_readD_373 : decode cX9_readD 373 = .ok (.aload_n 0, 1) := by decide +kernel
theorem dX9_readD_374 : decode cX9_readD 374 = .ok (.getfield 9, 3) := by decide +kernel
theorem dX9_readD_377 : decode cX9_readD 377 = .ok (.iload_n 3, 1) := by decide +kernel
theorem dX9_readD_378 : decode cX9_readD 378 = .ok (.iconst 1, 1) := by decide +kernel
theorem dX9_readD_379 : decode cX9_readD 379 = .ok (.iadd, 1) := by decide +kernel
theorem dX9_readD_380 : decode cX9_readD 380 = .ok (.iaload, 1) := by decide +kernel
theorem dX9_readD_381 : decode cX9_readD 381 = .ok (.bipush 8, 2) := by decide +kernel
theorem dX9_readD_383 : decode cX9_readD 383 = .ok (.ishl, 1) := by decide +kernel
theorem dX9_readD_384 : decode cX9_readD 384 = .ok (.ior, 1) := by decide +kernel
theorem dX9_readD_385 : decode cX9_readD 385 = .ok (.aload_n 0, 1) := by decide +kernel
theorem dX9_readD_386 : decode cX9_readD 386 = .ok (.getfield 9, 3) := by decide +kernel
theorem dX9_readD_389 : decode cX9_readD 389 = .ok (.iload_n 3, 1) := by decide +kernel
theorem dX9_readD_390 : decode cX9_readD 390 = .ok (.iconst 2, 1) := by decide +kernel
theorem dX9_readD_391 : decode cX9_readD 391 = .ok (.iadd, 1) := by decide +kernel
theorem dX9_readD_392 : decode cX9_readD 392 = .ok (.iaload, 1) := by decide +kernel
theorem dX9_readD_393 : decode cX9_readD 393 = .ok (.ior, 1) := by decide +kernel
theorem dX9_readD_394 : decode cX9_readD 394 = .ok (.iastore, 1) := by decide +kernel
theorem dX9_readD_395 : decode cX9_readD 395 = .ok (.aload_n 0, 1) := by decide +kernel
theorem dX9_readD_396 : decode cX9_readD 396 = .ok (.getfield 35, 3) := by decide +kernel
theorem dX9_readD_399 : decode cX9_readD 399 = .ok (.iload 4, 2) := by decide +kernel
theorem dX9_readD_401 : decode cX9_readD 401 = .ok (.iconst 1, 1) := by decide +kernel
theorem dX9_readD_402 : decode cX9_readD 402 = .ok (.iadd, 1) := by decide +kernel
theorem dX9_readD_403 : decode cX9_readD 403 = .ok (.iload 6, 2) := by decide +kernel
theorem dX9_readD_405 : decode cX9_readD 405 = .ok (.bipush 15, 2) := by decide +kernel
theorem dX9_readD_407 : decode cX9_readD 407 = .ok (.if_icmp .le 8, 3) := by decide +kernel
theorem dX9_readD_410 : decode cX9_readD 410 = .ok (.bipush (-2), 2) := by decide +kernel
theorem dX9_readD_412 : decode cX9_readD 412 = .ok (.goto 11, 3) := by decide +kernel
theorem dX9_readD_415 : decode cX9_readD 415 = .ok (.aload_n 0, 1) := by decide +kernel
theorem dX9_readD_416 : decode cX9_readD 416 = .ok (.getfield 9, 3) := by decide +kernel
theorem dX9_readD_419 : decode cX9_readD 419 = .ok (.iload_n 3, 1) := by decide +kernel
theorem dX9_readD_420 : decode cX9_readD 420 = .ok (.iconst 4, 1) := by decide +kernel
theorem dX9_readD_421 : decode cX9_readD 421 = .ok (.iadd, 1) := by decide +kernel
theorem dX9_readD_422 : decode cX9_readD 422 = .ok (.iaload, 1) := by decide +kernel
theorem dX9_readD_423 : decode cX9_readD 423 = .ok (.iastore, 1) := by decide +kernel
theorem dX9_readD_424 : decode cX9_readD 424 = .ok (.aload_n 0, 1) := by decide +kernel
theorem dX9_readD_425 : decode cX9_readD 425 = .ok (.getfield 35, 3) := by decide +kernel
theorem dX9_readD_428 : decode cX9_readD 428 = .ok (.iload 4, 2) := by decide +kernel
theorem dX9_readD_430 : decode cX9_readD 430 = .ok (.iconst 2, 1) := by decide +kernel
theorem dX9_readD_431 : decode cX9_readD 431 = .ok (.iadd, 1) := by decide +kernel
theorem dX9_readD_432 : decode cX9_readD 432 = .ok (.iload 7, 2) := by decide +kernel
theorem dX9_readD_434 : decode cX9_readD 434 = .ok (.iastore, 1) := by decide +kernel
theorem dX9_readD_435 : decode cX9_readD 435 = .ok (.aload_n 0, 1) := by decide +kernel
theorem dX9_readD_436 : decode cX9_readD 436 = .ok (.getfield 35, 3) := by decide +kernel
theorem dX9_readD_439 : decode cX9_readD 439 = .ok (.iload 4, 2) := by decide +kernel
theorem dX9_readD_441 : decode cX9_readD 441 = .ok (.iconst 3, 1) := by decide +kernel
theorem dX9_readD_442 : decode cX9_readD 442 = .ok (.iadd, 1) := by decide +kernel
theorem dX9_readD_443 : decode cX9_readD 443 = .ok (.iload 6, 2) := by decide +kernel
theorem dX9_readD_445 : decode cX9_readD 445 = .ok (.bipush 15, 2) := by decide +kernel
theorem dX9_readD_447 : decode cX9_readD 447 = .ok (.iand, 1) := by decide +kernel
theorem dX9_readD_448 : decode cX9_readD 448 = .ok (.iastore, 1) := by decide +kernel
theorem dX9_readD_449 : decode cX9_readD 449 = .ok (.aload_n 0, 1) := by decide +kernel
theorem dX9_readD_450 : decode cX9_readD 450 = .ok (.getfield 35, 3) := by decide +kernel
theorem dX9_readD_453 : decode cX9_readD 453 = .ok (.iload 4, 2) := by decide +kernel
theorem dX9_readD_455 : decode cX9_readD 455 = .ok (.iconst 4, 1) := by decide +kernel
theorem dX9_readD_456 : decode cX9_readD 456 = .ok (.iadd, 1) := by decide +kernel
theorem dX9_readD_457 : decode cX9_readD 457 = .ok (.iload 8, 2) := by decide +kernel
theorem dX9_readD_459 : decode cX9_readD 459 = .ok (.iastore, 1) := by decide +kernel
theorem dX9_readD_460 : decode cX9_readD 460 = .ok (.iconst 0, 1) := by decide +kernel
theorem dX9_readD_461 : decode cX9_readD 461 = .ok (.istore 10, 2) := by decide +kernel
theorem dX9_readD_463 : decode cX9_readD 463 = .ok (.iload 10, 2) := by decide +kernel
theorem dX9_readD_465 : decode cX9_readD 465 = .ok (.iload 9, 2) := by decide +kernel
theorem dX9_readD_467 : decode cX9_readD 467 = .ok (.if_icmp .ge 53, 3) := by decide +kernel
theorem dX9_readD_470 : decode cX9_readD 470 = .ok (.aload_n 0, 1) := by decide +kernel
theorem dX9_readD_471 : decode cX9_readD 471 = .ok (.getfield 35, 3) := by decide +kernel
theorem dX9_readD_474 : decode cX9_readD 474 = .ok (.iload 4, 2) := by decide +kernel
theorem dX9_readD_476 : decode cX9_readD 476 = .ok (.iconst 5, 1) := by decide +kernel
theorem dX9_readD_477 : decode cX9_readD 477 = .ok (.iadd, 1) := by decide +kernel
theorem dX9_readD_478 : decode cX9_readD 478 = .ok (.iload 10, 2) := by decide +kernel
theorem dX9_readD_480 : decode cX9_readD 480 = .ok (.iadd, 1) := by decide +kernel
theorem dX9_readD_481 : decode cX9_readD 481 = .ok (.aload_n 0, 1) := by decide +kernel
theorem dX9_readD_482 : decode cX9_readD 482 = .ok (.getfield 9, 3) := by decide +kernel
theorem dX9_readD_485 : decode cX9_readD 485 = .ok (.iload_n 3, 1) := by decide +kernel
theorem dX9_readD_486 : decode cX9_readD 486 = .ok (.bipush 8, 2) := by decide +kernel
theorem dX9_readD_488 : decode cX9_readD 488 = .ok (.iadd, 1) := by decide +kernel
theorem dX9_readD_489 : decode cX9_readD 489 = .ok (.iconst 2, 1) := by decide +kernel
theorem dX9_readD_490 : decode cX9_readD 490 = .ok (.iload 10, 2) := by decide +kernel
theorem dX9_readD_492 : decode cX9_readD 492 = .ok (.imul, 1) := by decide +kernel
theorem dX9_readD_493 : decode cX9_readD 493 = .ok (.iadd, 1) := by decide +kernel
theorem dX9_readD_494 : decode cX9_readD 494 = .ok (.iaload, 1) := by decide +kernel
theorem dX9_readD_495 : decode cX9_readD 495 = .ok (.bipush 8, 2) := by decide +kernel
theorem dX9_readD_497 : decode cX9_readD 497 = .ok (.ishl, 1) := by decide +kernel
theorem dX9_readD_498 : decode cX9_readD 498 = .ok (.aload_n 0, 1) := by decide +kernel
theorem dX9_readD_499 : decode cX9_readD 499 = .ok (.getfield 9, 3) := by decide +kernel
theorem dX9_readD_502 : decode cX9_readD 502 = .ok (.iload_n 3, 1) := by decide +kernel
theorem dX9_readD_503 : decode cX9_readD 503 = .ok (.bipush 9, 2) := by decide +kernel
theorem dX9_readD_505 : decode cX9_readD 505 = .ok (.iadd, 1) := by decide +kernel
theorem dX9_readD_506 : decode cX9_readD 506 = .ok (.iconst 2, 1) := by decide +kernel
theorem dX9_readD_507 : decode cX9_readD 507 = .ok (.iload 10, 2) := by decide +kernel
theorem dX9_readD_509 : decode cX9_readD 509 = .ok (.imul, 1) := by decide +kernel
theorem dX9_readD_510 : decode cX9_readD 510 = .ok (.iadd, 1) := by decide +kernel
theorem dX9_readD_511 : decode cX9_readD 511 = .ok (.iaload, 1) := by decide +kernel
theorem dX9_readD_512 : decode cX9_readD 512 = .ok (.ior, 1) := by decide +kernel
theorem dX9_readD_513 : decode cX9_readD 513 = .ok (.iastore, 1) := by decide +kernel
theorem dX9_readD_514 : decode cX9_readD 514 = .ok (.iinc 10 1, 3) := by decide +kernel
theorem dX9_readD_517 : decode cX9_readD 517 = .ok (.goto (-54), 3) := by decide +kernel
theorem dX9_readD_520 : decode cX9_readD 520 = .ok (.aload_n 0, 1) := by decide +kernel
theorem dX9_readD_521 : decode cX9_readD 521 = .ok (.getfield 35, 3) := by decide +kernel
theorem dX9_readD_524 : decode cX9_readD 524 = .ok (.sipush 1001, 3) := by decide +kernel
theorem dX9_readD_527 : decode cX9_readD 527 = .ok (.dup2, 1) := by decide +kernel
theorem dX9_readD_528 : decode cX9_readD 528 = .ok (.iaload, 1) := by decide +kernel
theorem dX9_readD_529 : decode cX9_readD 529 = .ok (.iconst 1, 1) := by decide +kernel
theorem dX9_readD_530 : decode cX9_readD 530 = .ok (.iadd, 1) := by decide +kernel
theorem dX9_readD_531 : decode cX9_readD 531 = .ok (.iastore, 1) := by decide +kernel
theorem dX9_readD_532 : decode cX9_readD 532 = .ok (.iload_n 3, 1) := by decide +kernel
theorem dX9_readD_533 : decode cX9_readD 533 = .ok (.bipush 8, 2) := by decide +kernel
theorem dX9_readD_535 : decode cX9_readD 535 = .ok (.iconst 2, 1) := by decide +kernel
theorem dX9_readD_536 : decode cX9_readD 536 = .ok (.iload 9, 2) := by decide +kernel
theorem dX9_readD_538 : decode cX9_readD 538 = .ok (.imul, 1) := by decide +kernel
theorem dX9_readD_539 : decode cX9_readD 539 = .ok (.iadd, 1) := by decide +kernel
theorem dX9_readD_540 : decode cX9_readD 540 = .ok (.iadd, 1) := by decide +kernel
theorem dX9_readD_541 : decode cX9_readD 541 = .ok (.istore_n 3, 1) := by decide +kernel
theorem dX9_readD_542 : decode cX9_readD 542 = .ok (.goto (-531), 3) := by decide +kernel
theorem dX9_readD_545 : decode cX9_readD 545 = .ok (.iconst 1, 1) := by decide +kernel
theorem dX9_readD_546 : decode cX9_readD 546 = .ok (.ireturn, 1) := by decide +kernel
theorem dX9_why_0 : decode cX9_why 0 = .ok (.iload_n 1, 1) := by decide +kernel
theorem dX9_why_1 : decode cX9_why 1 = .ok (.ifCond .ne 10, 3) := by decide +kernel
theorem dX9_why_4 : decode cX9_why 4 = .ok (.aload_n 0, 1) := by decide +kernel
theorem dX9_why_5 : decode cX9_why 5 = .ok (.getfield 136, 3) := by decide +kernel
theorem dX9_why_8 : decode cX9_why 8 = .ok (.goto 16, 3) := by decide +kernel
theorem dX9_why_11 : decode cX9_why 11 = .ok (.iload_n 1, 1) := by decide +kernel
theorem dX9_why_12 : decode cX9_why 12 = .ok (.iconst 1, 1) := by decide +kernel
theorem dX9_why_13 : decode cX9_why 13 = .ok (.if_icmp .ne 10, 3) := by decide +kernel
theorem dX9_why_16 : decode cX9_why 16 = .ok (.aload_n 0, 1) := by decide +kernel
theorem dX9_why_17 : decode cX9_why 17 = .ok (.getfield 53, 3) := by decide +kernel
theorem dX9_why_20 : decode cX9_why 20 = .ok (.goto 4, 3) := by decide +kernel
theorem dX9_why_23 : decode cX9_why 23 = .ok (.iconst (-1), 1) := by decide +kernel
theorem dX9_why_24 : decode cX9_why 24 = .ok (.ireturn, 1) := by decide +kernel
theorem dX9_chunk_0 : decode cX9_chunk 0 = .ok (.iload_n 2, 1) := by decide +kernel
theorem dX9_chunk_1 : decode cX9_chunk 1 = .ok (.iconst 0, 1) := by decide +kernel
theorem dX9_chunk_2 : decode cX9_chunk 2 = .ok (.iconst 2, 1) := by decide +kernel
theorem dX9_chunk_3 : decode cX9_chunk 3 = .ok (.invokestatic 75, 3) := by decide +kernel
theorem dX9_chunk_6 : decode cX9_chunk 6 = .ok (.ifCond .eq 5, 3) := by decide +kernel
theorem dX9_chunk_9 : decode cX9_chunk 9 = .ok (.iconst (-1), 1) := by decide +kernel
theorem dX9_chunk_10 : decode cX9_chunk 10 = .ok (.ireturn, 1) := by decide +kernel
theorem dX9_chunk_11 : decode cX9_chunk 11 = .ok (.iload_n 1, 1) := by decide +kernel
theorem dX9_chunk_12 : decode cX9_chunk 12 = .ok (.iconst 0, 1) := by decide +kernel
theorem dX9_chunk_13 : decode cX9_chunk 13 = .ok (.aload_n 0, 1) := by decide +kernel
theorem dX9_chunk_14 : decode cX9_chunk 14 = .ok (.getfield 117, 3) := by decide +kernel
theorem dX9_chunk_17 : decode cX9_chunk 17 = .ok (.iconst 1, 1) := by decide +kernel
theorem dX9_chunk_18 : decode cX9_chunk 18 = .ok (.isub, 1) := by decide +kernel
theorem dX9_chunk_19 : decode cX9_chunk 19 = .ok (.invokestatic 75, 3) := by decide +kernel
theorem dX9_chunk_22 : decode cX9_chunk 22 = .ok (.ifCond .eq 6, 3) := by decide +kernel
theorem dX9_chunk_25 : decode cX9_chunk 25 = .ok (.bipush (-2), 2) := by decide +kernel
theorem dX9_chunk_27 : decode cX9_chunk 27 = .ok (.ireturn, 1) := by decide +kernel
theorem dX9_chunk_28 : decode cX9_chunk 28 = .ok (.iload_n 2, 1) := by decide +kernel
theorem dX9_chunk_29 : decode cX9_chunk 29 = .ok (.ifCond .ne 12, 3) := by decide +kernel
theorem dX9_chunk_32 : decode cX9_chunk 32 = .ok (.aload_n 0, 1) := by decide +kernel
theorem dX9_chunk_33 : decode cX9_chunk 33 = .ok (.getfield 56, 3) := by decide +kernel
theorem dX9_chunk_36 : decode cX9_chunk 36 = .ok (.iload_n 1, 1) := by decide +kernel
theorem dX9_chunk_37 : decode cX9_chunk 37 = .ok (.iaload, 1) := by decide +kernel
theorem dX9_chunk_38 : decode cX9_chunk 38 = .ok (.goto 23, 3) := by decide +kernel
theorem dX9_chunk_41 : decode cX9_chunk 41 = .ok (.iload_n 2, 1) := by decide +kernel
theorem dX9_chunk_42 : decode cX9_chunk 42 = .ok (.iconst 1, 1) := by decide +kernel
theorem dX9_chunk_43 : decode cX9_chunk 43 = .ok (.if_icmp .ne 12, 3) := by decide +kernel
theorem dX9_chunk_46 : decode cX9_chunk 46 = .ok (.aload_n 0, 1) := by decide +kernel
theorem dX9_chunk_47 : decode cX9_chunk 47 = .ok (.getfield 59, 3) := by decide +kernel
theorem dX9_chunk_50 : decode cX9_chunk 50 = .ok (.iload_n 1, 1) := by decide +kernel
theorem dX9_chunk_51 : decode cX9_chunk 51 = .ok (.iaload, 1) := by decide +kernel
theorem dX9_chunk_52 : decode cX9_chunk 52 = .ok (.goto 9, 3) := by decide +kernel
theorem dX9_chunk_55 : decode cX9_chunk 55 = .ok (.aload_n 0, 1) := by decide +kernel
theorem dX9_chunk_56 : decode cX9_chunk 56 = .ok (.getfield 62, 3) := by decide +kernel
theorem dX9_chunk_59 : decode cX9_chunk 59 = .ok (.iload_n 1, 1) := by decide +kernel
theorem dX9_chunk_60 : decode cX9_chunk 60 = .ok (.iaload, 1) := by decide +kernel
theorem dX9_chunk_61 : decode cX9_chunk 61 = .ok (.ireturn, 1) := by decide +kernel
theorem dX9_write_0 : decode cX9_write 0 = .ok (.aload_n 0, 1) := by decide +kernel
theorem dX9_write_1 : decode cX9_write 1 = .ok (.getfield 23, 3) := by decide +kernel
theorem dX9_write_4 : decode cX9_write 4 = .ok (.bipush (-2), 2) := by decide +kernel
theorem dX9_write_6 : decode cX9_write 6 = .ok (.if_icmp .eq 18, 3) := by decide +kernel
theorem dX9_write_9 : decode cX9_write 9 = .ok (.aload_n 0, 1) := by decide +kernel
theorem dX9_write_10 : decode cX9_write 10 = .ok (.getfield 79, 3) := by decide +kernel
theorem dX9_write_13 : decode cX9_write 13 = .ok (.aload_n 0, 1) := by decide +kernel
theorem dX9_write_14 : decode cX9_write 14 = .ok (.getfield 23, 3) := by decide +kernel
theorem dX9_write_17 : decode cX9_write 17 = .ok (.if_icmp .le 7, 3) := by decide +kernel
theorem dX9_write_20 : decode cX9_write 20 = .ok (.iconst 1, 1) := by decide +kernel
theorem dX9_write_21 : decode cX9_write 21 = .ok (.goto 4, 3) := by decide +kernel
theorem dX9_write_24 : decode cX9_write 24 = .ok (.iconst 0, 1) := by decide +kernel
theorem dX9_write_25 : decode cX9_write 25 = .ok (.istore_n 1, 1) := by decide +kernel
theorem dX9_write_26 : decode cX9_write 26 = .ok (.aload_n 0, 1) := by decide +kernel
theorem dX9_write_27 : decode cX9_write 27 = .ok (.bipush (-2), 2) := by decide +kernel
theorem dX9_write_29 : decode cX9_write 29 = .ok (.putfield 23, 3) := by decide +kernel
theorem dX9_write_32 : decode cX9_write 32 = .ok (.iload_n 1, 1) := by decide +kernel
theorem dX9_write_33 : decode cX9_write 33 = .ok (.ifCond .eq 5, 3) := by decide +kernel
theorem dX9_write_36 : decode cX9_write 36 = .ok (.iconst 0, 1) := by decide +kernel
theorem dX9_write_37 : decode cX9_write 37 = .ok (.ireturn, 1) := by decide +kernel
theorem dX9_write_38 : decode cX9_write 38 = .ok (.iconst 0, 1) := by decide +kernel
theorem dX9_write_39 : decode cX9_write 39 = .ok (.istore_n 2, 1) := by decide +kernel
theorem dX9_write_40 : decode cX9_write 40 = .ok (.iload_n 2, 1) := by decide +kernel
theorem dX9_write_41 : decode cX9_write 41 = .ok (.aload_n 0, 1) := by decide +kernel
theorem dX9_write_42 : decode cX9_write 42 = .ok (.getfield 79, 3) := by decide +kernel
theorem dX9_write_45 : decode cX9_write 45 = .ok (.if_icmp .ge 21, 3) := by decide +kernel
theorem dX9_write_48 : decode cX9_write 48 = .ok (.aload_n 0, 1) := by decide +kernel
theorem dX9_write_49 : decode cX9_write 49 = .ok (.getfield 16, 3) := by decide +kernel
theorem dX9_write_52 : decode cX9_write 52 = .ok (.iload_n 2, 1) := by decide +kernel
theorem dX9_write_53 : decode cX9_write 53 = .ok (.aload_n 0, 1) := by decide +kernel
theorem dX9_write_54 : decode cX9_write 54 = .ok (.getfield 13, 3) := by decide +kernel
theorem dX9_write_57 : decode cX9_write 57 = .ok (.iload_n 2, 1) := by decide +kernel
theorem dX9_write_58 : decode cX9_write 58 = .ok (.iaload, 1) := by decide +kernel
theorem dX9_write_59 : decode cX9_write 59 = .ok (.iastore, 1) := by decide +kernel
theorem dX9_write_60 : decode cX9_write 60 = .ok (.iinc 2 1, 3) := by decide +kernel
theorem dX9_write_63 : decode cX9_write 63 = .ok (.goto (-23), 3) := by decide +kernel
theorem dX9_write_66 : decode cX9_write 66 = .ok (.aload_n 0, 1) := by decide +kernel
theorem dX9_write_67 : decode cX9_write 67 = .ok (.aload_n 0, 1) := by decide +kernel
theorem dX9_write_68 : decode cX9_write 68 = .ok (.getfield 79, 3) := by decide +kernel
theorem dX9_write_71 : decode cX9_write 71 = .ok (.putfield 19, 3) := by decide +kernel
theorem dX9_write_74 : decode cX9_write 74 = .ok (.iconst 1, 1) := by decide +kernel
theorem dX9_write_75 : decode cX9_write 75 = .ok (.ireturn, 1) := by decide +kernel
theorem dX9_cut_0 : decode cX9_cut 0 = .ok (.iload_n 1, 1) := by decide +kernel
theorem dX9_cut_1 : decode cX9_cut 1 = .ok (.ifCond .ge 11, 3) := by decide +kernel
theorem dX9_cut_4 : decode cX9_cut 4 = .ok (.iload_n 1, 1) := by decide +kernel
theorem dX9_cut_5 : decode cX9_cut 5 = .ok (.bipush (-2), 2) := by decide +kernel
theorem dX9_cut_7 : decode cX9_cut 7 = .ok (.if_icmp .eq 5, 3) := by decide +kernel
theorem dX9_cut_10 : decode cX9_cut 10 = .ok (.iconst (-1), 1) := by decide +kernel
theorem dX9_cut_11 : decode cX9_cut 11 = .ok (.ireturn, 1) := by decide +kernel
theorem dX9_cut_12 : decode cX9_cut 12 = .ok (.aload_n 0, 1) := by decide +kernel
theorem dX9_cut_13 : decode cX9_cut 13 = .ok (.iload_n 1, 1) := by decide +kernel
theorem dX9_cut_14 : decode cX9_cut 14 = .ok (.putfield 23, 3) := by decide +kernel
theorem dX9_cut_17 : decode cX9_cut 17 = .ok (.iconst 1, 1) := by decide +kernel
theorem dX9_cut_18 : decode cX9_cut 18 = .ok (.ireturn, 1) := by decide +kernel
theorem dX9_load_0 : decode cX9_load 0 = .ok (.aload_n 0, 1) := by decide +kernel
theorem dX9_load_1 : decode cX9_load 1 = .ok (.getfield 19, 3) := by decide +kernel
theorem dX9_load_4 : decode cX9_load 4 = .ok (.bipush (-2), 2) := by decide +kernel
theorem dX9_load_6 : decode cX9_load 6 = .ok (.if_icmp .ne 6, 3) := by decide +kernel
theorem dX9_load_9 : decode cX9_load 9 = .ok (.bipush (-2), 2) := by decide +kernel
theorem dX9_load_11 : decode cX9_load 11 = .ok (.ireturn, 1) := by decide +kernel
theorem dX9_load_12 : decode cX9_load 12 = .ok (.aload_n 0, 1) := by decide +kernel
theorem dX9_load_13 : decode cX9_load 13 = .ok (.getfield 19, 3) := by decide +kernel
theorem dX9_load_16 : decode cX9_load 16 = .ok (.sipush 2000, 3) := by decide +kernel
theorem dX9_load_19 : decode cX9_load 19 = .ok (.if_icmp .le 6, 3) := by decide +kernel
theorem dX9_load_22 : decode cX9_load 22 = .ok (.bipush (-3), 2) := by decide +kernel
theorem dX9_load_24 : decode cX9_load 24 = .ok (.ireturn, 1) := by decide +kernel
theorem dX9_load_25 : decode cX9_load 25 = .ok (.iconst 0, 1) := by decide +kernel
theorem dX9_load_26 : decode cX9_load 26 = .ok (.istore_n 1, 1) := by decide +kernel
theorem dX9_load_27 : decode cX9_load 27 = .ok (.iload_n 1, 1) := by decide +kernel
theorem dX9_load_28 : decode cX9_load 28 = .ok (.aload_n 0, 1) := by decide +kernel
theorem dX9_load_29 : decode cX9_load 29 = .ok (.getfield 19, 3) := by decide +kernel
theorem dX9_load_32 : decode cX9_load 32 = .ok (.if_icmp .ge 21, 3) := by decide +kernel
theorem dX9_load_35 : decode cX9_load 35 = .ok (.aload_n 0, 1) := by decide +kernel
theorem dX9_load_36 : decode cX9_load 36 = .ok (.getfield 9, 3) := by decide +kernel
theorem dX9_load_39 : decode cX9_load 39 = .ok (.iload_n 1, 1) := by decide +kernel
theorem dX9_load_40 : decode cX9_load 40 = .ok (.aload_n 0, 1) := by decide +kernel
theorem dX9_load_41 : decode cX9_load 41 = .ok (.getfield 16, 3) := by decide +kernel
theorem dX9_load_44 : decode cX9_load 44 = .ok (.iload_n 1, 1) := by decide +kernel
theorem dX9_load_45 : decode cX9_load 45 = .ok (.iaload, 1) := by decide +kernel
theorem dX9_load_46 : decode cX9_load 46 = .ok (.iastore, 1) := by decide +kernel
theorem dX9_load_47 : decode cX9_load 47 = .ok (.iinc 1 1, 3) := by decide +kernel
theorem dX9_load_50 : decode cX9_load 50 = .ok (.goto (-23), 3) := by decide +kernel
theorem dX9_load_53 : decode cX9_load 53 = .ok (.aload_n 0, 1) := by decide +kernel
theorem dX9_load_54 : decode cX9_load 54 = .ok (.aload_n 0, 1) := by decide +kernel
theorem dX9_load_55 : decode cX9_load 55 = .ok (.getfield 19, 3) := by decide +kernel
theorem dX9_load_58 : decode cX9_load 58 = .ok (.putfield 68, 3) := by decide +kernel
theorem dX9_load_61 : decode cX9_load 61 = .ok (.aload_n 0, 1) := by decide +kernel
theorem dX9_load_62 : decode cX9_load 62 = .ok (.getfield 68, 3) := by decide +kernel
theorem dX9_load_65 : decode cX9_load 65 = .ok (.ireturn, 1) := by decide +kernel
theorem dX9_sum_0 : decode cX9_sum 0 = .ok (.iconst 0, 1) := by decide +kernel
theorem dX9_sum_1 : decode cX9_sum 1 = .ok (.istore_n 1, 1) := by decide +kernel
theorem dX9_sum_2 : decode cX9_sum 2 = .ok (.iconst 0, 1) := by decide +kernel
theorem dX9_sum_3 : decode cX9_sum 3 = .ok (.istore_n 2, 1) := by decide +kernel
theorem dX9_sum_4 : decode cX9_sum 4 = .ok (.iload_n 2, 1) := by decide +kernel
theorem dX9_sum_5 : decode cX9_sum 5 = .ok (.aload_n 0, 1) := by decide +kernel
theorem dX9_sum_6 : decode cX9_sum 6 = .ok (.getfield 91, 3) := by decide +kernel
theorem dX9_sum_9 : decode cX9_sum 9 = .ok (.if_icmp .ge 18, 3) := by decide +kernel
theorem dX9_sum_12 : decode cX9_sum 12 = .ok (.iload_n 1, 1) := by decide +kernel
theorem dX9_sum_13 : decode cX9_sum 13 = .ok (.aload_n 0, 1) := by decide +kernel
theorem dX9_sum_14 : decode cX9_sum 14 = .ok (.getfield 41, 3) := by decide +kernel
theorem dX9_sum_17 : decode cX9_sum 17 = .ok (.iload_n 2, 1) := by decide +kernel
theorem dX9_sum_18 : decode cX9_sum 18 = .ok (.iaload, 1) := by decide +kernel
theorem dX9_sum_19 : decode cX9_sum 19 = .ok (.iadd, 1) := by decide +kernel
theorem dX9_sum_20 : decode cX9_sum 20 = .ok (.istore_n 1, 1) := by decide +kernel
theorem dX9_sum_21 : decode cX9_sum 21 = .ok (.iinc 2 1, 3) := by decide +kernel
theorem dX9_sum_24 : decode cX9_sum 24 = .ok (.goto (-20), 3) := by decide +kernel
theorem dX9_sum_27 : decode cX9_sum 27 = .ok (.iload_n 1, 1) := by decide +kernel
theorem dX9_sum_28 : decode cX9_sum 28 = .ok (.ireturn, 1) := by decide +kernel
theorem dX9_eldestGo_0 : decode cX9_eldestGo 0 = .ok (.aload_n 0, 1) := by decide +kernel
theorem dX9_eldestGo_1 : decode cX9_eldestGo 1 = .ok (.getfield 91, 3) := by decide +kernel
theorem dX9_eldestGo_4 : decode cX9_eldestGo 4 = .ok (.bipush 8, 2) := by decide +kernel
theorem dX9_eldestGo_6 : decode cX9_eldestGo 6 = .ok (.if_icmp .gt 14, 3) := by decide +kernel
theorem dX9_eldestGo_9 : decode cX9_eldestGo 9 = .ok (.aload_n 0, 1) := by decide +kernel
theorem dX9_eldestGo_10 : decode cX9_eldestGo 10 = .ok (.invokevirtual 183, 3) := by decide +kernel
theorem dX9_eldestGo_13 : decode cX9_eldestGo 13 = .ok (.aload_n 0, 1) := by decide +kernel
theorem dX9_eldestGo_14 : decode cX9_eldestGo 14 = .ok (.getfield 44, 3) := by decide +kernel
theorem dX9_eldestGo_17 : decode cX9_eldestGo 17 = .ok (.if_icmp .le 87, 3) := by decide +kernel
theorem dX9_eldestGo_20 : decode cX9_eldestGo 20 = .ok (.iconst 1, 1) := by decide +kernel
theorem dX9_eldestGo_21 : decode cX9_eldestGo 21 = .ok (.istore_n 1, 1) := by decide +kernel
theorem dX9_eldestGo_22 : decode cX9_eldestGo 22 = .ok (.iload_n 1, 1) := by decide +kernel
theorem dX9_eldestGo_23 : decode cX9_eldestGo 23 = .ok (.aload_n 0, 1) := by decide +kernel
theorem dX9_eldestGo_24 : decode cX9_eldestGo 24 = .ok (.getfield 91, 3) := by decide +kernel
theorem dX9_eldestGo_27 : decode cX9_eldestGo 27 = .ok (.if_icmp .ge 64, 3) := by decide +kernel
theorem dX9_eldestGo_30 : decode cX9_eldestGo 30 = .ok (.aload_n 0, 1) := by decide +kernel
theorem dX9_eldestGo_31 : decode cX9_eldestGo 31 = .ok (.getfield 41, 3) := by decide +kernel
theorem dX9_eldestGo_34 : decode cX9_eldestGo 34 = .ok (.iload_n 1, 1) := by decide +kernel
theorem dX9_eldestGo_35 : decode cX9_eldestGo 35 = .ok (.iconst 1, 1) := by decide +kernel
theorem dX9_eldestGo_36 : decode cX9_eldestGo 36 = .ok (.isub, 1) := by decide +kernel
theorem dX9_eldestGo_37 : decode cX9_eldestGo 37 = .ok (.aload_n 0, 1) := by decide +kernel
theorem dX9_eldestGo_38 : decode cX9_eldestGo 38 = .ok (.getfield 41, 3) := by decide +kernel
theorem dX9_eldestGo_41 : decode cX9_eldestGo 41 = .ok (.iload_n 1, 1) := by decide +kernel
theorem dX9_eldestGo_42 : decode cX9_eldestGo 42 = .ok (.iaload, 1) := by decide +kernel
theorem dX9_eldestGo_43 : decode cX9_eldestGo 43 = .ok (.iastore, 1) := by decide +kernel
theorem dX9_eldestGo_44 : decode cX9_eldestGo 44 = .ok (.iconst 0, 1) := by decide +kernel
theorem dX9_eldestGo_45 : decode cX9_eldestGo 45 = .ok (.istore_n 2, 1) := by decide +kernel
theorem dX9_eldestGo_46 : decode cX9_eldestGo 46 = .ok (.iload_n 2, 1) := by decide +kernel
theorem dX9_eldestGo_47 : decode cX9_eldestGo 47 = .ok (.sipush 2202, 3) := by decide +kernel
theorem dX9_eldestGo_50 : decode cX9_eldestGo 50 = .ok (.if_icmp .ge 35, 3) := by decide +kernel
theorem dX9_eldestGo_53 : decode cX9_eldestGo 53 = .ok (.aload_n 0, 1) := by decide +kernel
theorem dX9_eldestGo_54 : decode cX9_eldestGo 54 = .ok (.getfield 38, 3) := by decide +kernel
theorem dX9_eldestGo_57 : decode cX9_eldestGo 57 = .ok (.sipush 2202, 3) := by decide +kernel
theorem dX9_eldestGo_60 : decode cX9_eldestGo 60 = .ok (.iload_n 1, 1) := by decide +kernel
theorem dX9_eldestGo_61 : decode cX9_eldestGo 61 = .ok (.iconst 1, 1) := by decide +kernel
theorem dX9_eldestGo_62 : decode cX9_eldestGo 62 = .ok (.isub, 1) := by decide +kernel
theorem dX9_eldestGo_63 : decode cX9_eldestGo 63 = .ok (.imul, 1) := by decide +kernel
theorem dX9_eldestGo_64 : decode cX9_eldestGo 64 = .ok (.iload_n 2, 1) := by decide +kernel
theorem dX9_eldestGo_65 : decode cX9_eldestGo 65 = .ok (.iadd, 1) := by decide +kernel
theorem dX9_eldestGo_66 : decode cX9_eldestGo 66 = .ok (.aload_n 0, 1) := by decide +kernel
theorem dX9_eldestGo_67 : decode cX9_eldestGo 67 = .ok (.getfield 38, 3) := by decide +kernel
theorem dX9_eldestGo_70 : decode cX9_eldestGo 70 = .ok (.sipush 2202, 3) := by decide +kernel
theorem dX9_eldestGo_73 : decode cX9_eldestGo 73 = .ok (.iload_n 1, 1) := by decide +kernel
theorem dX9_eldestGo_74 : decode cX9_eldestGo 74 = .ok (.imul, 1) := by decide +kernel
theorem dX9_eldestGo_75 : decode cX9_eldestGo 75 = .ok (.iload_n 2, 1) := by decide +kernel
theorem dX9_eldestGo_76 : decode cX9_eldestGo 76 = .ok (.iadd, 1) := by decide +kernel
theorem dX9_eldestGo_77 : decode cX9_eldestGo 77 = .ok (.iaload, 1) := by decide +kernel
theorem dX9_eldestGo_78 : decode cX9_eldestGo 78 = .ok (.iastore, 1) := by decide +kernel
theorem dX9_eldestGo_79 : decode cX9_eldestGo 79 = .ok (.iinc 2 1, 3) := by decide +kernel
theorem dX9_eldestGo_82 : decode cX9_eldestGo 82 = .ok (.goto (-36), 3) := by decide +kernel
theorem dX9_eldestGo_85 : decode cX9_eldestGo 85 = .ok (.iinc 1 1, 3) := by decide +kernel
theorem dX9_eldestGo_88 : decode cX9_eldestGo 88 = .ok (.goto (-66), 3) := by decide +kernel
theorem dX9_eldestGo_91 : decode cX9_eldestGo 91 = .ok (.aload_n 0, 1) := by decide +kernel
theorem dX9_eldestGo_92 : decode cX9_eldestGo 92 = .ok (.dup, 1) := by decide +kernel
theorem dX9_eldestGo_93 : decode cX9_eldestGo 93 = .ok (.getfield 91, 3) := by decide +kernel
theorem dX9_eldestGo_96 : decode cX9_eldestGo 96 = .ok (.iconst 1, 1) := by decide +kernel
theorem dX9_eldestGo_97 : decode cX9_eldestGo 97 = .ok (.isub, 1) := by decide +kernel
theorem dX9_eldestGo_98 : decode cX9_eldestGo 98 = .ok (.putfield 91, 3) := by decide +kernel
theorem dX9_eldestGo_101 : decode cX9_eldestGo 101 = .ok (.goto (-101), 3) := by decide +kernel
theorem dX9_eldestGo_104 : decode cX9_eldestGo 104 = .ok (.return_, 1) := by decide +kernel
theorem dX9_keep_0 : decode cX9_keep 0 = .ok (.aload_n 0, 1) := by decide +kernel
theorem dX9_keep_1 : decode cX9_keep 1 = .ok (.getfield 82, 3) := by decide +kernel
theorem dX9_keep_4 : decode cX9_keep 4 = .ok (.ifCond .ne 6, 3) := by decide +kernel
theorem dX9_keep_7 : decode cX9_keep 7 = .ok (.bipush (-4), 2) := by decide +kernel
theorem dX9_keep_9 : decode cX9_keep 9 = .ok (.ireturn, 1) := by decide +kernel
theorem dX9_keep_10 : decode cX9_keep 10 = .ok (.aload_n 0, 1) := by decide +kernel
theorem dX9_keep_11 : decode cX9_keep 11 = .ok (.aload_n 0, 1) := by decide +kernel
theorem dX9_keep_12 : decode cX9_keep 12 = .ok (.getfield 32, 3) := by decide +kernel
theorem dX9_keep_15 : decode cX9_keep 15 = .ok (.invokevirtual 186, 3) := by decide +kernel
theorem dX9_keep_18 : decode cX9_keep 18 = .ok (.istore_n 1, 1) := by decide +kernel
theorem dX9_keep_19 : decode cX9_keep 19 = .ok (.iload_n 1, 1) := by decide +kernel
theorem dX9_keep_20 : decode cX9_keep 20 = .ok (.aload_n 0, 1) := by decide +kernel
theorem dX9_keep_21 : decode cX9_keep 21 = .ok (.getfield 44, 3) := by decide +kernel
theorem dX9_keep_24 : decode cX9_keep 24 = .ok (.if_icmp .le 6, 3) := by decide +kernel
theorem dX9_keep_27 : decode cX9_keep 27 = .ok (.bipush (-3), 2) := by decide +kernel
theorem dX9_keep_29 : decode cX9_keep 29 = .ok (.ireturn, 1) := by decide +kernel
theorem dX9_keep_30 : decode cX9_keep 30 = .ok (.aload_n 0, 1) := by decide +kernel
theorem dX9_keep_31 : decode cX9_keep 31 = .ok (.getfield 41, 3) := by decide +kernel
theorem dX9_keep_34 : decode cX9_keep 34 = .ok (.aload_n 0, 1) := by decide +kernel
theorem dX9_keep_35 : decode cX9_keep 35 = .ok (.getfield 91, 3) := by decide +kernel
theorem dX9_keep_38 : decode cX9_keep 38 = .ok (.iload_n 1, 1) := by decide +kernel
theorem dX9_keep_39 : decode cX9_keep 39 = .ok (.iastore, 1) := by decide +kernel
theorem dX9_keep_40 : decode cX9_keep 40 = .ok (.iconst 0, 1) := by decide +kernel
theorem dX9_keep_41 : decode cX9_keep 41 = .ok (.istore_n 2, 1) := by decide +kernel
theorem dX9_keep_42 : decode cX9_keep 42 = .ok (.iload_n 2, 1) := by decide +kernel
theorem dX9_keep_43 : decode cX9_keep 43 = .ok (.sipush 2202, 3) := by decide +kernel
theorem dX9_keep_46 : decode cX9_keep 46 = .ok (.if_icmp .ge 30, 3) := by decide +kernel
theorem dX9_keep_49 : decode cX9_keep 49 = .ok (.aload_n 0, 1) := by decide +kernel
theorem dX9_keep_50 : decode cX9_keep 50 = .ok (.getfield 38, 3) := by decide +kernel
theorem dX9_keep_53 : decode cX9_keep 53 = .ok (.sipush 2202, 3) := by decide +kernel
theorem dX9_keep_56 : decode cX9_keep 56 = .ok (.aload_n 0, 1) := by decide +kernel
theorem dX9_keep_57 : decode cX9_keep 57 = .ok (.getfield 91, 3) := by decide +kernel
theorem dX9_keep_60 : decode cX9_keep 60 = .ok (.imul, 1) := by decide +kernel
theorem dX9_keep_61 : decode cX9_keep 61 = .ok (.iload_n 2, 1) := by decide +kernel
theorem dX9_keep_62 : decode cX9_keep 62 = .ok (.iadd, 1) := by decide +kernel
theorem dX9_keep_63 : decode cX9_keep 63 = .ok (.aload_n 0, 1) := by decide +kernel
theorem dX9_keep_64 : decode cX9_keep 64 = .ok (.getfield 32, 3) := by decide +kernel
theorem dX9_keep_67 : decode cX9_keep 67 = .ok (.iload_n 2, 1) := by decide +kernel
theorem dX9_keep_68 : decode cX9_keep 68 = .ok (.iaload, 1) := by decide +kernel
theorem dX9_keep_69 : decode cX9_keep 69 = .ok (.iastore, 1) := by decide +kernel
theorem dX9_keep_70 : decode cX9_keep 70 = .ok (.iinc 2 1, 3) := by decide +kernel
theorem dX9_keep_73 : decode cX9_keep 73 = .ok (.goto (-31), 3) := by decide +kernel
theorem dX9_keep_76 : decode cX9_keep 76 = .ok (.aload_n 0, 1) := by decide +kernel
theorem dX9_keep_77 : decode cX9_keep 77 = .ok (.dup, 1) := by decide +kernel
theorem dX9_keep_78 : decode cX9_keep 78 = .ok (.getfield 91, 3) := by decide +kernel
theorem dX9_keep_81 : decode cX9_keep 81 = .ok (.iconst 1, 1) := by decide +kernel
theorem dX9_keep_82 : decode cX9_keep 82 = .ok (.iadd, 1) := by decide +kernel
theorem dX9_keep_83 : decode cX9_keep 83 = .ok (.putfield 91, 3) := by decide +kernel
theorem dX9_keep_86 : decode cX9_keep 86 = .ok (.aload_n 0, 1) := by decide +kernel
theorem dX9_keep_87 : decode cX9_keep 87 = .ok (.invokevirtual 190, 3) := by decide +kernel
theorem dX9_keep_90 : decode cX9_keep 90 = .ok (.aload_n 0, 1) := by decide +kernel
theorem dX9_keep_91 : decode cX9_keep 91 = .ok (.getfield 91, 3) := by decide +kernel
theorem dX9_keep_94 : decode cX9_keep 94 = .ok (.ireturn, 1) := by decide +kernel
theorem dX9_undo_0 : decode cX9_undo 0 = .ok (.aload_n 0, 1) := by decide +kernel
theorem dX9_undo_1 : decode cX9_undo 1 = .ok (.getfield 82, 3) := by decide +kernel
theorem dX9_undo_4 : decode cX9_undo 4 = .ok (.ifCond .ne 6, 3) := by decide +kernel
theorem dX9_undo_7 : decode cX9_undo 7 = .ok (.bipush (-4), 2) := by decide +kernel
theorem dX9_undo_9 : decode cX9_undo 9 = .ok (.ireturn, 1) := by decide +kernel
theorem dX9_undo_10 : decode cX9_undo 10 = .ok (.aload_n 0, 1) := by decide +kernel
theorem dX9_undo_11 : decode cX9_undo 11 = .ok (.getfield 91, 3) := by decide +kernel
theorem dX9_undo_14 : decode cX9_undo 14 = .ok (.ifCond .ne 6, 3) := by decide +kernel
theorem dX9_undo_17 : decode cX9_undo 17 = .ok (.bipush (-2), 2) := by decide +kernel
theorem dX9_undo_19 : decode cX9_undo 19 = .ok (.ireturn, 1) := by decide +kernel
theorem dX9_undo_20 : decode cX9_undo 20 = .ok (.aload_n 0, 1) := by decide +kernel
theorem dX9_undo_21 : decode cX9_undo 21 = .ok (.dup, 1) := by decide +kernel
theorem dX9_undo_22 : decode cX9_undo 22 = .ok (.getfield 91, 3) := by decide +kernel
theorem dX9_undo_25 : decode cX9_undo 25 = .ok (.iconst 1, 1) := by decide +kernel
theorem dX9_undo_26 : decode cX9_undo 26 = .ok (.isub, 1) := by decide +kernel
theorem dX9_undo_27 : decode cX9_undo 27 = .ok (.putfield 91, 3) := by decide +kernel
theorem dX9_undo_30 : decode cX9_undo 30 = .ok (.aload_n 0, 1) := by decide +kernel
theorem dX9_undo_31 : decode cX9_undo 31 = .ok (.invokevirtual 146, 3) := by decide +kernel
theorem dX9_undo_34 : decode cX9_undo 34 = .ok (.istore_n 1, 1) := by decide +kernel
theorem dX9_undo_35 : decode cX9_undo 35 = .ok (.iconst 0, 1) := by decide +kernel
theorem dX9_undo_36 : decode cX9_undo 36 = .ok (.istore_n 2, 1) := by decide +kernel
theorem dX9_undo_37 : decode cX9_undo 37 = .ok (.iload_n 2, 1) := by decide +kernel
theorem dX9_undo_38 : decode cX9_undo 38 = .ok (.sipush 2202, 3) := by decide +kernel
theorem dX9_undo_41 : decode cX9_undo 41 = .ok (.if_icmp .ge 30, 3) := by decide +kernel
theorem dX9_undo_44 : decode cX9_undo 44 = .ok (.aload_n 0, 1) := by decide +kernel
theorem dX9_undo_45 : decode cX9_undo 45 = .ok (.getfield 32, 3) := by decide +kernel
theorem dX9_undo_48 : decode cX9_undo 48 = .ok (.iload_n 2, 1) := by decide +kernel
theorem dX9_undo_49 : decode cX9_undo 49 = .ok (.aload_n 0, 1) := by decide +kernel
theorem dX9_undo_50 : decode cX9_undo 50 = .ok (.getfield 38, 3) := by decide +kernel
theorem dX9_undo_53 : decode cX9_undo 53 = .ok (.sipush 2202, 3) := by decide +kernel
theorem dX9_undo_56 : decode cX9_undo 56 = .ok (.aload_n 0, 1) := by decide +kernel
theorem dX9_undo_57 : decode cX9_undo 57 = .ok (.getfield 91, 3) := by decide +kernel
theorem dX9_undo_60 : decode cX9_undo 60 = .ok (.imul, 1) := by decide +kernel
theorem dX9_undo_61 : decode cX9_undo 61 = .ok (.iload_n 2, 1) := by decide +kernel
theorem dX9_undo_62 : decode cX9_undo 62 = .ok (.iadd, 1) := by decide +kernel
theorem dX9_undo_63 : decode cX9_undo 63 = .ok (.iaload, 1) := by decide +kernel
theorem dX9_undo_64 : decode cX9_undo 64 = .ok (.iastore, 1) := by decide +kernel
theorem dX9_undo_65 : decode cX9_undo 65 = .ok (.iinc 2 1, 3) := by decide +kernel
theorem dX9_undo_68 : decode cX9_undo 68 = .ok (.goto (-31), 3) := by decide +kernel
theorem dX9_undo_71 : decode cX9_undo 71 = .ok (.aload_n 0, 1) := by decide +kernel
theorem dX9_undo_72 : decode cX9_undo 72 = .ok (.iload_n 1, 1) := by decide +kernel
theorem dX9_undo_73 : decode cX9_undo 73 = .ok (.invokevirtual 149, 3) := by decide +kernel
theorem dX9_undo_76 : decode cX9_undo 76 = .ok (.aload_n 0, 1) := by decide +kernel
theorem dX9_undo_77 : decode cX9_undo 77 = .ok (.getfield 91, 3) := by decide +kernel
theorem dX9_undo_80 : decode cX9_undo 80 = .ok (.ireturn, 1) := by decide +kernel
theorem dX9_bound_0 : decode cX9_bound 0 = .ok (.iload_n 1, 1) := by decide +kernel
theorem dX9_bound_1 : decode cX9_bound 1 = .ok (.iconst 0, 1) := by decide +kernel
theorem dX9_bound_2 : decode cX9_bound 2 = .ok (.sipush 10000, 3) := by decide +kernel
theorem dX9_bound_5 : decode cX9_bound 5 = .ok (.invokestatic 75, 3) := by decide +kernel
theorem dX9_bound_8 : decode cX9_bound 8 = .ok (.ifCond .eq 5, 3) := by decide +kernel
theorem dX9_bound_11 : decode cX9_bound 11 = .ok (.iconst (-1), 1) := by decide +kernel
theorem dX9_bound_12 : decode cX9_bound 12 = .ok (.ireturn, 1) := by decide +kernel
theorem dX9_bound_13 : decode cX9_bound 13 = .ok (.aload_n 0, 1) := by decide +kernel
theorem dX9_bound_14 : decode cX9_bound 14 = .ok (.getfield 44, 3) := by decide +kernel
theorem dX9_bound_17 : decode cX9_bound 17 = .ok (.istore_n 2, 1) := by decide +kernel
theorem dX9_bound_18 : decode cX9_bound 18 = .ok (.aload_n 0, 1) := by decide +kernel
theorem dX9_bound_19 : decode cX9_bound 19 = .ok (.iload_n 1, 1) := by decide +kernel
theorem dX9_bound_20 : decode cX9_bound 20 = .ok (.putfield 44, 3) := by decide +kernel
theorem dX9_bound_23 : decode cX9_bound 23 = .ok (.aload_n 0, 1) := by decide +kernel
theorem dX9_bound_24 : decode cX9_bound 24 = .ok (.invokevirtual 190, 3) := by decide +kernel
theorem dX9_bound_27 : decode cX9_bound 27 = .ok (.iload_n 2, 1) := by decide +kernel
theorem dX9_bound_28 : decode cX9_bound 28 = .ok (.ireturn, 1) := by decide +kernel
theorem dX9_restart_0 : decode cX9_restart 0 = .ok (.aload_n 0, 1) := by decide +kernel
theorem dX9_restart_1 : decode cX9_restart 1 = .ok (.getfield 82, 3) := by decide +kernel
theorem dX9_restart_4 : decode cX9_restart 4 = .ok (.ifCond .ne 6, 3) := by decide +kernel
theorem dX9_restart_7 : decode cX9_restart 7 = .ok (.bipush (-4), 2) := by decide +kernel
theorem dX9_restart_9 : decode cX9_restart 9 = .ok (.ireturn, 1) := by decide +kernel
theorem dX9_restart_10 : decode cX9_restart 10 = .ok (.aload_n 0, 1) := by decide +kernel
theorem dX9_restart_11 : decode cX9_restart 11 = .ok (.invokevirtual 146, 3) := by decide +kernel
theorem dX9_restart_14 : decode cX9_restart 14 = .ok (.istore_n 1, 1) := by decide +kernel
theorem dX9_restart_15 : decode cX9_restart 15 = .ok (.aload_n 0, 1) := by decide +kernel
theorem dX9_restart_16 : decode cX9_restart 16 = .ok (.invokevirtual 85, 3) := by decide +kernel
theorem dX9_restart_19 : decode cX9_restart 19 = .ok (.aload_n 0, 1) := by decide +kernel
theorem dX9_restart_20 : decode cX9_restart 20 = .ok (.iload_n 1, 1) := by decide +kernel
theorem dX9_restart_21 : decode cX9_restart 21 = .ok (.invokevirtual 149, 3) := by decide +kernel
theorem dX9_restart_24 : decode cX9_restart 24 = .ok (.iconst 1, 1) := by decide +kernel
theorem dX9_restart_25 : decode cX9_restart 25 = .ok (.ireturn, 1) := by decide +kernel
theorem dX9_told_0 : decode cX9_told 0 = .ok (.iload_n 1, 1) := by decide +kernel
theorem dX9_told_1 : decode cX9_told 1 = .ok (.tableswitch 150 0 9 #[55, 60, 80, 100, 105, 110, 130, 135, 140, 145], 55) := by decide +kernel
theorem dX9_told_56 : decode cX9_told 56 = .ok (.aload_n 0, 1) := by decide +kernel
theorem dX9_told_57 : decode cX9_told 57 = .ok (.getfield 82, 3) := by decide +kernel
theorem dX9_told_60 : decode cX9_told 60 = .ok (.ireturn, 1) := by decide +kernel
theorem dX9_told_61 : decode cX9_told 61 = .ok (.aload_n 0, 1) := by decide +kernel
theorem dX9_told_62 : decode cX9_told 62 = .ok (.getfield 82, 3) := by decide +kernel
theorem dX9_told_65 : decode cX9_told 65 = .ok (.ifCond .ne 7, 3) := by decide +kernel
theorem dX9_told_68 : decode cX9_told 68 = .ok (.iconst 0, 1) := by decide +kernel
theorem dX9_told_69 : decode cX9_told 69 = .ok (.goto 11, 3) := by decide +kernel
theorem dX9_told_72 : decode cX9_told 72 = .ok (.aload_n 0, 1) := by decide +kernel
theorem dX9_told_73 : decode cX9_told 73 = .ok (.getfield 32, 3) := by decide +kernel
theorem dX9_told_76 : decode cX9_told 76 = .ok (.sipush 1000, 3) := by decide +kernel
theorem dX9_told_79 : decode cX9_told 79 = .ok (.iaload, 1) := by decide +kernel
theorem dX9_told_80 : decode cX9_told 80 = .ok (.ireturn, 1) := by decide +kernel
theorem dX9_told_81 : decode cX9_told 81 = .ok (.aload_n 0, 1) := by decide +kernel
theorem dX9_told_82 : decode cX9_told 82 = .ok (.getfield 82, 3) := by decide +kernel
theorem dX9_told_85 : decode cX9_told 85 = .ok (.ifCond .ne 7, 3) := by decide +kernel
theorem dX9_told_88 : decode cX9_told 88 = .ok (.iconst 0, 1) := by decide +kernel
theorem dX9_told_89 : decode cX9_told 89 = .ok (.goto 11, 3) := by decide +kernel
theorem dX9_told_92 : decode cX9_told 92 = .ok (.aload_n 0, 1) := by decide +kernel
theorem dX9_told_93 : decode cX9_told 93 = .ok (.getfield 32, 3) := by decide +kernel
theorem dX9_told_96 : decode cX9_told 96 = .ok (.sipush 1001, 3) := by decide +kernel
theorem dX9_told_99 : decode cX9_told 99 = .ok (.iaload, 1) := by decide +kernel
theorem dX9_told_100 : decode cX9_told 100 = .ok (.ireturn, 1) := by decide +kernel
theorem dX9_told_101 : decode cX9_told 101 = .ok (.aload_n 0, 1) := by decide +kernel
theorem dX9_told_102 : decode cX9_told 102 = .ok (.getfield 91, 3) := by decide +kernel
theorem dX9_told_105 : decode cX9_told 105 = .ok (.ireturn, 1) := by decide +kernel
theorem dX9_told_106 : decode cX9_told 106 = .ok (.aload_n 0, 1) := by decide +kernel
theorem dX9_told_107 : decode cX9_told 107 = .ok (.invokevirtual 183, 3) := by decide +kernel
theorem dX9_told_110 : decode cX9_told 110 = .ok (.ireturn, 1) := by decide +kernel
theorem dX9_told_111 : decode cX9_told 111 = .ok (.aload_n 0, 1) := by decide +kernel
theorem dX9_told_112 : decode cX9_told 112 = .ok (.getfield 82, 3) := by decide +kernel
theorem dX9_told_115 : decode cX9_told 115 = .ok (.ifCond .ne 7, 3) := by decide +kernel
theorem dX9_told_118 : decode cX9_told 118 = .ok (.iconst 0, 1) := by decide +kernel
theorem dX9_told_119 : decode cX9_told 119 = .ok (.goto 11, 3) := by decide +kernel
theorem dX9_told_122 : decode cX9_told 122 = .ok (.aload_n 0, 1) := by decide +kernel
theorem dX9_told_123 : decode cX9_told 123 = .ok (.aload_n 0, 1) := by decide +kernel
theorem dX9_told_124 : decode cX9_told 124 = .ok (.getfield 32, 3) := by decide +kernel
theorem dX9_told_127 : decode cX9_told 127 = .ok (.invokevirtual 186, 3) := by decide +kernel
theorem dX9_told_130 : decode cX9_told 130 = .ok (.ireturn, 1) := by decide +kernel
theorem dX9_told_131 : decode cX9_told 131 = .ok (.aload_n 0, 1) := by decide +kernel
theorem dX9_told_132 : decode cX9_told 132 = .ok (.getfield 88, 3) := by decide +kernel
theorem dX9_told_135 : decode cX9_told 135 = .ok (.ireturn, 1) := by decide +kernel
theorem dX9_told_136 : decode cX9_told 136 = .ok (.aload_n 0, 1) := by decide +kernel
theorem dX9_told_137 : decode cX9_told 137 = .ok (.getfield 68, 3) := by decide +kernel
theorem dX9_told_140 : decode cX9_told 140 = .ok (.ireturn, 1) := by decide +kernel
theorem dX9_told_141 : decode cX9_told 141 = .ok (.aload_n 0, 1) := by decide +kernel
theorem dX9_told_142 : decode cX9_told 142 = .ok (.getfield 79, 3) := by decide +kernel
theorem dX9_told_145 : decode cX9_told 145 = .ok (.ireturn, 1) := by decide +kernel
theorem dX9_told_146 : decode cX9_told 146 = .ok (.aload_n 0, 1) := by decide +kernel
theorem dX9_told_147 : decode cX9_told 147 = .ok (.getfield 19, 3) := by decide +kernel
theorem dX9_told_150 : decode cX9_told 150 = .ok (.ireturn, 1) := by decide +kernel
theorem dX9_told_151 : decode cX9_told 151 = .ok (.iconst (-1), 1) := by decide +kernel
theorem dX9_told_152 : decode cX9_told 152 = .ok (.ireturn, 1) := by decide +kernel
theorem dJ6_bitCount_0f7a4_0 : decode cJ6_bitCount_0f7a4 0 = .ok (.iload_n 0, 1) := by decide +kernel
theorem dJ6_bitCount_0f7a4_1 : decode cJ6_bitCount_0f7a4 1 = .ok (.iload_n 0, 1) := by decide +kernel
theorem dJ6_bitCount_0f7a4_2 : decode cJ6_bitCount_0f7a4 2 = .ok (.iconst 1, 1) := by decide +kernel
theorem dJ6_bitCount_0f7a4_3 : decode cJ6_bitCount_0f7a4 3 = .ok (.iushr, 1) := by decide +kernel
theorem dJ6_bitCount_0f7a4_4 : decode cJ6_bitCount_0f7a4 4 = .ok (.ldc_w 265, 3) := by decide +kernel
theorem dJ6_bitCount_0f7a4_7 : decode cJ6_bitCount_0f7a4 7 = .ok (.iand, 1) := by decide +kernel
theorem dJ6_bitCount_0f7a4_8 : decode cJ6_bitCount_0f7a4 8 = .ok (.isub, 1) := by decide +kernel
theorem dJ6_bitCount_0f7a4_9 : decode cJ6_bitCount_0f7a4 9 = .ok (.istore_n 0, 1) := by decide +kernel
theorem dJ6_bitCount_0f7a4_10 : decode cJ6_bitCount_0f7a4 10 = .ok (.iload_n 0, 1) := by decide +kernel
theorem dJ6_bitCount_0f7a4_11 : decode cJ6_bitCount_0f7a4 11 = .ok (.ldc_w 266, 3) := by decide +kernel
theorem dJ6_bitCount_0f7a4_14 : decode cJ6_bitCount_0f7a4 14 = .ok (.iand, 1) := by decide +kernel
theorem dJ6_bitCount_0f7a4_15 : decode cJ6_bitCount_0f7a4 15 = .ok (.iload_n 0, 1) := by decide +kernel
theorem dJ6_bitCount_0f7a4_16 : decode cJ6_bitCount_0f7a4 16 = .ok (.iconst 2, 1) := by decide +kernel
theorem dJ6_bitCount_0f7a4_17 : decode cJ6_bitCount_0f7a4 17 = .ok (.iushr, 1) := by decide +kernel
theorem dJ6_bitCount_0f7a4_18 : decode cJ6_bitCount_0f7a4 18 = .ok (.ldc_w 266, 3) := by decide +kernel
theorem dJ6_bitCount_0f7a4_21 : decode cJ6_bitCount_0f7a4 21 = .ok (.iand, 1) := by decide +kernel
theorem dJ6_bitCount_0f7a4_22 : decode cJ6_bitCount_0f7a4 22 = .ok (.iadd, 1) := by decide +kernel
theorem dJ6_bitCount_0f7a4_23 : decode cJ6_bitCount_0f7a4 23 = .ok (.istore_n 0, 1) := by decide +kernel
theorem dJ6_bitCount_0f7a4_24 : decode cJ6_bitCount_0f7a4 24 = .ok (.iload_n 0, 1) := by decide +kernel
theorem dJ6_bitCount_0f7a4_25 : decode cJ6_bitCount_0f7a4 25 = .ok (.iload_n 0, 1) := by decide +kernel
theorem dJ6_bitCount_0f7a4_26 : decode cJ6_bitCount_0f7a4 26 = .ok (.iconst 4, 1) := by decide +kernel
theorem dJ6_bitCount_0f7a4_27 : decode cJ6_bitCount_0f7a4 27 = .ok (.iushr, 1) := by decide +kernel
theorem dJ6_bitCount_0f7a4_28 : decode cJ6_bitCount_0f7a4 28 = .ok (.iadd, 1) := by decide +kernel
theorem dJ6_bitCount_0f7a4_29 : decode cJ6_bitCount_0f7a4 29 = .ok (.ldc_w 267, 3) := by decide +kernel
theorem dJ6_bitCount_0f7a4_32 : decode cJ6_bitCount_0f7a4 32 = .ok (.iand, 1) := by decide +kernel
theorem dJ6_bitCount_0f7a4_33 : decode cJ6_bitCount_0f7a4 33 = .ok (.istore_n 0, 1) := by decide +kernel
theorem dJ6_bitCount_0f7a4_34 : decode cJ6_bitCount_0f7a4 34 = .ok (.iload_n 0, 1) := by decide +kernel
theorem dJ6_bitCount_0f7a4_35 : decode cJ6_bitCount_0f7a4 35 = .ok (.iload_n 0, 1) := by decide +kernel
theorem dJ6_bitCount_0f7a4_36 : decode cJ6_bitCount_0f7a4 36 = .ok (.bipush 8, 2) := by decide +kernel
theorem dJ6_bitCount_0f7a4_38 : decode cJ6_bitCount_0f7a4 38 = .ok (.iushr, 1) := by decide +kernel
theorem dJ6_bitCount_0f7a4_39 : decode cJ6_bitCount_0f7a4 39 = .ok (.iadd, 1) := by decide +kernel
theorem dJ6_bitCount_0f7a4_40 : decode cJ6_bitCount_0f7a4 40 = .ok (.istore_n 0, 1) := by decide +kernel
theorem dJ6_bitCount_0f7a4_41 : decode cJ6_bitCount_0f7a4 41 = .ok (.iload_n 0, 1) := by decide +kernel
theorem dJ6_bitCount_0f7a4_42 : decode cJ6_bitCount_0f7a4 42 = .ok (.iload_n 0, 1) := by decide +kernel
theorem dJ6_bitCount_0f7a4_43 : decode cJ6_bitCount_0f7a4 43 = .ok (.bipush 16, 2) := by decide +kernel
theorem dJ6_bitCount_0f7a4_45 : decode cJ6_bitCount_0f7a4 45 = .ok (.iushr, 1) := by decide +kernel
theorem dJ6_bitCount_0f7a4_46 : decode cJ6_bitCount_0f7a4 46 = .ok (.iadd, 1) := by decide +kernel
theorem dJ6_bitCount_0f7a4_47 : decode cJ6_bitCount_0f7a4 47 = .ok (.istore_n 0, 1) := by decide +kernel
theorem dJ6_bitCount_0f7a4_48 : decode cJ6_bitCount_0f7a4 48 = .ok (.iload_n 0, 1) := by decide +kernel
theorem dJ6_bitCount_0f7a4_49 : decode cJ6_bitCount_0f7a4 49 = .ok (.bipush 63, 2) := by decide +kernel
theorem dJ6_bitCount_0f7a4_51 : decode cJ6_bitCount_0f7a4 51 = .ok (.iand, 1) := by decide +kernel
theorem dJ6_bitCount_0f7a4_52 : decode cJ6_bitCount_0f7a4 52 = .ok (.ireturn, 1) := by decide +kernel
theorem dJ9_max_7cf53_0 : decode cJ9_max_7cf53 0 = .ok (.iload_n 0, 1) := by decide +kernel
theorem dJ9_max_7cf53_1 : decode cJ9_max_7cf53 1 = .ok (.iload_n 1, 1) := by decide +kernel
theorem dJ9_max_7cf53_2 : decode cJ9_max_7cf53 2 = .ok (.if_icmp .lt 7, 3) := by decide +kernel
theorem dJ9_max_7cf53_5 : decode cJ9_max_7cf53 5 = .ok (.iload_n 0, 1) := by decide +kernel
theorem dJ9_max_7cf53_6 : decode cJ9_max_7cf53 6 = .ok (.goto 4, 3) := by decide +kernel
theorem dJ9_max_7cf53_9 : decode cJ9_max_7cf53 9 = .ok (.iload_n 1, 1) := by decide +kernel
theorem dJ9_max_7cf53_10 : decode cJ9_max_7cf53 10 = .ok (.ireturn, 1) := by decide +kernel
theorem dJ9_min_7cf53_0 : decode cJ9_min_7cf53 0 = .ok (.iload_n 0, 1) := by decide +kernel
theorem dJ9_min_7cf53_1 : decode cJ9_min_7cf53 1 = .ok (.iload_n 1, 1) := by decide +kernel
theorem dJ9_min_7cf53_2 : decode cJ9_min_7cf53 2 = .ok (.if_icmp .gt 7, 3) := by decide +kernel
theorem dJ9_min_7cf53_5 : decode cJ9_min_7cf53 5 = .ok (.iload_n 0, 1) := by decide +kernel
theorem dJ9_min_7cf53_6 : decode cJ9_min_7cf53 6 = .ok (.goto 4, 3) := by decide +kernel
theorem dJ9_min_7cf53_9 : decode cJ9_min_7cf53 9 = .ok (.iload_n 1, 1) := by decide +kernel
theorem dJ9_min_7cf53_10 : decode cJ9_min_7cf53 10 = .ok (.ireturn, 1) := by decide +kernel
theorem dL_law_0 : decode cL_law 0 = .ok (.new 7, 3) := by decide +kernel
theorem dL_law_3 : decode cL_law 3 = .ok (.dup, 1) := by decide +kernel
theorem dL_law_4 : decode cL_law 4 = .ok (.invokespecial 9, 3) := by decide +kernel
theorem dL_law_7 : decode cL_law 7 = .ok (.astore_n 1, 1) := by decide +kernel
theorem dL_law_8 : decode cL_law 8 = .ok (.new 10, 3) := by decide +kernel
theorem dL_law_11 : decode cL_law 11 = .ok (.dup, 1) := by decide +kernel
theorem dL_law_12 : decode cL_law 12 = .ok (.invokespecial 12, 3) := by decide +kernel
theorem dL_law_15 : decode cL_law 15 = .ok (.astore_n 2, 1) := by decide +kernel
theorem dL_law_16 : decode cL_law 16 = .ok (.iconst 0, 1) := by decide +kernel
theorem dL_law_17 : decode cL_law 17 = .ok (.istore_n 3, 1) := by decide +kernel
theorem dL_law_18 : decode cL_law 18 = .ok (.iload_n 3, 1) := by decide +kernel
theorem dL_law_19 : decode cL_law 19 = .ok (.aload_n 0, 1) := by decide +kernel
theorem dL_law_20 : decode cL_law 20 = .ok (.arraylength, 1) := by decide +kernel
theorem dL_law_21 : decode cL_law 21 = .ok (.bipush 6, 2) := by decide +kernel
theorem dL_law_23 : decode cL_law 23 = .ok (.isub, 1) := by decide +kernel
theorem dL_law_24 : decode cL_law 24 = .ok (.if_icmp .gt 776, 3) := by decide +kernel
theorem dL_law_27 : decode cL_law 27 = .ok (.aload_n 0, 1) := by decide +kernel
theorem dL_law_28 : decode cL_law 28 = .ok (.iload_n 3, 1) := by decide +kernel
theorem dL_law_29 : decode cL_law 29 = .ok (.iaload, 1) := by decide +kernel
theorem dL_law_30 : decode cL_law 30 = .ok (.bipush 31, 2) := by decide +kernel
theorem dL_law_32 : decode cL_law 32 = .ok (.iand, 1) := by decide +kernel
theorem dL_law_33 : decode cL_law 33 = .ok (.tableswitch 761 0 26 #[123, 186, 209, 232, 245, 258, 291, 314, 337, 390, 403, 436, 459, 472, 505, 519, 558, 571, 594, 627, 640, 663, 676, 689, 702, 725, 738], 123) := by decide +kernel
theorem dL_law_156 : decode cL_law 156 = .ok (.aload_n 1, 1) := by decide +kernel
theorem dL_law_157 : decode cL_law 157 = .ok (.aload_n 0, 1) := by decide +kernel
theorem dL_law_158 : decode cL_law 158 = .ok (.iload_n 3, 1) := by decide +kernel
theorem dL_law_159 : decode cL_law 159 = .ok (.iconst 1, 1) := by decide +kernel
theorem dL_law_160 : decode cL_law 160 = .ok (.iadd, 1) := by decide +kernel
theorem dL_law_161 : decode cL_law 161 = .ok (.iaload, 1) := by decide +kernel
theorem dL_law_162 : decode cL_law 162 = .ok (.aload_n 0, 1) := by decide +kernel
theorem dL_law_163 : decode cL_law 163 = .ok (.iload_n 3, 1) := by decide +kernel
theorem dL_law_164 : decode cL_law 164 = .ok (.iconst 2, 1) := by decide +kernel
theorem dL_law_165 : decode cL_law 165 = .ok (.iadd, 1) := by decide +kernel
theorem dL_law_166 : decode cL_law 166 = .ok (.iaload, 1) := by decide +kernel
theorem dL_law_167 : decode cL_law 167 = .ok (.aload_n 0, 1) := by decide +kernel
theorem dL_law_168 : decode cL_law 168 = .ok (.iload_n 3, 1) := by decide +kernel
theorem dL_law_169 : decode cL_law 169 = .ok (.iconst 3, 1) := by decide +kernel
theorem dL_law_170 : decode cL_law 170 = .ok (.iadd, 1) := by decide +kernel
theorem dL_law_171 : decode cL_law 171 = .ok (.iaload, 1) := by decide +kernel
theorem dL_law_172 : decode cL_law 172 = .ok (.aload_n 0, 1) := by decide +kernel
theorem dL_law_173 : decode cL_law 173 = .ok (.iload_n 3, 1) := by decide +kernel
theorem dL_law_174 : decode cL_law 174 = .ok (.iconst 4, 1) := by decide +kernel
theorem dL_law_175 : decode cL_law 175 = .ok (.iadd, 1) := by decide +kernel
theorem dL_law_176 : decode cL_law 176 = .ok (.iaload, 1) := by decide +kernel
theorem dL_law_177 : decode cL_law 177 = .ok (.aload_n 0, 1) := by decide +kernel
theorem dL_law_178 : decode cL_law 178 = .ok (.iload_n 3, 1) := by decide +kernel
theorem dL_law_179 : decode cL_law 179 = .ok (.iconst 5, 1) := by decide +kernel
theorem dL_law_180 : decode cL_law 180 = .ok (.iadd, 1) := by decide +kernel
theorem dL_law_181 : decode cL_law 181 = .ok (.iaload, 1) := by decide +kernel
theorem dL_law_182 : decode cL_law 182 = .ok (.invokevirtual 13, 3) := by decide +kernel
theorem dL_law_185 : decode cL_law 185 = .ok (.aload_n 2, 1) := by decide +kernel
theorem dL_law_186 : decode cL_law 186 = .ok (.aload_n 0, 1) := by decide +kernel
theorem dL_law_187 : decode cL_law 187 = .ok (.iload_n 3, 1) := by decide +kernel
theorem dL_law_188 : decode cL_law 188 = .ok (.iconst 1, 1) := by decide +kernel
theorem dL_law_189 : decode cL_law 189 = .ok (.iadd, 1) := by decide +kernel
theorem dL_law_190 : decode cL_law 190 = .ok (.iaload, 1) := by decide +kernel
theorem dL_law_191 : decode cL_law 191 = .ok (.aload_n 0, 1) := by decide +kernel
theorem dL_law_192 : decode cL_law 192 = .ok (.iload_n 3, 1) := by decide +kernel
theorem dL_law_193 : decode cL_law 193 = .ok (.iconst 2, 1) := by decide +kernel
theorem dL_law_194 : decode cL_law 194 = .ok (.iadd, 1) := by decide +kernel
theorem dL_law_195 : decode cL_law 195 = .ok (.iaload, 1) := by decide +kernel
theorem dL_law_196 : decode cL_law 196 = .ok (.aload_n 0, 1) := by decide +kernel
theorem dL_law_197 : decode cL_law 197 = .ok (.iload_n 3, 1) := by decide +kernel
theorem dL_law_198 : decode cL_law 198 = .ok (.iconst 3, 1) := by decide +kernel
theorem dL_law_199 : decode cL_law 199 = .ok (.iadd, 1) := by decide +kernel
theorem dL_law_200 : decode cL_law 200 = .ok (.iaload, 1) := by decide +kernel
theorem dL_law_201 : decode cL_law 201 = .ok (.aload_n 0, 1) := by decide +kernel
theorem dL_law_202 : decode cL_law 202 = .ok (.iload_n 3, 1) := by decide +kernel
theorem dL_law_203 : decode cL_law 203 = .ok (.iconst 4, 1) := by decide +kernel
theorem dL_law_204 : decode cL_law 204 = .ok (.iadd, 1) := by decide +kernel
theorem dL_law_205 : decode cL_law 205 = .ok (.iaload, 1) := by decide +kernel
theorem dL_law_206 : decode cL_law 206 = .ok (.aload_n 0, 1) := by decide +kernel
theorem dL_law_207 : decode cL_law 207 = .ok (.iload_n 3, 1) := by decide +kernel
theorem dL_law_208 : decode cL_law 208 = .ok (.iconst 5, 1) := by decide +kernel
theorem dL_law_209 : decode cL_law 209 = .ok (.iadd, 1) := by decide +kernel
theorem dL_law_210 : decode cL_law 210 = .ok (.iaload, 1) := by decide +kernel
theorem dL_law_211 : decode cL_law 211 = .ok (.invokevirtual 17, 3) := by decide +kernel
theorem dL_law_214 : decode cL_law 214 = .ok (.if_icmp .eq 580, 3) := by decide +kernel
theorem dL_law_217 : decode cL_law 217 = .ok (.iconst 0, 1) := by decide +kernel
theorem dL_law_218 : decode cL_law 218 = .ok (.ireturn, 1) := by decide +kernel
theorem dL_law_219 : decode cL_law 219 = .ok (.aload_n 1, 1) := by decide +kernel
theorem dL_law_220 : decode cL_law 220 = .ok (.aload_n 0, 1) := by decide +kernel
theorem dL_law_221 : decode cL_law 221 = .ok (.iload_n 3, 1) := by decide +kernel
theorem dL_law_222 : decode cL_law 222 = .ok (.iconst 1, 1) := by decide +kernel
theorem dL_law_223 : decode cL_law 223 = .ok (.iadd, 1) := by decide +kernel
theorem dL_law_224 : decode cL_law 224 = .ok (.iaload, 1) := by decide +kernel
theorem dL_law_225 : decode cL_law 225 = .ok (.invokevirtual 18, 3) := by decide +kernel
theorem dL_law_228 : decode cL_law 228 = .ok (.aload_n 2, 1) := by decide +kernel
theorem dL_law_229 : decode cL_law 229 = .ok (.aload_n 0, 1) := by decide +kernel
theorem dL_law_230 : decode cL_law 230 = .ok (.iload_n 3, 1) := by decide +kernel
theorem dL_law_231 : decode cL_law 231 = .ok (.iconst 1, 1) := by decide +kernel
theorem dL_law_232 : decode cL_law 232 = .ok (.iadd, 1) := by decide +kernel
theorem dL_law_233 : decode cL_law 233 = .ok (.iaload, 1) := by decide +kernel
theorem dL_law_234 : decode cL_law 234 = .ok (.invokevirtual 22, 3) := by decide +kernel
theorem dL_law_237 : decode cL_law 237 = .ok (.if_icmp .eq 557, 3) := by decide +kernel
theorem dL_law_240 : decode cL_law 240 = .ok (.iconst 0, 1) := by decide +kernel
theorem dL_law_241 : decode cL_law 241 = .ok (.ireturn, 1) := by decide +kernel
theorem dL_law_242 : decode cL_law 242 = .ok (.aload_n 1, 1) := by decide +kernel
theorem dL_law_243 : decode cL_law 243 = .ok (.aload_n 0, 1) := by decide +kernel
theorem dL_law_244 : decode cL_law 244 = .ok (.iload_n 3, 1) := by decide +kernel
theorem dL_law_245 : decode cL_law 245 = .ok (.iconst 1, 1) := by decide +kernel
theorem dL_law_246 : decode cL_law 246 = .ok (.iadd, 1) := by decide +kernel
theorem dL_law_247 : decode cL_law 247 = .ok (.iaload, 1) := by decide +kernel
theorem dL_law_248 : decode cL_law 248 = .ok (.invokevirtual 23, 3) := by decide +kernel
theorem dL_law_251 : decode cL_law 251 = .ok (.aload_n 2, 1) := by decide +kernel
theorem dL_law_252 : decode cL_law 252 = .ok (.aload_n 0, 1) := by decide +kernel
theorem dL_law_253 : decode cL_law 253 = .ok (.iload_n 3, 1) := by decide +kernel
theorem dL_law_254 : decode cL_law 254 = .ok (.iconst 1, 1) := by decide +kernel
theorem dL_law_255 : decode cL_law 255 = .ok (.iadd, 1) := by decide +kernel
theorem dL_law_256 : decode cL_law 256 = .ok (.iaload, 1) := by decide +kernel
theorem dL_law_257 : decode cL_law 257 = .ok (.invokevirtual 26, 3) := by decide +kernel
theorem dL_law_260 : decode cL_law 260 = .ok (.if_icmp .eq 534, 3) := by decide +kernel
theorem dL_law_263 : decode cL_law 263 = .ok (.iconst 0, 1) := by decide +kernel
theorem dL_law_264 : decode cL_law 264 = .ok (.ireturn, 1) := by decide +kernel
theorem dL_law_265 : decode cL_law 265 = .ok (.aload_n 1, 1) := by decide +kernel
theorem dL_law_266 : decode cL_law 266 = .ok (.invokevirtual 27, 3) := by decide +kernel
theorem dL_law_269 : decode cL_law 269 = .ok (.aload_n 2, 1) := by decide +kernel
theorem dL_law_270 : decode cL_law 270 = .ok (.invokevirtual 31, 3) := by decide +kernel
theorem dL_law_273 : decode cL_law 273 = .ok (.if_icmp .eq 521, 3) := by decide +kernel
theorem dL_law_276 : decode cL_law 276 = .ok (.iconst 0, 1) := by decide +kernel
theorem dL_law_277 : decode cL_law 277 = .ok (.ireturn, 1) := by decide +kernel
theorem dL_law_278 : decode cL_law 278 = .ok (.aload_n 1, 1) := by decide +kernel
theorem dL_law_279 : decode cL_law 279 = .ok (.invokevirtual 32, 3) := by decide +kernel
theorem dL_law_282 : decode cL_law 282 = .ok (.aload_n 2, 1) := by decide +kernel
theorem dL_law_283 : decode cL_law 283 = .ok (.invokevirtual 35, 3) := by decide +kernel
theorem dL_law_286 : decode cL_law 286 = .ok (.if_icmp .eq 508, 3) := by decide +kernel
theorem dL_law_289 : decode cL_law 289 = .ok (.iconst 0, 1) := by decide +kernel
theorem dL_law_290 : decode cL_law 290 = .ok (.ireturn, 1) := by decide +kernel
theorem dL_law_291 : decode cL_law 291 = .ok (.aload_n 1, 1) := by decide +kernel
theorem dL_law_292 : decode cL_law 292 = .ok (.aload_n 0, 1) := by decide +kernel
theorem dL_law_293 : decode cL_law 293 = .ok (.iload_n 3, 1) := by decide +kernel
theorem dL_law_294 : decode cL_law 294 = .ok (.iconst 1, 1) := by decide +kernel
theorem dL_law_295 : decode cL_law 295 = .ok (.iadd, 1) := by decide +kernel
theorem dL_law_296 : decode cL_law 296 = .ok (.iaload, 1) := by decide +kernel
theorem dL_law_297 : decode cL_law 297 = .ok (.aload_n 0, 1) := by decide +kernel
theorem dL_law_298 : decode cL_law 298 = .ok (.iload_n 3, 1) := by decide +kernel
theorem dL_law_299 : decode cL_law 299 = .ok (.iconst 2, 1) := by decide +kernel
theorem dL_law_300 : decode cL_law 300 = .ok (.iadd, 1) := by decide +kernel
theorem dL_law_301 : decode cL_law 301 = .ok (.iaload, 1) := by decide +kernel
theorem dL_law_302 : decode cL_law 302 = .ok (.invokevirtual 36, 3) := by decide +kernel
theorem dL_law_305 : decode cL_law 305 = .ok (.aload_n 2, 1) := by decide +kernel
theorem dL_law_306 : decode cL_law 306 = .ok (.aload_n 0, 1) := by decide +kernel
theorem dL_law_307 : decode cL_law 307 = .ok (.iload_n 3, 1) := by decide +kernel
theorem dL_law_308 : decode cL_law 308 = .ok (.iconst 1, 1) := by decide +kernel
theorem dL_law_309 : decode cL_law 309 = .ok (.iadd, 1) := by decide +kernel
theorem dL_law_310 : decode cL_law 310 = .ok (.iaload, 1) := by decide +kernel
theorem dL_law_311 : decode cL_law 311 = .ok (.aload_n 0, 1) := by decide +kernel
theorem dL_law_312 : decode cL_law 312 = .ok (.iload_n 3, 1) := by decide +kernel
theorem dL_law_313 : decode cL_law 313 = .ok (.iconst 2, 1) := by decide +kernel
theorem dL_law_314 : decode cL_law 314 = .ok (.iadd, 1) := by decide +kernel
theorem dL_law_315 : decode cL_law 315 = .ok (.iaload, 1) := by decide +kernel
theorem dL_law_316 : decode cL_law 316 = .ok (.invokevirtual 40, 3) := by decide +kernel
theorem dL_law_319 : decode cL_law 319 = .ok (.if_icmp .eq 475, 3) := by decide +kernel
theorem dL_law_322 : decode cL_law 322 = .ok (.iconst 0, 1) := by decide +kernel
theorem dL_law_323 : decode cL_law 323 = .ok (.ireturn, 1) := by decide +kernel
theorem dL_law_324 : decode cL_law 324 = .ok (.aload_n 1, 1) := by decide +kernel
theorem dL_law_325 : decode cL_law 325 = .ok (.aload_n 0, 1) := by decide +kernel
theorem dL_law_326 : decode cL_law 326 = .ok (.iload_n 3, 1) := by decide +kernel
theorem dL_law_327 : decode cL_law 327 = .ok (.iconst 1, 1) := by decide +kernel
theorem dL_law_328 : decode cL_law 328 = .ok (.iadd, 1) := by decide +kernel
theorem dL_law_329 : decode cL_law 329 = .ok (.iaload, 1) := by decide +kernel
theorem dL_law_330 : decode cL_law 330 = .ok (.invokevirtual 41, 3) := by decide +kernel
theorem dL_law_333 : decode cL_law 333 = .ok (.aload_n 2, 1) := by decide +kernel
theorem dL_law_334 : decode cL_law 334 = .ok (.aload_n 0, 1) := by decide +kernel
theorem dL_law_335 : decode cL_law 335 = .ok (.iload_n 3, 1) := by decide +kernel
theorem dL_law_336 : decode cL_law 336 = .ok (.iconst 1, 1) := by decide +kernel
theorem dL_law_337 : decode cL_law 337 = .ok (.iadd, 1) := by decide +kernel
theorem dL_law_338 : decode cL_law 338 = .ok (.iaload, 1) := by decide +kernel
theorem dL_law_339 : decode cL_law 339 = .ok (.invokevirtual 44, 3) := by decide +kernel
theorem dL_law_342 : decode cL_law 342 = .ok (.if_icmp .eq 452, 3) := by decide +kernel
theorem dL_law_345 : decode cL_law 345 = .ok (.iconst 0, 1) := by decide +kernel
theorem dL_law_346 : decode cL_law 346 = .ok (.ireturn, 1) := by decide +kernel
theorem dL_law_347 : decode cL_law 347 = .ok (.aload_n 1, 1) := by decide +kernel
theorem dL_law_348 : decode cL_law 348 = .ok (.aload_n 0, 1) := by decide +kernel
theorem dL_law_349 : decode cL_law 349 = .ok (.iload_n 3, 1) := by decide +kernel
theorem dL_law_350 : decode cL_law 350 = .ok (.iconst 1, 1) := by decide +kernel
theorem dL_law_351 : decode cL_law 351 = .ok (.iadd, 1) := by decide +kernel
theorem dL_law_352 : decode cL_law 352 = .ok (.iaload, 1) := by decide +kernel
theorem dL_law_353 : decode cL_law 353 = .ok (.invokevirtual 45, 3) := by decide +kernel
theorem dL_law_356 : decode cL_law 356 = .ok (.aload_n 2, 1) := by decide +kernel
theorem dL_law_357 : decode cL_law 357 = .ok (.aload_n 0, 1) := by decide +kernel
theorem dL_law_358 : decode cL_law 358 = .ok (.iload_n 3, 1) := by decide +kernel
theorem dL_law_359 : decode cL_law 359 = .ok (.iconst 1, 1) := by decide +kernel
theorem dL_law_360 : decode cL_law 360 = .ok (.iadd, 1) := by decide +kernel
theorem dL_law_361 : decode cL_law 361 = .ok (.iaload, 1) := by decide +kernel
theorem dL_law_362 : decode cL_law 362 = .ok (.invokevirtual 48, 3) := by decide +kernel
theorem dL_law_365 : decode cL_law 365 = .ok (.if_icmp .eq 429, 3) := by decide +kernel
theorem dL_law_368 : decode cL_law 368 = .ok (.iconst 0, 1) := by decide +kernel
theorem dL_law_369 : decode cL_law 369 = .ok (.ireturn, 1) := by decide +kernel
theorem dL_law_370 : decode cL_law 370 = .ok (.aload_n 1, 1) := by decide +kernel
theorem dL_law_371 : decode cL_law 371 = .ok (.aload_n 0, 1) := by decide +kernel
theorem dL_law_372 : decode cL_law 372 = .ok (.iload_n 3, 1) := by decide +kernel
theorem dL_law_373 : decode cL_law 373 = .ok (.iconst 1, 1) := by decide +kernel
theorem dL_law_374 : decode cL_law 374 = .ok (.iadd, 1) := by decide +kernel
theorem dL_law_375 : decode cL_law 375 = .ok (.iaload, 1) := by decide +kernel
theorem dL_law_376 : decode cL_law 376 = .ok (.aload_n 0, 1) := by decide +kernel
theorem dL_law_377 : decode cL_law 377 = .ok (.iload_n 3, 1) := by decide +kernel
theorem dL_law_378 : decode cL_law 378 = .ok (.iconst 2, 1) := by decide +kernel
theorem dL_law_379 : decode cL_law 379 = .ok (.iadd, 1) := by decide +kernel
theorem dL_law_380 : decode cL_law 380 = .ok (.iaload, 1) := by decide +kernel
theorem dL_law_381 : decode cL_law 381 = .ok (.aload_n 0, 1) := by decide +kernel
theorem dL_law_382 : decode cL_law 382 = .ok (.iload_n 3, 1) := by decide +kernel
theorem dL_law_383 : decode cL_law 383 = .ok (.iconst 3, 1) := by decide +kernel
theorem dL_law_384 : decode cL_law 384 = .ok (.iadd, 1) := by decide +kernel
theorem dL_law_385 : decode cL_law 385 = .ok (.iaload, 1) := by decide +kernel
theorem dL_law_386 : decode cL_law 386 = .ok (.aload_n 0, 1) := by decide +kernel
theorem dL_law_387 : decode cL_law 387 = .ok (.iload_n 3, 1) := by decide +kernel
theorem dL_law_388 : decode cL_law 388 = .ok (.iconst 4, 1) := by decide +kernel
theorem dL_law_389 : decode cL_law 389 = .ok (.iadd, 1) := by decide +kernel
theorem dL_law_390 : decode cL_law 390 = .ok (.iaload, 1) := by decide +kernel
theorem dL_law_391 : decode cL_law 391 = .ok (.invokevirtual 49, 3) := by decide +kernel
theorem dL_law_394 : decode cL_law 394 = .ok (.aload_n 2, 1) := by decide +kernel
theorem dL_law_395 : decode cL_law 395 = .ok (.aload_n 0, 1) := by decide +kernel
theorem dL_law_396 : decode cL_law 396 = .ok (.iload_n 3, 1) := by decide +kernel
theorem dL_law_397 : decode cL_law 397 = .ok (.iconst 1, 1) := by decide +kernel
theorem dL_law_398 : decode cL_law 398 = .ok (.iadd, 1) := by decide +kernel
theorem dL_law_399 : decode cL_law 399 = .ok (.iaload, 1) := by decide +kernel
theorem dL_law_400 : decode cL_law 400 = .ok (.aload_n 0, 1) := by decide +kernel
theorem dL_law_401 : decode cL_law 401 = .ok (.iload_n 3, 1) := by decide +kernel
theorem dL_law_402 : decode cL_law 402 = .ok (.iconst 2, 1) := by decide +kernel
theorem dL_law_403 : decode cL_law 403 = .ok (.iadd, 1) := by decide +kernel
theorem dL_law_404 : decode cL_law 404 = .ok (.iaload, 1) := by decide +kernel
theorem dL_law_405 : decode cL_law 405 = .ok (.aload_n 0, 1) := by decide +kernel
theorem dL_law_406 : decode cL_law 406 = .ok (.iload_n 3, 1) := by decide +kernel
theorem dL_law_407 : decode cL_law 407 = .ok (.iconst 3, 1) := by decide +kernel
theorem dL_law_408 : decode cL_law 408 = .ok (.iadd, 1) := by decide +kernel
theorem dL_law_409 : decode cL_law 409 = .ok (.iaload, 1) := by decide +kernel
theorem dL_law_410 : decode cL_law 410 = .ok (.aload_n 0, 1) := by decide +kernel
theorem dL_law_411 : decode cL_law 411 = .ok (.iload_n 3, 1) := by decide +kernel
theorem dL_law_412 : decode cL_law 412 = .ok (.iconst 4, 1) := by decide +kernel
theorem dL_law_413 : decode cL_law 413 = .ok (.iadd, 1) := by decide +kernel
theorem dL_law_414 : decode cL_law 414 = .ok (.iaload, 1) := by decide +kernel
theorem dL_law_415 : decode cL_law 415 = .ok (.invokevirtual 53, 3) := by decide +kernel
theorem dL_law_418 : decode cL_law 418 = .ok (.if_icmp .eq 376, 3) := by decide +kernel
theorem dL_law_421 : decode cL_law 421 = .ok (.iconst 0, 1) := by decide +kernel
theorem dL_law_422 : decode cL_law 422 = .ok (.ireturn, 1) := by decide +kernel
theorem dL_law_423 : decode cL_law 423 = .ok (.aload_n 1, 1) := by decide +kernel
theorem dL_law_424 : decode cL_law 424 = .ok (.invokevirtual 54, 3) := by decide +kernel
theorem dL_law_427 : decode cL_law 427 = .ok (.aload_n 2, 1) := by decide +kernel
theorem dL_law_428 : decode cL_law 428 = .ok (.invokevirtual 57, 3) := by decide +kernel
theorem dL_law_431 : decode cL_law 431 = .ok (.if_icmp .eq 363, 3) := by decide +kernel
theorem dL_law_434 : decode cL_law 434 = .ok (.iconst 0, 1) := by decide +kernel
theorem dL_law_435 : decode cL_law 435 = .ok (.ireturn, 1) := by decide +kernel
theorem dL_law_436 : decode cL_law 436 = .ok (.aload_n 1, 1) := by decide +kernel
theorem dL_law_437 : decode cL_law 437 = .ok (.aload_n 0, 1) := by decide +kernel
theorem dL_law_438 : decode cL_law 438 = .ok (.iload_n 3, 1) := by decide +kernel
theorem dL_law_439 : decode cL_law 439 = .ok (.iconst 1, 1) := by decide +kernel
theorem dL_law_440 : decode cL_law 440 = .ok (.iadd, 1) := by decide +kernel
theorem dL_law_441 : decode cL_law 441 = .ok (.iaload, 1) := by decide +kernel
theorem dL_law_442 : decode cL_law 442 = .ok (.aload_n 0, 1) := by decide +kernel
theorem dL_law_443 : decode cL_law 443 = .ok (.iload_n 3, 1) := by decide +kernel
theorem dL_law_444 : decode cL_law 444 = .ok (.iconst 2, 1) := by decide +kernel
theorem dL_law_445 : decode cL_law 445 = .ok (.iadd, 1) := by decide +kernel
theorem dL_law_446 : decode cL_law 446 = .ok (.iaload, 1) := by decide +kernel
theorem dL_law_447 : decode cL_law 447 = .ok (.invokevirtual 58, 3) := by decide +kernel
theorem dL_law_450 : decode cL_law 450 = .ok (.aload_n 2, 1) := by decide +kernel
theorem dL_law_451 : decode cL_law 451 = .ok (.aload_n 0, 1) := by decide +kernel
theorem dL_law_452 : decode cL_law 452 = .ok (.iload_n 3, 1) := by decide +kernel
theorem dL_law_453 : decode cL_law 453 = .ok (.iconst 1, 1) := by decide +kernel
theorem dL_law_454 : decode cL_law 454 = .ok (.iadd, 1) := by decide +kernel
theorem dL_law_455 : decode cL_law 455 = .ok (.iaload, 1) := by decide +kernel
theorem dL_law_456 : decode cL_law 456 = .ok (.aload_n 0, 1) := by decide +kernel
theorem dL_law_457 : decode cL_law 457 = .ok (.iload_n 3, 1) := by decide +kernel
theorem dL_law_458 : decode cL_law 458 = .ok (.iconst 2, 1) := by decide +kernel
theorem dL_law_459 : decode cL_law 459 = .ok (.iadd, 1) := by decide +kernel
theorem dL_law_460 : decode cL_law 460 = .ok (.iaload, 1) := by decide +kernel
theorem dL_law_461 : decode cL_law 461 = .ok (.invokevirtual 61, 3) := by decide +kernel
theorem dL_law_464 : decode cL_law 464 = .ok (.if_icmp .eq 330, 3) := by decide +kernel
theorem dL_law_467 : decode cL_law 467 = .ok (.iconst 0, 1) := by decide +kernel
theorem dL_law_468 : decode cL_law 468 = .ok (.ireturn, 1) := by decide +kernel
theorem dL_law_469 : decode cL_law 469 = .ok (.aload_n 1, 1) := by decide +kernel
theorem dL_law_470 : decode cL_law 470 = .ok (.aload_n 0, 1) := by decide +kernel
theorem dL_law_471 : decode cL_law 471 = .ok (.iload_n 3, 1) := by decide +kernel
theorem dL_law_472 : decode cL_law 472 = .ok (.iconst 1, 1) := by decide +kernel
theorem dL_law_473 : decode cL_law 473 = .ok (.iadd, 1) := by decide +kernel
theorem dL_law_474 : decode cL_law 474 = .ok (.iaload, 1) := by decide +kernel
theorem dL_law_475 : decode cL_law 475 = .ok (.invokevirtual 62, 3) := by decide +kernel
theorem dL_law_478 : decode cL_law 478 = .ok (.aload_n 2, 1) := by decide +kernel
theorem dL_law_479 : decode cL_law 479 = .ok (.aload_n 0, 1) := by decide +kernel
theorem dL_law_480 : decode cL_law 480 = .ok (.iload_n 3, 1) := by decide +kernel
theorem dL_law_481 : decode cL_law 481 = .ok (.iconst 1, 1) := by decide +kernel
theorem dL_law_482 : decode cL_law 482 = .ok (.iadd, 1) := by decide +kernel
theorem dL_law_483 : decode cL_law 483 = .ok (.iaload, 1) := by decide +kernel
theorem dL_law_484 : decode cL_law 484 = .ok (.invokevirtual 65, 3) := by decide +kernel
theorem dL_law_487 : decode cL_law 487 = .ok (.if_icmp .eq 307, 3) := by decide +kernel
theorem dL_law_490 : decode cL_law 490 = .ok (.iconst 0, 1) := by decide +kernel
theorem dL_law_491 : decode cL_law 491 = .ok (.ireturn, 1) := by decide +kernel
theorem dL_law_492 : decode cL_law 492 = .ok (.aload_n 1, 1) := by decide +kernel
theorem dL_law_493 : decode cL_law 493 = .ok (.invokevirtual 66, 3) := by decide +kernel
theorem dL_law_496 : decode cL_law 496 = .ok (.aload_n 2, 1) := by decide +kernel
theorem dL_law_497 : decode cL_law 497 = .ok (.invokevirtual 69, 3) := by decide +kernel
theorem dL_law_500 : decode cL_law 500 = .ok (.if_icmp .eq 294, 3) := by decide +kernel
theorem dL_law_503 : decode cL_law 503 = .ok (.iconst 0, 1) := by decide +kernel
theorem dL_law_504 : decode cL_law 504 = .ok (.ireturn, 1) := by decide +kernel
theorem dL_law_505 : decode cL_law 505 = .ok (.aload_n 1, 1) := by decide +kernel
theorem dL_law_506 : decode cL_law 506 = .ok (.aload_n 0, 1) := by decide +kernel
theorem dL_law_507 : decode cL_law 507 = .ok (.iload_n 3, 1) := by decide +kernel
theorem dL_law_508 : decode cL_law 508 = .ok (.iconst 1, 1) := by decide +kernel
theorem dL_law_509 : decode cL_law 509 = .ok (.iadd, 1) := by decide +kernel
theorem dL_law_510 : decode cL_law 510 = .ok (.iaload, 1) := by decide +kernel
theorem dL_law_511 : decode cL_law 511 = .ok (.aload_n 0, 1) := by decide +kernel
theorem dL_law_512 : decode cL_law 512 = .ok (.iload_n 3, 1) := by decide +kernel
theorem dL_law_513 : decode cL_law 513 = .ok (.iconst 2, 1) := by decide +kernel
theorem dL_law_514 : decode cL_law 514 = .ok (.iadd, 1) := by decide +kernel
theorem dL_law_515 : decode cL_law 515 = .ok (.iaload, 1) := by decide +kernel
theorem dL_law_516 : decode cL_law 516 = .ok (.invokevirtual 70, 3) := by decide +kernel
theorem dL_law_519 : decode cL_law 519 = .ok (.aload_n 2, 1) := by decide +kernel
theorem dL_law_520 : decode cL_law 520 = .ok (.aload_n 0, 1) := by decide +kernel
theorem dL_law_521 : decode cL_law 521 = .ok (.iload_n 3, 1) := by decide +kernel
theorem dL_law_522 : decode cL_law 522 = .ok (.iconst 1, 1) := by decide +kernel
theorem dL_law_523 : decode cL_law 523 = .ok (.iadd, 1) := by decide +kernel
theorem dL_law_524 : decode cL_law 524 = .ok (.iaload, 1) := by decide +kernel
theorem dL_law_525 : decode cL_law 525 = .ok (.aload_n 0, 1) := by decide +kernel
theorem dL_law_526 : decode cL_law 526 = .ok (.iload_n 3, 1) := by decide +kernel
theorem dL_law_527 : decode cL_law 527 = .ok (.iconst 2, 1) := by decide +kernel
theorem dL_law_528 : decode cL_law 528 = .ok (.iadd, 1) := by decide +kernel
theorem dL_law_529 : decode cL_law 529 = .ok (.iaload, 1) := by decide +kernel
theorem dL_law_530 : decode cL_law 530 = .ok (.invokevirtual 73, 3) := by decide +kernel
theorem dL_law_533 : decode cL_law 533 = .ok (.if_icmp .eq 261, 3) := by decide +kernel
theorem dL_law_536 : decode cL_law 536 = .ok (.iconst 0, 1) := by decide +kernel
theorem dL_law_537 : decode cL_law 537 = .ok (.ireturn, 1) := by decide +kernel
theorem dL_law_538 : decode cL_law 538 = .ok (.aload_n 1, 1) := by decide +kernel
theorem dL_law_539 : decode cL_law 539 = .ok (.invokevirtual 74, 3) := by decide +kernel
theorem dL_law_542 : decode cL_law 542 = .ok (.aload_n 2, 1) := by decide +kernel
theorem dL_law_543 : decode cL_law 543 = .ok (.invokevirtual 78, 3) := by decide +kernel
theorem dL_law_546 : decode cL_law 546 = .ok (.lcmp, 1) := by decide +kernel
theorem dL_law_547 : decode cL_law 547 = .ok (.ifCond .eq 247, 3) := by decide +kernel
theorem dL_law_550 : decode cL_law 550 = .ok (.iconst 0, 1) := by decide +kernel
theorem dL_law_551 : decode cL_law 551 = .ok (.ireturn, 1) := by decide +kernel
theorem dL_law_552 : decode cL_law 552 = .ok (.aload_n 1, 1) := by decide +kernel
theorem dL_law_553 : decode cL_law 553 = .ok (.aload_n 0, 1) := by decide +kernel
theorem dL_law_554 : decode cL_law 554 = .ok (.iload_n 3, 1) := by decide +kernel
theorem dL_law_555 : decode cL_law 555 = .ok (.iconst 1, 1) := by decide +kernel
theorem dL_law_556 : decode cL_law 556 = .ok (.iadd, 1) := by decide +kernel
theorem dL_law_557 : decode cL_law 557 = .ok (.iaload, 1) := by decide +kernel
theorem dL_law_558 : decode cL_law 558 = .ok (.ifCond .eq 7, 3) := by decide +kernel
theorem dL_law_561 : decode cL_law 561 = .ok (.iconst 1, 1) := by decide +kernel
theorem dL_law_562 : decode cL_law 562 = .ok (.goto 4, 3) := by decide +kernel
theorem dL_law_565 : decode cL_law 565 = .ok (.iconst 0, 1) := by decide +kernel
theorem dL_law_566 : decode cL_law 566 = .ok (.invokevirtual 79, 3) := by decide +kernel
theorem dL_law_569 : decode cL_law 569 = .ok (.aload_n 2, 1) := by decide +kernel
theorem dL_law_570 : decode cL_law 570 = .ok (.aload_n 0, 1) := by decide +kernel
theorem dL_law_571 : decode cL_law 571 = .ok (.iload_n 3, 1) := by decide +kernel
theorem dL_law_572 : decode cL_law 572 = .ok (.iconst 1, 1) := by decide +kernel
theorem dL_law_573 : decode cL_law 573 = .ok (.iadd, 1) := by decide +kernel
theorem dL_law_574 : decode cL_law 574 = .ok (.iaload, 1) := by decide +kernel
theorem dL_law_575 : decode cL_law 575 = .ok (.ifCond .eq 7, 3) := by decide +kernel
theorem dL_law_578 : decode cL_law 578 = .ok (.iconst 1, 1) := by decide +kernel
theorem dL_law_579 : decode cL_law 579 = .ok (.goto 4, 3) := by decide +kernel
theorem dL_law_582 : decode cL_law 582 = .ok (.iconst 0, 1) := by decide +kernel
theorem dL_law_583 : decode cL_law 583 = .ok (.invokevirtual 83, 3) := by decide +kernel
theorem dL_law_586 : decode cL_law 586 = .ok (.if_icmp .eq 208, 3) := by decide +kernel
theorem dL_law_589 : decode cL_law 589 = .ok (.iconst 0, 1) := by decide +kernel
theorem dL_law_590 : decode cL_law 590 = .ok (.ireturn, 1) := by decide +kernel
theorem dL_law_591 : decode cL_law 591 = .ok (.aload_n 1, 1) := by decide +kernel
theorem dL_law_592 : decode cL_law 592 = .ok (.invokevirtual 84, 3) := by decide +kernel
theorem dL_law_595 : decode cL_law 595 = .ok (.aload_n 2, 1) := by decide +kernel
theorem dL_law_596 : decode cL_law 596 = .ok (.invokevirtual 87, 3) := by decide +kernel
theorem dL_law_599 : decode cL_law 599 = .ok (.if_icmp .eq 195, 3) := by decide +kernel
theorem dL_law_602 : decode cL_law 602 = .ok (.iconst 0, 1) := by decide +kernel
theorem dL_law_603 : decode cL_law 603 = .ok (.ireturn, 1) := by decide +kernel
theorem dL_law_604 : decode cL_law 604 = .ok (.aload_n 1, 1) := by decide +kernel
theorem dL_law_605 : decode cL_law 605 = .ok (.aload_n 0, 1) := by decide +kernel
theorem dL_law_606 : decode cL_law 606 = .ok (.iload_n 3, 1) := by decide +kernel
theorem dL_law_607 : decode cL_law 607 = .ok (.iconst 1, 1) := by decide +kernel
theorem dL_law_608 : decode cL_law 608 = .ok (.iadd, 1) := by decide +kernel
theorem dL_law_609 : decode cL_law 609 = .ok (.iaload, 1) := by decide +kernel
theorem dL_law_610 : decode cL_law 610 = .ok (.invokevirtual 88, 3) := by decide +kernel
theorem dL_law_613 : decode cL_law 613 = .ok (.aload_n 2, 1) := by decide +kernel
theorem dL_law_614 : decode cL_law 614 = .ok (.aload_n 0, 1) := by decide +kernel
theorem dL_law_615 : decode cL_law 615 = .ok (.iload_n 3, 1) := by decide +kernel
theorem dL_law_616 : decode cL_law 616 = .ok (.iconst 1, 1) := by decide +kernel
theorem dL_law_617 : decode cL_law 617 = .ok (.iadd, 1) := by decide +kernel
theorem dL_law_618 : decode cL_law 618 = .ok (.iaload, 1) := by decide +kernel
theorem dL_law_619 : decode cL_law 619 = .ok (.invokevirtual 91, 3) := by decide +kernel
theorem dL_law_622 : decode cL_law 622 = .ok (.if_icmp .eq 172, 3) := by decide +kernel
theorem dL_law_625 : decode cL_law 625 = .ok (.iconst 0, 1) := by decide +kernel
theorem dL_law_626 : decode cL_law 626 = .ok (.ireturn, 1) := by decide +kernel
theorem dL_law_627 : decode cL_law 627 = .ok (.aload_n 1, 1) := by decide +kernel
theorem dL_law_628 : decode cL_law 628 = .ok (.aload_n 0, 1) := by decide +kernel
theorem dL_law_629 : decode cL_law 629 = .ok (.iload_n 3, 1) := by decide +kernel
theorem dL_law_630 : decode cL_law 630 = .ok (.iconst 1, 1) := by decide +kernel
theorem dL_law_631 : decode cL_law 631 = .ok (.iadd, 1) := by decide +kernel
theorem dL_law_632 : decode cL_law 632 = .ok (.iaload, 1) := by decide +kernel
theorem dL_law_633 : decode cL_law 633 = .ok (.aload_n 0, 1) := by decide +kernel
theorem dL_law_634 : decode cL_law 634 = .ok (.iload_n 3, 1) := by decide +kernel
theorem dL_law_635 : decode cL_law 635 = .ok (.iconst 2, 1) := by decide +kernel
theorem dL_law_636 : decode cL_law 636 = .ok (.iadd, 1) := by decide +kernel
theorem dL_law_637 : decode cL_law 637 = .ok (.iaload, 1) := by decide +kernel
theorem dL_law_638 : decode cL_law 638 = .ok (.invokevirtual 92, 3) := by decide +kernel
theorem dL_law_641 : decode cL_law 641 = .ok (.aload_n 2, 1) := by decide +kernel
theorem dL_law_642 : decode cL_law 642 = .ok (.aload_n 0, 1) := by decide +kernel
theorem dL_law_643 : decode cL_law 643 = .ok (.iload_n 3, 1) := by decide +kernel
theorem dL_law_644 : decode cL_law 644 = .ok (.iconst 1, 1) := by decide +kernel
theorem dL_law_645 : decode cL_law 645 = .ok (.iadd, 1) := by decide +kernel
theorem dL_law_646 : decode cL_law 646 = .ok (.iaload, 1) := by decide +kernel
theorem dL_law_647 : decode cL_law 647 = .ok (.aload_n 0, 1) := by decide +kernel
theorem dL_law_648 : decode cL_law 648 = .ok (.iload_n 3, 1) := by decide +kernel
theorem dL_law_649 : decode cL_law 649 = .ok (.iconst 2, 1) := by decide +kernel
theorem dL_law_650 : decode cL_law 650 = .ok (.iadd, 1) := by decide +kernel
theorem dL_law_651 : decode cL_law 651 = .ok (.iaload, 1) := by decide +kernel
theorem dL_law_652 : decode cL_law 652 = .ok (.invokevirtual 95, 3) := by decide +kernel
theorem dL_law_655 : decode cL_law 655 = .ok (.if_icmp .eq 139, 3) := by decide +kernel
theorem dL_law_658 : decode cL_law 658 = .ok (.iconst 0, 1) := by decide +kernel
theorem dL_law_659 : decode cL_law 659 = .ok (.ireturn, 1) := by decide +kernel
theorem dL_law_660 : decode cL_law 660 = .ok (.aload_n 1, 1) := by decide +kernel
theorem dL_law_661 : decode cL_law 661 = .ok (.invokevirtual 96, 3) := by decide +kernel
theorem dL_law_664 : decode cL_law 664 = .ok (.aload_n 2, 1) := by decide +kernel
theorem dL_law_665 : decode cL_law 665 = .ok (.invokevirtual 99, 3) := by decide +kernel
theorem dL_law_668 : decode cL_law 668 = .ok (.if_icmp .eq 126, 3) := by decide +kernel
theorem dL_law_671 : decode cL_law 671 = .ok (.iconst 0, 1) := by decide +kernel
theorem dL_law_672 : decode cL_law 672 = .ok (.ireturn, 1) := by decide +kernel
theorem dL_law_673 : decode cL_law 673 = .ok (.aload_n 1, 1) := by decide +kernel
theorem dL_law_674 : decode cL_law 674 = .ok (.aload_n 0, 1) := by decide +kernel
theorem dL_law_675 : decode cL_law 675 = .ok (.iload_n 3, 1) := by decide +kernel
theorem dL_law_676 : decode cL_law 676 = .ok (.iconst 1, 1) := by decide +kernel
theorem dL_law_677 : decode cL_law 677 = .ok (.iadd, 1) := by decide +kernel
theorem dL_law_678 : decode cL_law 678 = .ok (.iaload, 1) := by decide +kernel
theorem dL_law_679 : decode cL_law 679 = .ok (.invokevirtual 100, 3) := by decide +kernel
theorem dL_law_682 : decode cL_law 682 = .ok (.aload_n 2, 1) := by decide +kernel
theorem dL_law_683 : decode cL_law 683 = .ok (.aload_n 0, 1) := by decide +kernel
theorem dL_law_684 : decode cL_law 684 = .ok (.iload_n 3, 1) := by decide +kernel
theorem dL_law_685 : decode cL_law 685 = .ok (.iconst 1, 1) := by decide +kernel
theorem dL_law_686 : decode cL_law 686 = .ok (.iadd, 1) := by decide +kernel
theorem dL_law_687 : decode cL_law 687 = .ok (.iaload, 1) := by decide +kernel
theorem dL_law_688 : decode cL_law 688 = .ok (.invokevirtual 103, 3) := by decide +kernel
theorem dL_law_691 : decode cL_law 691 = .ok (.if_icmp .eq 103, 3) := by decide +kernel
theorem dL_law_694 : decode cL_law 694 = .ok (.iconst 0, 1) := by decide +kernel
theorem dL_law_695 : decode cL_law 695 = .ok (.ireturn, 1) := by decide +kernel
theorem dL_law_696 : decode cL_law 696 = .ok (.aload_n 1, 1) := by decide +kernel
theorem dL_law_697 : decode cL_law 697 = .ok (.invokevirtual 104, 3) := by decide +kernel
theorem dL_law_700 : decode cL_law 700 = .ok (.aload_n 2, 1) := by decide +kernel
theorem dL_law_701 : decode cL_law 701 = .ok (.invokevirtual 107, 3) := by decide +kernel
theorem dL_law_704 : decode cL_law 704 = .ok (.if_icmp .eq 90, 3) := by decide +kernel
theorem dL_law_707 : decode cL_law 707 = .ok (.iconst 0, 1) := by decide +kernel
theorem dL_law_708 : decode cL_law 708 = .ok (.ireturn, 1) := by decide +kernel
theorem dL_law_709 : decode cL_law 709 = .ok (.aload_n 1, 1) := by decide +kernel
theorem dL_law_710 : decode cL_law 710 = .ok (.invokevirtual 108, 3) := by decide +kernel
theorem dL_law_713 : decode cL_law 713 = .ok (.aload_n 2, 1) := by decide +kernel
theorem dL_law_714 : decode cL_law 714 = .ok (.invokevirtual 111, 3) := by decide +kernel
theorem dL_law_717 : decode cL_law 717 = .ok (.if_icmp .eq 77, 3) := by decide +kernel
theorem dL_law_720 : decode cL_law 720 = .ok (.iconst 0, 1) := by decide +kernel
theorem dL_law_721 : decode cL_law 721 = .ok (.ireturn, 1) := by decide +kernel
theorem dL_law_722 : decode cL_law 722 = .ok (.aload_n 1, 1) := by decide +kernel
theorem dL_law_723 : decode cL_law 723 = .ok (.invokevirtual 112, 3) := by decide +kernel
theorem dL_law_726 : decode cL_law 726 = .ok (.aload_n 2, 1) := by decide +kernel
theorem dL_law_727 : decode cL_law 727 = .ok (.invokevirtual 115, 3) := by decide +kernel
theorem dL_law_730 : decode cL_law 730 = .ok (.if_icmp .eq 64, 3) := by decide +kernel
theorem dL_law_733 : decode cL_law 733 = .ok (.iconst 0, 1) := by decide +kernel
theorem dL_law_734 : decode cL_law 734 = .ok (.ireturn, 1) := by decide +kernel
theorem dL_law_735 : decode cL_law 735 = .ok (.aload_n 1, 1) := by decide +kernel
theorem dL_law_736 : decode cL_law 736 = .ok (.aload_n 0, 1) := by decide +kernel
theorem dL_law_737 : decode cL_law 737 = .ok (.iload_n 3, 1) := by decide +kernel
theorem dL_law_738 : decode cL_law 738 = .ok (.iconst 1, 1) := by decide +kernel
theorem dL_law_739 : decode cL_law 739 = .ok (.iadd, 1) := by decide +kernel
theorem dL_law_740 : decode cL_law 740 = .ok (.iaload, 1) := by decide +kernel
theorem dL_law_741 : decode cL_law 741 = .ok (.invokevirtual 116, 3) := by decide +kernel
theorem dL_law_744 : decode cL_law 744 = .ok (.aload_n 2, 1) := by decide +kernel
theorem dL_law_745 : decode cL_law 745 = .ok (.aload_n 0, 1) := by decide +kernel
theorem dL_law_746 : decode cL_law 746 = .ok (.iload_n 3, 1) := by decide +kernel
theorem dL_law_747 : decode cL_law 747 = .ok (.iconst 1, 1) := by decide +kernel
theorem dL_law_748 : decode cL_law 748 = .ok (.iadd, 1) := by decide +kernel
theorem dL_law_749 : decode cL_law 749 = .ok (.iaload, 1) := by decide +kernel
theorem dL_law_750 : decode cL_law 750 = .ok (.invokevirtual 119, 3) := by decide +kernel
theorem dL_law_753 : decode cL_law 753 = .ok (.if_icmp .eq 41, 3) := by decide +kernel
theorem dL_law_756 : decode cL_law 756 = .ok (.iconst 0, 1) := by decide +kernel
theorem dL_law_757 : decode cL_law 757 = .ok (.ireturn, 1) := by decide +kernel
theorem dL_law_758 : decode cL_law 758 = .ok (.aload_n 1, 1) := by decide +kernel
theorem dL_law_759 : decode cL_law 759 = .ok (.invokevirtual 120, 3) := by decide +kernel
theorem dL_law_762 : decode cL_law 762 = .ok (.aload_n 2, 1) := by decide +kernel
theorem dL_law_763 : decode cL_law 763 = .ok (.invokevirtual 123, 3) := by decide +kernel
theorem dL_law_766 : decode cL_law 766 = .ok (.if_icmp .eq 28, 3) := by decide +kernel
theorem dL_law_769 : decode cL_law 769 = .ok (.iconst 0, 1) := by decide +kernel
theorem dL_law_770 : decode cL_law 770 = .ok (.ireturn, 1) := by decide +kernel
theorem dL_law_771 : decode cL_law 771 = .ok (.aload_n 1, 1) := by decide +kernel
theorem dL_law_772 : decode cL_law 772 = .ok (.aload_n 0, 1) := by decide +kernel
theorem dL_law_773 : decode cL_law 773 = .ok (.iload_n 3, 1) := by decide +kernel
theorem dL_law_774 : decode cL_law 774 = .ok (.iconst 1, 1) := by decide +kernel
theorem dL_law_775 : decode cL_law 775 = .ok (.iadd, 1) := by decide +kernel
theorem dL_law_776 : decode cL_law 776 = .ok (.iaload, 1) := by decide +kernel
theorem dL_law_777 : decode cL_law 777 = .ok (.invokevirtual 124, 3) := by decide +kernel
theorem dL_law_780 : decode cL_law 780 = .ok (.aload_n 2, 1) := by decide +kernel
theorem dL_law_781 : decode cL_law 781 = .ok (.aload_n 0, 1) := by decide +kernel
theorem dL_law_782 : decode cL_law 782 = .ok (.iload_n 3, 1) := by decide +kernel
theorem dL_law_783 : decode cL_law 783 = .ok (.iconst 1, 1) := by decide +kernel
theorem dL_law_784 : decode cL_law 784 = .ok (.iadd, 1) := by decide +kernel
theorem dL_law_785 : decode cL_law 785 = .ok (.iaload, 1) := by decide +kernel
theorem dL_law_786 : decode cL_law 786 = .ok (.invokevirtual 127, 3) := by decide +kernel
theorem dL_law_789 : decode cL_law 789 = .ok (.if_icmp .eq 5, 3) := by decide +kernel
theorem dL_law_792 : decode cL_law 792 = .ok (.iconst 0, 1) := by decide +kernel
theorem dL_law_793 : decode cL_law 793 = .ok (.ireturn, 1) := by decide +kernel
theorem dL_law_794 : decode cL_law 794 = .ok (.iinc 3 6, 3) := by decide +kernel
theorem dL_law_797 : decode cL_law 797 = .ok (.goto (-779), 3) := by decide +kernel
theorem dL_law_800 : decode cL_law 800 = .ok (.iconst 1, 1) := by decide +kernel
theorem dL_law_801 : decode cL_law 801 = .ok (.ireturn, 1) := by decide +kernel
