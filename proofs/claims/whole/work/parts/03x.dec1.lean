theorem dX0_init_0 : decode cX0_init 0 = .ok (.aload_n 0, 1) := by decide +kernel
theorem dX0_init_1 : decode cX0_init 1 = .ok (.invokespecial 3, 3) := by decide +kernel
theorem dX0_init_4 : decode cX0_init 4 = .ok (.aload_n 0, 1) := by decide +kernel
theorem dX0_init_5 : decode cX0_init 5 = .ok (.iload_n 1, 1) := by decide +kernel
theorem dX0_init_6 : decode cX0_init 6 = .ok (.iconst 0, 1) := by decide +kernel
theorem dX0_init_7 : decode cX0_init 7 = .ok (.invokestatic 9, 3) := by decide +kernel
theorem dX0_init_10 : decode cX0_init 10 = .ok (.newarray .int, 2) := by decide +kernel
theorem dX0_init_12 : decode cX0_init 12 = .ok (.putfield 15, 3) := by decide +kernel
theorem dX0_init_15 : decode cX0_init 15 = .ok (.aload_n 0, 1) := by decide +kernel
theorem dX0_init_16 : decode cX0_init 16 = .ok (.iconst 0, 1) := by decide +kernel
theorem dX0_init_17 : decode cX0_init 17 = .ok (.putfield 21, 3) := by decide +kernel
theorem dX0_init_20 : decode cX0_init 20 = .ok (.return_, 1) := by decide +kernel
theorem dX0_room_0 : decode cX0_room 0 = .ok (.aload_n 0, 1) := by decide +kernel
theorem dX0_room_1 : decode cX0_room 1 = .ok (.getfield 15, 3) := by decide +kernel
theorem dX0_room_4 : decode cX0_room 4 = .ok (.arraylength, 1) := by decide +kernel
theorem dX0_room_5 : decode cX0_room 5 = .ok (.aload_n 0, 1) := by decide +kernel
theorem dX0_room_6 : decode cX0_room 6 = .ok (.getfield 21, 3) := by decide +kernel
theorem dX0_room_9 : decode cX0_room 9 = .ok (.isub, 1) := by decide +kernel
theorem dX0_room_10 : decode cX0_room 10 = .ok (.ireturn, 1) := by decide +kernel
theorem dX0_at_0 : decode cX0_at 0 = .ok (.iload_n 1, 1) := by decide +kernel
theorem dX0_at_1 : decode cX0_at 1 = .ok (.ifCond .lt 29, 3) := by decide +kernel
theorem dX0_at_4 : decode cX0_at 4 = .ok (.iload_n 1, 1) := by decide +kernel
theorem dX0_at_5 : decode cX0_at 5 = .ok (.aload_n 0, 1) := by decide +kernel
theorem dX0_at_6 : decode cX0_at 6 = .ok (.getfield 21, 3) := by decide +kernel
theorem dX0_at_9 : decode cX0_at 9 = .ok (.if_icmp .ge 21, 3) := by decide +kernel
theorem dX0_at_12 : decode cX0_at 12 = .ok (.iload_n 1, 1) := by decide +kernel
theorem dX0_at_13 : decode cX0_at 13 = .ok (.aload_n 0, 1) := by decide +kernel
theorem dX0_at_14 : decode cX0_at 14 = .ok (.getfield 15, 3) := by decide +kernel
theorem dX0_at_17 : decode cX0_at 17 = .ok (.arraylength, 1) := by decide +kernel
theorem dX0_at_18 : decode cX0_at 18 = .ok (.if_icmp .ge 12, 3) := by decide +kernel
theorem dX0_at_21 : decode cX0_at 21 = .ok (.aload_n 0, 1) := by decide +kernel
theorem dX0_at_22 : decode cX0_at 22 = .ok (.getfield 15, 3) := by decide +kernel
theorem dX0_at_25 : decode cX0_at 25 = .ok (.iload_n 1, 1) := by decide +kernel
theorem dX0_at_26 : decode cX0_at 26 = .ok (.iaload, 1) := by decide +kernel
theorem dX0_at_27 : decode cX0_at 27 = .ok (.goto 4, 3) := by decide +kernel
theorem dX0_at_30 : decode cX0_at 30 = .ok (.iconst 0, 1) := by decide +kernel
theorem dX0_at_31 : decode cX0_at 31 = .ok (.ireturn, 1) := by decide +kernel
theorem dX0_number_0 : decode cX0_number 0 = .ok (.iconst 0, 1) := by decide +kernel
theorem dX0_number_1 : decode cX0_number 1 = .ok (.istore_n 3, 1) := by decide +kernel
theorem dX0_number_2 : decode cX0_number 2 = .ok (.iconst 0, 1) := by decide +kernel
theorem dX0_number_3 : decode cX0_number 3 = .ok (.istore 4, 2) := by decide +kernel
theorem dX0_number_5 : decode cX0_number 5 = .ok (.iload 4, 2) := by decide +kernel
theorem dX0_number_7 : decode cX0_number 7 = .ok (.iload_n 2, 1) := by decide +kernel
theorem dX0_number_8 : decode cX0_number 8 = .ok (.if_icmp .ge 23, 3) := by decide +kernel
theorem dX0_number_11 : decode cX0_number 11 = .ok (.iload_n 3, 1) := by decide +kernel
theorem dX0_number_12 : decode cX0_number 12 = .ok (.bipush 8, 2) := by decide +kernel
theorem dX0_number_14 : decode cX0_number 14 = .ok (.ishl, 1) := by decide +kernel
theorem dX0_number_15 : decode cX0_number 15 = .ok (.aload_n 0, 1) := by decide +kernel
theorem dX0_number_16 : decode cX0_number 16 = .ok (.iload_n 1, 1) := by decide +kernel
theorem dX0_number_17 : decode cX0_number 17 = .ok (.iload 4, 2) := by decide +kernel
theorem dX0_number_19 : decode cX0_number 19 = .ok (.iadd, 1) := by decide +kernel
theorem dX0_number_20 : decode cX0_number 20 = .ok (.invokevirtual 25, 3) := by decide +kernel
theorem dX0_number_23 : decode cX0_number 23 = .ok (.ior, 1) := by decide +kernel
theorem dX0_number_24 : decode cX0_number 24 = .ok (.istore_n 3, 1) := by decide +kernel
theorem dX0_number_25 : decode cX0_number 25 = .ok (.iinc 4 1, 3) := by decide +kernel
theorem dX0_number_28 : decode cX0_number 28 = .ok (.goto (-23), 3) := by decide +kernel
theorem dX0_number_31 : decode cX0_number 31 = .ok (.iload_n 3, 1) := by decide +kernel
theorem dX0_number_32 : decode cX0_number 32 = .ok (.ireturn, 1) := by decide +kernel
theorem dX0_add_0 : decode cX0_add 0 = .ok (.aload_n 0, 1) := by decide +kernel
theorem dX0_add_1 : decode cX0_add 1 = .ok (.getfield 21, 3) := by decide +kernel
theorem dX0_add_4 : decode cX0_add 4 = .ok (.ifCond .lt 39, 3) := by decide +kernel
theorem dX0_add_7 : decode cX0_add 7 = .ok (.aload_n 0, 1) := by decide +kernel
theorem dX0_add_8 : decode cX0_add 8 = .ok (.getfield 21, 3) := by decide +kernel
theorem dX0_add_11 : decode cX0_add 11 = .ok (.aload_n 0, 1) := by decide +kernel
theorem dX0_add_12 : decode cX0_add 12 = .ok (.getfield 15, 3) := by decide +kernel
theorem dX0_add_15 : decode cX0_add 15 = .ok (.arraylength, 1) := by decide +kernel
theorem dX0_add_16 : decode cX0_add 16 = .ok (.if_icmp .ge 27, 3) := by decide +kernel
theorem dX0_add_19 : decode cX0_add 19 = .ok (.aload_n 0, 1) := by decide +kernel
theorem dX0_add_20 : decode cX0_add 20 = .ok (.getfield 15, 3) := by decide +kernel
theorem dX0_add_23 : decode cX0_add 23 = .ok (.aload_n 0, 1) := by decide +kernel
theorem dX0_add_24 : decode cX0_add 24 = .ok (.getfield 21, 3) := by decide +kernel
theorem dX0_add_27 : decode cX0_add 27 = .ok (.iload_n 1, 1) := by decide +kernel
theorem dX0_add_28 : decode cX0_add 28 = .ok (.sipush 255, 3) := by decide +kernel
theorem dX0_add_31 : decode cX0_add 31 = .ok (.iand, 1) := by decide +kernel
theorem dX0_add_32 : decode cX0_add 32 = .ok (.iastore, 1) := by decide +kernel
theorem dX0_add_33 : decode cX0_add 33 = .ok (.aload_n 0, 1) := by decide +kernel
theorem dX0_add_34 : decode cX0_add 34 = .ok (.dup, 1) := by decide +kernel
theorem dX0_add_35 : decode cX0_add 35 = .ok (.getfield 21, 3) := by decide +kernel
theorem dX0_add_38 : decode cX0_add 38 = .ok (.iconst 1, 1) := by decide +kernel
theorem dX0_add_39 : decode cX0_add 39 = .ok (.iadd, 1) := by decide +kernel
theorem dX0_add_40 : decode cX0_add 40 = .ok (.putfield 21, 3) := by decide +kernel
theorem dX0_add_43 : decode cX0_add 43 = .ok (.return_, 1) := by decide +kernel
theorem dX0_addNumber_0 : decode cX0_addNumber 0 = .ok (.iload_n 2, 1) := by decide +kernel
theorem dX0_addNumber_1 : decode cX0_addNumber 1 = .ok (.iconst 1, 1) := by decide +kernel
theorem dX0_addNumber_2 : decode cX0_addNumber 2 = .ok (.isub, 1) := by decide +kernel
theorem dX0_addNumber_3 : decode cX0_addNumber 3 = .ok (.istore_n 3, 1) := by decide +kernel
theorem dX0_addNumber_4 : decode cX0_addNumber 4 = .ok (.iload_n 3, 1) := by decide +kernel
theorem dX0_addNumber_5 : decode cX0_addNumber 5 = .ok (.ifCond .lt 19, 3) := by decide +kernel
theorem dX0_addNumber_8 : decode cX0_addNumber 8 = .ok (.aload_n 0, 1) := by decide +kernel
theorem dX0_addNumber_9 : decode cX0_addNumber 9 = .ok (.iload_n 1, 1) := by decide +kernel
theorem dX0_addNumber_10 : decode cX0_addNumber 10 = .ok (.bipush 8, 2) := by decide +kernel
theorem dX0_addNumber_12 : decode cX0_addNumber 12 = .ok (.iload_n 3, 1) := by decide +kernel
theorem dX0_addNumber_13 : decode cX0_addNumber 13 = .ok (.imul, 1) := by decide +kernel
theorem dX0_addNumber_14 : decode cX0_addNumber 14 = .ok (.iushr, 1) := by decide +kernel
theorem dX0_addNumber_15 : decode cX0_addNumber 15 = .ok (.invokevirtual 29, 3) := by decide +kernel
theorem dX0_addNumber_18 : decode cX0_addNumber 18 = .ok (.iinc 3 (-1), 3) := by decide +kernel
theorem dX0_addNumber_21 : decode cX0_addNumber 21 = .ok (.goto (-17), 3) := by decide +kernel
theorem dX0_addNumber_24 : decode cX0_addNumber 24 = .ok (.return_, 1) := by decide +kernel
theorem dX0_addPart_0 : decode cX0_addPart 0 = .ok (.iload_n 2, 1) := by decide +kernel
theorem dX0_addPart_1 : decode cX0_addPart 1 = .ok (.ifCond .lt 52, 3) := by decide +kernel
theorem dX0_addPart_4 : decode cX0_addPart 4 = .ok (.iload_n 3, 1) := by decide +kernel
theorem dX0_addPart_5 : decode cX0_addPart 5 = .ok (.ifCond .lt 48, 3) := by decide +kernel
theorem dX0_addPart_8 : decode cX0_addPart 8 = .ok (.iload_n 3, 1) := by decide +kernel
theorem dX0_addPart_9 : decode cX0_addPart 9 = .ok (.aload_n 1, 1) := by decide +kernel
theorem dX0_addPart_10 : decode cX0_addPart 10 = .ok (.getfield 21, 3) := by decide +kernel
theorem dX0_addPart_13 : decode cX0_addPart 13 = .ok (.iload_n 2, 1) := by decide +kernel
theorem dX0_addPart_14 : decode cX0_addPart 14 = .ok (.isub, 1) := by decide +kernel
theorem dX0_addPart_15 : decode cX0_addPart 15 = .ok (.if_icmp .gt 38, 3) := by decide +kernel
theorem dX0_addPart_18 : decode cX0_addPart 18 = .ok (.iload_n 3, 1) := by decide +kernel
theorem dX0_addPart_19 : decode cX0_addPart 19 = .ok (.aload_n 0, 1) := by decide +kernel
theorem dX0_addPart_20 : decode cX0_addPart 20 = .ok (.invokevirtual 33, 3) := by decide +kernel
theorem dX0_addPart_23 : decode cX0_addPart 23 = .ok (.if_icmp .gt 30, 3) := by decide +kernel
theorem dX0_addPart_26 : decode cX0_addPart 26 = .ok (.aload_n 1, 1) := by decide +kernel
theorem dX0_addPart_27 : decode cX0_addPart 27 = .ok (.getfield 15, 3) := by decide +kernel
theorem dX0_addPart_30 : decode cX0_addPart 30 = .ok (.iload_n 2, 1) := by decide +kernel
theorem dX0_addPart_31 : decode cX0_addPart 31 = .ok (.aload_n 0, 1) := by decide +kernel
theorem dX0_addPart_32 : decode cX0_addPart 32 = .ok (.getfield 15, 3) := by decide +kernel
theorem dX0_addPart_35 : decode cX0_addPart 35 = .ok (.aload_n 0, 1) := by decide +kernel
theorem dX0_addPart_36 : decode cX0_addPart 36 = .ok (.getfield 21, 3) := by decide +kernel
theorem dX0_addPart_39 : decode cX0_addPart 39 = .ok (.iload_n 3, 1) := by decide +kernel
theorem dX0_addPart_40 : decode cX0_addPart 40 = .ok (.invokestatic 37, 3) := by decide +kernel
theorem dX0_addPart_43 : decode cX0_addPart 43 = .ok (.aload_n 0, 1) := by decide +kernel
theorem dX0_addPart_44 : decode cX0_addPart 44 = .ok (.dup, 1) := by decide +kernel
theorem dX0_addPart_45 : decode cX0_addPart 45 = .ok (.getfield 21, 3) := by decide +kernel
theorem dX0_addPart_48 : decode cX0_addPart 48 = .ok (.iload_n 3, 1) := by decide +kernel
theorem dX0_addPart_49 : decode cX0_addPart 49 = .ok (.iadd, 1) := by decide +kernel
theorem dX0_addPart_50 : decode cX0_addPart 50 = .ok (.putfield 21, 3) := by decide +kernel
theorem dX0_addPart_53 : decode cX0_addPart 53 = .ok (.return_, 1) := by decide +kernel
theorem dX0_setNumber_0 : decode cX0_setNumber 0 = .ok (.iload_n 1, 1) := by decide +kernel
theorem dX0_setNumber_1 : decode cX0_setNumber 1 = .ok (.ifCond .lt 47, 3) := by decide +kernel
theorem dX0_setNumber_4 : decode cX0_setNumber 4 = .ok (.iload_n 1, 1) := by decide +kernel
theorem dX0_setNumber_5 : decode cX0_setNumber 5 = .ok (.aload_n 0, 1) := by decide +kernel
theorem dX0_setNumber_6 : decode cX0_setNumber 6 = .ok (.getfield 21, 3) := by decide +kernel
theorem dX0_setNumber_9 : decode cX0_setNumber 9 = .ok (.iconst 4, 1) := by decide +kernel
theorem dX0_setNumber_10 : decode cX0_setNumber 10 = .ok (.isub, 1) := by decide +kernel
theorem dX0_setNumber_11 : decode cX0_setNumber 11 = .ok (.if_icmp .gt 37, 3) := by decide +kernel
theorem dX0_setNumber_14 : decode cX0_setNumber 14 = .ok (.iconst 0, 1) := by decide +kernel
theorem dX0_setNumber_15 : decode cX0_setNumber 15 = .ok (.istore_n 3, 1) := by decide +kernel
theorem dX0_setNumber_16 : decode cX0_setNumber 16 = .ok (.iload_n 3, 1) := by decide +kernel
theorem dX0_setNumber_17 : decode cX0_setNumber 17 = .ok (.iconst 4, 1) := by decide +kernel
theorem dX0_setNumber_18 : decode cX0_setNumber 18 = .ok (.if_icmp .ge 30, 3) := by decide +kernel
theorem dX0_setNumber_21 : decode cX0_setNumber 21 = .ok (.aload_n 0, 1) := by decide +kernel
theorem dX0_setNumber_22 : decode cX0_setNumber 22 = .ok (.getfield 15, 3) := by decide +kernel
theorem dX0_setNumber_25 : decode cX0_setNumber 25 = .ok (.iload_n 1, 1) := by decide +kernel
theorem dX0_setNumber_26 : decode cX0_setNumber 26 = .ok (.iload_n 3, 1) := by decide +kernel
theorem dX0_setNumber_27 : decode cX0_setNumber 27 = .ok (.iadd, 1) := by decide +kernel
theorem dX0_setNumber_28 : decode cX0_setNumber 28 = .ok (.iload_n 2, 1) := by decide +kernel
theorem dX0_setNumber_29 : decode cX0_setNumber 29 = .ok (.bipush 24, 2) := by decide +kernel
theorem dX0_setNumber_31 : decode cX0_setNumber 31 = .ok (.bipush 8, 2) := by decide +kernel
theorem dX0_setNumber_33 : decode cX0_setNumber 33 = .ok (.iload_n 3, 1) := by decide +kernel
theorem dX0_setNumber_34 : decode cX0_setNumber 34 = .ok (.imul, 1) := by decide +kernel
theorem dX0_setNumber_35 : decode cX0_setNumber 35 = .ok (.isub, 1) := by decide +kernel
theorem dX0_setNumber_36 : decode cX0_setNumber 36 = .ok (.iushr, 1) := by decide +kernel
theorem dX0_setNumber_37 : decode cX0_setNumber 37 = .ok (.sipush 255, 3) := by decide +kernel
theorem dX0_setNumber_40 : decode cX0_setNumber 40 = .ok (.iand, 1) := by decide +kernel
theorem dX0_setNumber_41 : decode cX0_setNumber 41 = .ok (.iastore, 1) := by decide +kernel
theorem dX0_setNumber_42 : decode cX0_setNumber 42 = .ok (.iinc 3 1, 3) := by decide +kernel
theorem dX0_setNumber_45 : decode cX0_setNumber 45 = .ok (.goto (-29), 3) := by decide +kernel
theorem dX0_setNumber_48 : decode cX0_setNumber 48 = .ok (.return_, 1) := by decide +kernel
theorem dX0_copyOf_0 : decode cX0_copyOf 0 = .ok (.aload_n 0, 1) := by decide +kernel
theorem dX0_copyOf_1 : decode cX0_copyOf 1 = .ok (.invokevirtual 43, 3) := by decide +kernel
theorem dX0_copyOf_4 : decode cX0_copyOf 4 = .ok (.aload_n 0, 1) := by decide +kernel
theorem dX0_copyOf_5 : decode cX0_copyOf 5 = .ok (.aload_n 1, 1) := by decide +kernel
theorem dX0_copyOf_6 : decode cX0_copyOf 6 = .ok (.iconst 0, 1) := by decide +kernel
theorem dX0_copyOf_7 : decode cX0_copyOf 7 = .ok (.aload_n 1, 1) := by decide +kernel
theorem dX0_copyOf_8 : decode cX0_copyOf 8 = .ok (.getfield 21, 3) := by decide +kernel
theorem dX0_copyOf_11 : decode cX0_copyOf 11 = .ok (.invokevirtual 46, 3) := by decide +kernel
theorem dX0_copyOf_14 : decode cX0_copyOf 14 = .ok (.return_, 1) := by decide +kernel
theorem dX0_keepFirst_0 : decode cX0_keepFirst 0 = .ok (.iload_n 1, 1) := by decide +kernel
theorem dX0_keepFirst_1 : decode cX0_keepFirst 1 = .ok (.ifCond .lt 16, 3) := by decide +kernel
theorem dX0_keepFirst_4 : decode cX0_keepFirst 4 = .ok (.iload_n 1, 1) := by decide +kernel
theorem dX0_keepFirst_5 : decode cX0_keepFirst 5 = .ok (.aload_n 0, 1) := by decide +kernel
theorem dX0_keepFirst_6 : decode cX0_keepFirst 6 = .ok (.getfield 21, 3) := by decide +kernel
theorem dX0_keepFirst_9 : decode cX0_keepFirst 9 = .ok (.if_icmp .ge 8, 3) := by decide +kernel
theorem dX0_keepFirst_12 : decode cX0_keepFirst 12 = .ok (.aload_n 0, 1) := by decide +kernel
theorem dX0_keepFirst_13 : decode cX0_keepFirst 13 = .ok (.iload_n 1, 1) := by decide +kernel
theorem dX0_keepFirst_14 : decode cX0_keepFirst 14 = .ok (.putfield 21, 3) := by decide +kernel
theorem dX0_keepFirst_17 : decode cX0_keepFirst 17 = .ok (.return_, 1) := by decide +kernel
theorem dX0_dropFirst_0 : decode cX0_dropFirst 0 = .ok (.iload_n 1, 1) := by decide +kernel
theorem dX0_dropFirst_1 : decode cX0_dropFirst 1 = .ok (.ifCond .lt 40, 3) := by decide +kernel
theorem dX0_dropFirst_4 : decode cX0_dropFirst 4 = .ok (.iload_n 1, 1) := by decide +kernel
theorem dX0_dropFirst_5 : decode cX0_dropFirst 5 = .ok (.aload_n 0, 1) := by decide +kernel
theorem dX0_dropFirst_6 : decode cX0_dropFirst 6 = .ok (.getfield 21, 3) := by decide +kernel
theorem dX0_dropFirst_9 : decode cX0_dropFirst 9 = .ok (.if_icmp .gt 32, 3) := by decide +kernel
theorem dX0_dropFirst_12 : decode cX0_dropFirst 12 = .ok (.aload_n 0, 1) := by decide +kernel
theorem dX0_dropFirst_13 : decode cX0_dropFirst 13 = .ok (.getfield 15, 3) := by decide +kernel
theorem dX0_dropFirst_16 : decode cX0_dropFirst 16 = .ok (.iload_n 1, 1) := by decide +kernel
theorem dX0_dropFirst_17 : decode cX0_dropFirst 17 = .ok (.aload_n 0, 1) := by decide +kernel
theorem dX0_dropFirst_18 : decode cX0_dropFirst 18 = .ok (.getfield 15, 3) := by decide +kernel
theorem dX0_dropFirst_21 : decode cX0_dropFirst 21 = .ok (.iconst 0, 1) := by decide +kernel
theorem dX0_dropFirst_22 : decode cX0_dropFirst 22 = .ok (.aload_n 0, 1) := by decide +kernel
theorem dX0_dropFirst_23 : decode cX0_dropFirst 23 = .ok (.getfield 21, 3) := by decide +kernel
theorem dX0_dropFirst_26 : decode cX0_dropFirst 26 = .ok (.iload_n 1, 1) := by decide +kernel
theorem dX0_dropFirst_27 : decode cX0_dropFirst 27 = .ok (.isub, 1) := by decide +kernel
theorem dX0_dropFirst_28 : decode cX0_dropFirst 28 = .ok (.invokestatic 37, 3) := by decide +kernel
theorem dX0_dropFirst_31 : decode cX0_dropFirst 31 = .ok (.aload_n 0, 1) := by decide +kernel
theorem dX0_dropFirst_32 : decode cX0_dropFirst 32 = .ok (.dup, 1) := by decide +kernel
theorem dX0_dropFirst_33 : decode cX0_dropFirst 33 = .ok (.getfield 21, 3) := by decide +kernel
theorem dX0_dropFirst_36 : decode cX0_dropFirst 36 = .ok (.iload_n 1, 1) := by decide +kernel
theorem dX0_dropFirst_37 : decode cX0_dropFirst 37 = .ok (.isub, 1) := by decide +kernel
theorem dX0_dropFirst_38 : decode cX0_dropFirst 38 = .ok (.putfield 21, 3) := by decide +kernel
theorem dX0_dropFirst_41 : decode cX0_dropFirst 41 = .ok (.return_, 1) := by decide +kernel
theorem dX0_clear_0 : decode cX0_clear 0 = .ok (.aload_n 0, 1) := by decide +kernel
theorem dX0_clear_1 : decode cX0_clear 1 = .ok (.iconst 0, 1) := by decide +kernel
theorem dX0_clear_2 : decode cX0_clear 2 = .ok (.putfield 21, 3) := by decide +kernel
theorem dX0_clear_5 : decode cX0_clear 5 = .ok (.return_, 1) := by decide +kernel
theorem dX1_init_0 : decode cX1_init 0 = .ok (.aload_n 0, 1) := by decide +kernel
theorem dX1_init_1 : decode cX1_init 1 = .ok (.invokespecial 3, 3) := by decide +kernel
theorem dX1_init_4 : decode cX1_init 4 = .ok (.aload_n 0, 1) := by decide +kernel
theorem dX1_init_5 : decode cX1_init 5 = .ok (.bipush 55, 2) := by decide +kernel
theorem dX1_init_7 : decode cX1_init 7 = .ok (.newarray .int, 2) := by decide +kernel
theorem dX1_init_9 : decode cX1_init 9 = .ok (.putfield 9, 3) := by decide +kernel
theorem dX1_init_12 : decode cX1_init 12 = .ok (.aload_n 0, 1) := by decide +kernel
theorem dX1_init_13 : decode cX1_init 13 = .ok (.iconst 0, 1) := by decide +kernel
theorem dX1_init_14 : decode cX1_init 14 = .ok (.putfield 15, 3) := by decide +kernel
theorem dX1_init_17 : decode cX1_init 17 = .ok (.aload_n 0, 1) := by decide +kernel
theorem dX1_init_18 : decode cX1_init 18 = .ok (.iconst 0, 1) := by decide +kernel
theorem dX1_init_19 : decode cX1_init 19 = .ok (.putfield 19, 3) := by decide +kernel
theorem dX1_init_22 : decode cX1_init 22 = .ok (.aload_n 0, 1) := by decide +kernel
theorem dX1_init_23 : decode cX1_init 23 = .ok (.iconst 0, 1) := by decide +kernel
theorem dX1_init_24 : decode cX1_init 24 = .ok (.putfield 22, 3) := by decide +kernel
theorem dX1_init_27 : decode cX1_init 27 = .ok (.aload_n 0, 1) := by decide +kernel
theorem dX1_init_28 : decode cX1_init 28 = .ok (.iconst 0, 1) := by decide +kernel
theorem dX1_init_29 : decode cX1_init 29 = .ok (.putfield 25, 3) := by decide +kernel
theorem dX1_init_32 : decode cX1_init 32 = .ok (.aload_n 0, 1) := by decide +kernel
theorem dX1_init_33 : decode cX1_init 33 = .ok (.iconst 0, 1) := by decide +kernel
theorem dX1_init_34 : decode cX1_init 34 = .ok (.putfield 28, 3) := by decide +kernel
theorem dX1_init_37 : decode cX1_init 37 = .ok (.return_, 1) := by decide +kernel
theorem dX1_begin_0 : decode cX1_begin 0 = .ok (.aload_n 0, 1) := by decide +kernel
theorem dX1_begin_1 : decode cX1_begin 1 = .ok (.iload_n 1, 1) := by decide +kernel
theorem dX1_begin_2 : decode cX1_begin 2 = .ok (.putfield 15, 3) := by decide +kernel
theorem dX1_begin_5 : decode cX1_begin 5 = .ok (.aload_n 0, 1) := by decide +kernel
theorem dX1_begin_6 : decode cX1_begin 6 = .ok (.iload_n 2, 1) := by decide +kernel
theorem dX1_begin_7 : decode cX1_begin 7 = .ok (.putfield 19, 3) := by decide +kernel
theorem dX1_begin_10 : decode cX1_begin 10 = .ok (.aload_n 0, 1) := by decide +kernel
theorem dX1_begin_11 : decode cX1_begin 11 = .ok (.iload_n 3, 1) := by decide +kernel
theorem dX1_begin_12 : decode cX1_begin 12 = .ok (.putfield 22, 3) := by decide +kernel
theorem dX1_begin_15 : decode cX1_begin 15 = .ok (.aload_n 0, 1) := by decide +kernel
theorem dX1_begin_16 : decode cX1_begin 16 = .ok (.iload 4, 2) := by decide +kernel
theorem dX1_begin_18 : decode cX1_begin 18 = .ok (.putfield 25, 3) := by decide +kernel
theorem dX1_begin_21 : decode cX1_begin 21 = .ok (.aload_n 0, 1) := by decide +kernel
theorem dX1_begin_22 : decode cX1_begin 22 = .ok (.iconst 0, 1) := by decide +kernel
theorem dX1_begin_23 : decode cX1_begin 23 = .ok (.putfield 28, 3) := by decide +kernel
theorem dX1_begin_26 : decode cX1_begin 26 = .ok (.iconst 0, 1) := by decide +kernel
theorem dX1_begin_27 : decode cX1_begin 27 = .ok (.istore 5, 2) := by decide +kernel
theorem dX1_begin_29 : decode cX1_begin 29 = .ok (.iload 5, 2) := by decide +kernel
theorem dX1_begin_31 : decode cX1_begin 31 = .ok (.bipush 15, 2) := by decide +kernel
theorem dX1_begin_33 : decode cX1_begin 33 = .ok (.if_icmp .ge 17, 3) := by decide +kernel
theorem dX1_begin_36 : decode cX1_begin 36 = .ok (.aload_n 0, 1) := by decide +kernel
theorem dX1_begin_37 : decode cX1_begin 37 = .ok (.getfield 9, 3) := by decide +kernel
theorem dX1_begin_40 : decode cX1_begin 40 = .ok (.iload 5, 2) := by decide +kernel
theorem dX1_begin_42 : decode cX1_begin 42 = .ok (.iconst 0, 1) := by decide +kernel
theorem dX1_begin_43 : decode cX1_begin 43 = .ok (.iastore, 1) := by decide +kernel
theorem dX1_begin_44 : decode cX1_begin 44 = .ok (.iinc 5 1, 3) := by decide +kernel
theorem dX1_begin_47 : decode cX1_begin 47 = .ok (.goto (-18), 3) := by decide +kernel
theorem dX1_begin_50 : decode cX1_begin 50 = .ok (.return_, 1) := by decide +kernel
theorem dX1_words_0 : decode cX1_words 0 = .ok (.aload_n 0, 1) := by decide +kernel
theorem dX1_words_1 : decode cX1_words 1 = .ok (.getfield 25, 3) := by decide +kernel
theorem dX1_words_4 : decode cX1_words 4 = .ok (.aload_n 0, 1) := by decide +kernel
theorem dX1_words_5 : decode cX1_words 5 = .ok (.getfield 28, 3) := by decide +kernel
theorem dX1_words_8 : decode cX1_words 8 = .ok (.iadd, 1) := by decide +kernel
theorem dX1_words_9 : decode cX1_words 9 = .ok (.ireturn, 1) := by decide +kernel
theorem dX1_wordAt_0 : decode cX1_wordAt 0 = .ok (.iload_n 1, 1) := by decide +kernel
theorem dX1_wordAt_1 : decode cX1_wordAt 1 = .ok (.ifCond .lt 21, 3) := by decide +kernel
theorem dX1_wordAt_4 : decode cX1_wordAt 4 = .ok (.iload_n 1, 1) := by decide +kernel
theorem dX1_wordAt_5 : decode cX1_wordAt 5 = .ok (.aload_n 0, 1) := by decide +kernel
theorem dX1_wordAt_6 : decode cX1_wordAt 6 = .ok (.getfield 9, 3) := by decide +kernel
theorem dX1_wordAt_9 : decode cX1_wordAt 9 = .ok (.arraylength, 1) := by decide +kernel
theorem dX1_wordAt_10 : decode cX1_wordAt 10 = .ok (.if_icmp .ge 12, 3) := by decide +kernel
theorem dX1_wordAt_13 : decode cX1_wordAt 13 = .ok (.aload_n 0, 1) := by decide +kernel
theorem dX1_wordAt_14 : decode cX1_wordAt 14 = .ok (.getfield 9, 3) := by decide +kernel
theorem dX1_wordAt_17 : decode cX1_wordAt 17 = .ok (.iload_n 1, 1) := by decide +kernel
theorem dX1_wordAt_18 : decode cX1_wordAt 18 = .ok (.iaload, 1) := by decide +kernel
theorem dX1_wordAt_19 : decode cX1_wordAt 19 = .ok (.goto 4, 3) := by decide +kernel
theorem dX1_wordAt_22 : decode cX1_wordAt 22 = .ok (.iconst 0, 1) := by decide +kernel
theorem dX1_wordAt_23 : decode cX1_wordAt 23 = .ok (.ireturn, 1) := by decide +kernel
theorem dX1_setWord_0 : decode cX1_setWord 0 = .ok (.iload_n 1, 1) := by decide +kernel
theorem dX1_setWord_1 : decode cX1_setWord 1 = .ok (.ifCond .lt 19, 3) := by decide +kernel
theorem dX1_setWord_4 : decode cX1_setWord 4 = .ok (.iload_n 1, 1) := by decide +kernel
theorem dX1_setWord_5 : decode cX1_setWord 5 = .ok (.aload_n 0, 1) := by decide +kernel
theorem dX1_setWord_6 : decode cX1_setWord 6 = .ok (.getfield 9, 3) := by decide +kernel
theorem dX1_setWord_9 : decode cX1_setWord 9 = .ok (.arraylength, 1) := by decide +kernel
theorem dX1_setWord_10 : decode cX1_setWord 10 = .ok (.if_icmp .ge 10, 3) := by decide +kernel
theorem dX1_setWord_13 : decode cX1_setWord 13 = .ok (.aload_n 0, 1) := by decide +kernel
theorem dX1_setWord_14 : decode cX1_setWord 14 = .ok (.getfield 9, 3) := by decide +kernel
theorem dX1_setWord_17 : decode cX1_setWord 17 = .ok (.iload_n 1, 1) := by decide +kernel
theorem dX1_setWord_18 : decode cX1_setWord 18 = .ok (.iload_n 2, 1) := by decide +kernel
theorem dX1_setWord_19 : decode cX1_setWord 19 = .ok (.iastore, 1) := by decide +kernel
theorem dX1_setWord_20 : decode cX1_setWord 20 = .ok (.return_, 1) := by decide +kernel
theorem dX1_stackWord_0 : decode cX1_stackWord 0 = .ok (.aload_n 0, 1) := by decide +kernel
theorem dX1_stackWord_1 : decode cX1_stackWord 1 = .ok (.getfield 28, 3) := by decide +kernel
theorem dX1_stackWord_4 : decode cX1_stackWord 4 = .ok (.bipush 40, 2) := by decide +kernel
theorem dX1_stackWord_6 : decode cX1_stackWord 6 = .ok (.if_icmp .ge 27, 3) := by decide +kernel
theorem dX1_stackWord_9 : decode cX1_stackWord 9 = .ok (.aload_n 0, 1) := by decide +kernel
theorem dX1_stackWord_10 : decode cX1_stackWord 10 = .ok (.aload_n 0, 1) := by decide +kernel
theorem dX1_stackWord_11 : decode cX1_stackWord 11 = .ok (.getfield 25, 3) := by decide +kernel
theorem dX1_stackWord_14 : decode cX1_stackWord 14 = .ok (.aload_n 0, 1) := by decide +kernel
theorem dX1_stackWord_15 : decode cX1_stackWord 15 = .ok (.getfield 28, 3) := by decide +kernel
theorem dX1_stackWord_18 : decode cX1_stackWord 18 = .ok (.iadd, 1) := by decide +kernel
theorem dX1_stackWord_19 : decode cX1_stackWord 19 = .ok (.iload_n 1, 1) := by decide +kernel
theorem dX1_stackWord_20 : decode cX1_stackWord 20 = .ok (.invokevirtual 31, 3) := by decide +kernel
theorem dX1_stackWord_23 : decode cX1_stackWord 23 = .ok (.aload_n 0, 1) := by decide +kernel
theorem dX1_stackWord_24 : decode cX1_stackWord 24 = .ok (.dup, 1) := by decide +kernel
theorem dX1_stackWord_25 : decode cX1_stackWord 25 = .ok (.getfield 28, 3) := by decide +kernel
theorem dX1_stackWord_28 : decode cX1_stackWord 28 = .ok (.iconst 1, 1) := by decide +kernel
theorem dX1_stackWord_29 : decode cX1_stackWord 29 = .ok (.iadd, 1) := by decide +kernel
theorem dX1_stackWord_30 : decode cX1_stackWord 30 = .ok (.putfield 28, 3) := by decide +kernel
theorem dX1_stackWord_33 : decode cX1_stackWord 33 = .ok (.return_, 1) := by decide +kernel
theorem dX1_tell_0 : decode cX1_tell 0 = .ok (.aload_n 0, 1) := by decide +kernel
theorem dX1_tell_1 : decode cX1_tell 1 = .ok (.getfield 19, 3) := by decide +kernel
theorem dX1_tell_4 : decode cX1_tell 4 = .ok (.bipush (-2), 2) := by decide +kernel
theorem dX1_tell_6 : decode cX1_tell 6 = .ok (.if_icmp .ne 7, 3) := by decide +kernel
theorem dX1_tell_9 : decode cX1_tell 9 = .ok (.iconst 1, 1) := by decide +kernel
theorem dX1_tell_10 : decode cX1_tell 10 = .ok (.goto 4, 3) := by decide +kernel
theorem dX1_tell_13 : decode cX1_tell 13 = .ok (.iconst 0, 1) := by decide +kernel
theorem dX1_tell_14 : decode cX1_tell 14 = .ok (.istore_n 2, 1) := by decide +kernel
theorem dX1_tell_15 : decode cX1_tell 15 = .ok (.aload_n 1, 1) := by decide +kernel
theorem dX1_tell_16 : decode cX1_tell 16 = .ok (.aload_n 0, 1) := by decide +kernel
theorem dX1_tell_17 : decode cX1_tell 17 = .ok (.getfield 15, 3) := by decide +kernel
theorem dX1_tell_20 : decode cX1_tell 20 = .ok (.iconst 3, 1) := by decide +kernel
theorem dX1_tell_21 : decode cX1_tell 21 = .ok (.invokevirtual 35, 3) := by decide +kernel
theorem dX1_tell_24 : decode cX1_tell 24 = .ok (.aload_n 1, 1) := by decide +kernel
theorem dX1_tell_25 : decode cX1_tell 25 = .ok (.iload_n 2, 1) := by decide +kernel
theorem dX1_tell_26 : decode cX1_tell 26 = .ok (.ifCond .eq 13, 3) := by decide +kernel
theorem dX1_tell_29 : decode cX1_tell 29 = .ok (.aload_n 0, 1) := by decide +kernel
theorem dX1_tell_30 : decode cX1_tell 30 = .ok (.getfield 25, 3) := by decide +kernel
theorem dX1_tell_33 : decode cX1_tell 33 = .ok (.bipush 16, 2) := by decide +kernel
theorem dX1_tell_35 : decode cX1_tell 35 = .ok (.iadd, 1) := by decide +kernel
theorem dX1_tell_36 : decode cX1_tell 36 = .ok (.goto 7, 3) := by decide +kernel
theorem dX1_tell_39 : decode cX1_tell 39 = .ok (.aload_n 0, 1) := by decide +kernel
theorem dX1_tell_40 : decode cX1_tell 40 = .ok (.getfield 25, 3) := by decide +kernel
theorem dX1_tell_43 : decode cX1_tell 43 = .ok (.invokevirtual 40, 3) := by decide +kernel
theorem dX1_tell_46 : decode cX1_tell 46 = .ok (.aload_n 1, 1) := by decide +kernel
theorem dX1_tell_47 : decode cX1_tell 47 = .ok (.iload_n 2, 1) := by decide +kernel
theorem dX1_tell_48 : decode cX1_tell 48 = .ok (.ifCond .eq 7, 3) := by decide +kernel
theorem dX1_tell_51 : decode cX1_tell 51 = .ok (.iconst 0, 1) := by decide +kernel
theorem dX1_tell_52 : decode cX1_tell 52 = .ok (.goto 7, 3) := by decide +kernel
theorem dX1_tell_55 : decode cX1_tell 55 = .ok (.aload_n 0, 1) := by decide +kernel
theorem dX1_tell_56 : decode cX1_tell 56 = .ok (.getfield 19, 3) := by decide +kernel
theorem dX1_tell_59 : decode cX1_tell 59 = .ok (.invokevirtual 40, 3) := by decide +kernel
theorem dX1_tell_62 : decode cX1_tell 62 = .ok (.aload_n 1, 1) := by decide +kernel
theorem dX1_tell_63 : decode cX1_tell 63 = .ok (.iconst 1, 1) := by decide +kernel
theorem dX1_tell_64 : decode cX1_tell 64 = .ok (.aload_n 0, 1) := by decide +kernel
theorem dX1_tell_65 : decode cX1_tell 65 = .ok (.getfield 22, 3) := by decide +kernel
theorem dX1_tell_68 : decode cX1_tell 68 = .ok (.ishl, 1) := by decide +kernel
theorem dX1_tell_69 : decode cX1_tell 69 = .ok (.iconst 1, 1) := by decide +kernel
theorem dX1_tell_70 : decode cX1_tell 70 = .ok (.isub, 1) := by decide +kernel
theorem dX1_tell_71 : decode cX1_tell 71 = .ok (.invokevirtual 40, 3) := by decide +kernel
theorem dX1_tell_74 : decode cX1_tell 74 = .ok (.aload_n 1, 1) := by decide +kernel
theorem dX1_tell_75 : decode cX1_tell 75 = .ok (.aload_n 0, 1) := by decide +kernel
theorem dX1_tell_76 : decode cX1_tell 76 = .ok (.getfield 28, 3) := by decide +kernel
theorem dX1_tell_79 : decode cX1_tell 79 = .ok (.iconst 2, 1) := by decide +kernel
theorem dX1_tell_80 : decode cX1_tell 80 = .ok (.invokevirtual 35, 3) := by decide +kernel
theorem dX1_tell_83 : decode cX1_tell 83 = .ok (.iconst 0, 1) := by decide +kernel
theorem dX1_tell_84 : decode cX1_tell 84 = .ok (.istore_n 3, 1) := by decide +kernel
theorem dX1_tell_85 : decode cX1_tell 85 = .ok (.iload_n 3, 1) := by decide +kernel
theorem dX1_tell_86 : decode cX1_tell 86 = .ok (.aload_n 0, 1) := by decide +kernel
theorem dX1_tell_87 : decode cX1_tell 87 = .ok (.invokevirtual 44, 3) := by decide +kernel
theorem dX1_tell_90 : decode cX1_tell 90 = .ok (.if_icmp .ge 19, 3) := by decide +kernel
theorem dX1_tell_93 : decode cX1_tell 93 = .ok (.aload_n 1, 1) := by decide +kernel
theorem dX1_tell_94 : decode cX1_tell 94 = .ok (.aload_n 0, 1) := by decide +kernel
theorem dX1_tell_95 : decode cX1_tell 95 = .ok (.iload_n 3, 1) := by decide +kernel
theorem dX1_tell_96 : decode cX1_tell 96 = .ok (.invokevirtual 48, 3) := by decide +kernel
theorem dX1_tell_99 : decode cX1_tell 99 = .ok (.iconst 2, 1) := by decide +kernel
theorem dX1_tell_100 : decode cX1_tell 100 = .ok (.invokevirtual 35, 3) := by decide +kernel
theorem dX1_tell_103 : decode cX1_tell 103 = .ok (.iinc 3 1, 3) := by decide +kernel
theorem dX1_tell_106 : decode cX1_tell 106 = .ok (.goto (-21), 3) := by decide +kernel
theorem dX1_tell_109 : decode cX1_tell 109 = .ok (.return_, 1) := by decide +kernel
theorem dX2_init_0 : decode cX2_init 0 = .ok (.aload_n 0, 1) := by decide +kernel
theorem dX2_init_1 : decode cX2_init 1 = .ok (.invokespecial 3, 3) := by decide +kernel
theorem dX2_init_4 : decode cX2_init 4 = .ok (.aload_n 0, 1) := by decide +kernel
theorem dX2_init_5 : decode cX2_init 5 = .ok (.new 9, 3) := by decide +kernel
theorem dX2_init_8 : decode cX2_init 8 = .ok (.dup, 1) := by decide +kernel
theorem dX2_init_9 : decode cX2_init 9 = .ok (.sipush 10000, 3) := by decide +kernel
theorem dX2_init_12 : decode cX2_init 12 = .ok (.invokespecial 11, 3) := by decide +kernel
theorem dX2_init_15 : decode cX2_init 15 = .ok (.putfield 14, 3) := by decide +kernel
theorem dX2_init_18 : decode cX2_init 18 = .ok (.aload_n 0, 1) := by decide +kernel
theorem dX2_init_19 : decode cX2_init 19 = .ok (.bipush 8, 2) := by decide +kernel
theorem dX2_init_21 : decode cX2_init 21 = .ok (.newarray .int, 2) := by decide +kernel
theorem dX2_init_23 : decode cX2_init 23 = .ok (.putfield 20, 3) := by decide +kernel
theorem dX2_init_26 : decode cX2_init 26 = .ok (.aload_n 0, 1) := by decide +kernel
theorem dX2_init_27 : decode cX2_init 27 = .ok (.bipush 8, 2) := by decide +kernel
theorem dX2_init_29 : decode cX2_init 29 = .ok (.newarray .int, 2) := by decide +kernel
theorem dX2_init_31 : decode cX2_init 31 = .ok (.putfield 24, 3) := by decide +kernel
theorem dX2_init_34 : decode cX2_init 34 = .ok (.aload_n 0, 1) := by decide +kernel
theorem dX2_init_35 : decode cX2_init 35 = .ok (.bipush 8, 2) := by decide +kernel
theorem dX2_init_37 : decode cX2_init 37 = .ok (.newarray .int, 2) := by decide +kernel
theorem dX2_init_39 : decode cX2_init 39 = .ok (.putfield 27, 3) := by decide +kernel
theorem dX2_init_42 : decode cX2_init 42 = .ok (.aload_n 0, 1) := by decide +kernel
theorem dX2_init_43 : decode cX2_init 43 = .ok (.iconst 0, 1) := by decide +kernel
theorem dX2_init_44 : decode cX2_init 44 = .ok (.putfield 30, 3) := by decide +kernel
theorem dX2_init_47 : decode cX2_init 47 = .ok (.aload_n 0, 1) := by decide +kernel
theorem dX2_init_48 : decode cX2_init 48 = .ok (.sipush 1000, 3) := by decide +kernel
theorem dX2_init_51 : decode cX2_init 51 = .ok (.putfield 34, 3) := by decide +kernel
theorem dX2_init_54 : decode cX2_init 54 = .ok (.return_, 1) := by decide +kernel
theorem dX2_clear_0 : decode cX2_clear 0 = .ok (.aload_n 0, 1) := by decide +kernel
theorem dX2_clear_1 : decode cX2_clear 1 = .ok (.getfield 14, 3) := by decide +kernel
theorem dX2_clear_4 : decode cX2_clear 4 = .ok (.invokevirtual 37, 3) := by decide +kernel
theorem dX2_clear_7 : decode cX2_clear 7 = .ok (.aload_n 0, 1) := by decide +kernel
theorem dX2_clear_8 : decode cX2_clear 8 = .ok (.iconst 0, 1) := by decide +kernel
theorem dX2_clear_9 : decode cX2_clear 9 = .ok (.putfield 30, 3) := by decide +kernel
theorem dX2_clear_12 : decode cX2_clear 12 = .ok (.return_, 1) := by decide +kernel
theorem dX2_add_0 : decode cX2_add 0 = .ok (.aload_n 0, 1) := by decide +kernel
theorem dX2_add_1 : decode cX2_add 1 = .ok (.bipush 7, 2) := by decide +kernel
theorem dX2_add_3 : decode cX2_add 3 = .ok (.aload_n 0, 1) := by decide +kernel
theorem dX2_add_4 : decode cX2_add 4 = .ok (.getfield 34, 3) := by decide +kernel
theorem dX2_add_7 : decode cX2_add 7 = .ok (.aload_n 1, 1) := by decide +kernel
theorem dX2_add_8 : decode cX2_add 8 = .ok (.getfield 40, 3) := by decide +kernel
theorem dX2_add_11 : decode cX2_add 11 = .ok (.isub, 1) := by decide +kernel
theorem dX2_add_12 : decode cX2_add 12 = .ok (.invokevirtual 43, 3) := by decide +kernel
theorem dX2_add_15 : decode cX2_add 15 = .ok (.aload_n 0, 1) := by decide +kernel
theorem dX2_add_16 : decode cX2_add 16 = .ok (.getfield 30, 3) := by decide +kernel
theorem dX2_add_19 : decode cX2_add 19 = .ok (.ifCond .lt 68, 3) := by decide +kernel
theorem dX2_add_22 : decode cX2_add 22 = .ok (.aload_n 0, 1) := by decide +kernel
theorem dX2_add_23 : decode cX2_add 23 = .ok (.getfield 30, 3) := by decide +kernel
theorem dX2_add_26 : decode cX2_add 26 = .ok (.bipush 8, 2) := by decide +kernel
theorem dX2_add_28 : decode cX2_add 28 = .ok (.if_icmp .ge 59, 3) := by decide +kernel
theorem dX2_add_31 : decode cX2_add 31 = .ok (.aload_n 0, 1) := by decide +kernel
theorem dX2_add_32 : decode cX2_add 32 = .ok (.getfield 14, 3) := by decide +kernel
theorem dX2_add_35 : decode cX2_add 35 = .ok (.aload_n 1, 1) := by decide +kernel
theorem dX2_add_36 : decode cX2_add 36 = .ok (.iconst 0, 1) := by decide +kernel
theorem dX2_add_37 : decode cX2_add 37 = .ok (.aload_n 1, 1) := by decide +kernel
theorem dX2_add_38 : decode cX2_add 38 = .ok (.getfield 40, 3) := by decide +kernel
theorem dX2_add_41 : decode cX2_add 41 = .ok (.invokevirtual 47, 3) := by decide +kernel
theorem dX2_add_44 : decode cX2_add 44 = .ok (.aload_n 0, 1) := by decide +kernel
theorem dX2_add_45 : decode cX2_add 45 = .ok (.getfield 20, 3) := by decide +kernel
theorem dX2_add_48 : decode cX2_add 48 = .ok (.aload_n 0, 1) := by decide +kernel
theorem dX2_add_49 : decode cX2_add 49 = .ok (.getfield 30, 3) := by decide +kernel
theorem dX2_add_52 : decode cX2_add 52 = .ok (.iload_n 2, 1) := by decide +kernel
theorem dX2_add_53 : decode cX2_add 53 = .ok (.iastore, 1) := by decide +kernel
theorem dX2_add_54 : decode cX2_add 54 = .ok (.aload_n 0, 1) := by decide +kernel
theorem dX2_add_55 : decode cX2_add 55 = .ok (.getfield 24, 3) := by decide +kernel
theorem dX2_add_58 : decode cX2_add 58 = .ok (.aload_n 0, 1) := by decide +kernel
theorem dX2_add_59 : decode cX2_add 59 = .ok (.getfield 30, 3) := by decide +kernel
theorem dX2_add_62 : decode cX2_add 62 = .ok (.aload_n 1, 1) := by decide +kernel
theorem dX2_add_63 : decode cX2_add 63 = .ok (.getfield 40, 3) := by decide +kernel
theorem dX2_add_66 : decode cX2_add 66 = .ok (.iastore, 1) := by decide +kernel
theorem dX2_add_67 : decode cX2_add 67 = .ok (.aload_n 0, 1) := by decide +kernel
theorem dX2_add_68 : decode cX2_add 68 = .ok (.getfield 27, 3) := by decide +kernel
theorem dX2_add_71 : decode cX2_add 71 = .ok (.aload_n 0, 1) := by decide +kernel
theorem dX2_add_72 : decode cX2_add 72 = .ok (.getfield 30, 3) := by decide +kernel
theorem dX2_add_75 : decode cX2_add 75 = .ok (.iload_n 3, 1) := by decide +kernel
theorem dX2_add_76 : decode cX2_add 76 = .ok (.iastore, 1) := by decide +kernel
theorem dX2_add_77 : decode cX2_add 77 = .ok (.aload_n 0, 1) := by decide +kernel
theorem dX2_add_78 : decode cX2_add 78 = .ok (.dup, 1) := by decide +kernel
theorem dX2_add_79 : decode cX2_add 79 = .ok (.getfield 30, 3) := by decide +kernel
theorem dX2_add_82 : decode cX2_add 82 = .ok (.iconst 1, 1) := by decide +kernel
theorem dX2_add_83 : decode cX2_add 83 = .ok (.iadd, 1) := by decide +kernel
theorem dX2_add_84 : decode cX2_add 84 = .ok (.putfield 30, 3) := by decide +kernel
theorem dX2_add_87 : decode cX2_add 87 = .ok (.return_, 1) := by decide +kernel
theorem dX2_shrink_0 : decode cX2_shrink 0 = .ok (.iconst 0, 1) := by decide +kernel
theorem dX2_shrink_1 : decode cX2_shrink 1 = .ok (.istore_n 3, 1) := by decide +kernel
theorem dX2_shrink_2 : decode cX2_shrink 2 = .ok (.iload_n 3, 1) := by decide +kernel
theorem dX2_shrink_3 : decode cX2_shrink 3 = .ok (.bipush 8, 2) := by decide +kernel
theorem dX2_shrink_5 : decode cX2_shrink 5 = .ok (.if_icmp .ge 32, 3) := by decide +kernel
theorem dX2_shrink_8 : decode cX2_shrink 8 = .ok (.aload_n 0, 1) := by decide +kernel
theorem dX2_shrink_9 : decode cX2_shrink 9 = .ok (.getfield 30, 3) := by decide +kernel
theorem dX2_shrink_12 : decode cX2_shrink 12 = .ok (.iload_n 1, 1) := by decide +kernel
theorem dX2_shrink_13 : decode cX2_shrink 13 = .ok (.if_icmp .gt 14, 3) := by decide +kernel
theorem dX2_shrink_16 : decode cX2_shrink 16 = .ok (.aload_n 0, 1) := by decide +kernel
theorem dX2_shrink_17 : decode cX2_shrink 17 = .ok (.getfield 14, 3) := by decide +kernel
theorem dX2_shrink_20 : decode cX2_shrink 20 = .ok (.getfield 40, 3) := by decide +kernel
theorem dX2_shrink_23 : decode cX2_shrink 23 = .ok (.iload_n 2, 1) := by decide +kernel
theorem dX2_shrink_24 : decode cX2_shrink 24 = .ok (.if_icmp .le 13, 3) := by decide +kernel
theorem dX2_shrink_27 : decode cX2_shrink 27 = .ok (.aload_n 0, 1) := by decide +kernel
theorem dX2_shrink_28 : decode cX2_shrink 28 = .ok (.invokevirtual 51, 3) := by decide +kernel
theorem dX2_shrink_31 : decode cX2_shrink 31 = .ok (.iinc 3 1, 3) := by decide +kernel
theorem dX2_shrink_34 : decode cX2_shrink 34 = .ok (.goto (-32), 3) := by decide +kernel
theorem dX2_shrink_37 : decode cX2_shrink 37 = .ok (.return_, 1) := by decide +kernel
theorem dX2_dropEldest_0 : decode cX2_dropEldest 0 = .ok (.aload_n 0, 1) := by decide +kernel
theorem dX2_dropEldest_1 : decode cX2_dropEldest 1 = .ok (.getfield 30, 3) := by decide +kernel
theorem dX2_dropEldest_4 : decode cX2_dropEldest 4 = .ok (.ifCond .le 90, 3) := by decide +kernel
theorem dX2_dropEldest_7 : decode cX2_dropEldest 7 = .ok (.aload_n 0, 1) := by decide +kernel
theorem dX2_dropEldest_8 : decode cX2_dropEldest 8 = .ok (.getfield 14, 3) := by decide +kernel
theorem dX2_dropEldest_11 : decode cX2_dropEldest 11 = .ok (.aload_n 0, 1) := by decide +kernel
theorem dX2_dropEldest_12 : decode cX2_dropEldest 12 = .ok (.getfield 24, 3) := by decide +kernel
theorem dX2_dropEldest_15 : decode cX2_dropEldest 15 = .ok (.iconst 0, 1) := by decide +kernel
theorem dX2_dropEldest_16 : decode cX2_dropEldest 16 = .ok (.iaload, 1) := by decide +kernel
theorem dX2_dropEldest_17 : decode cX2_dropEldest 17 = .ok (.invokevirtual 54, 3) := by decide +kernel
theorem dX2_dropEldest_20 : decode cX2_dropEldest 20 = .ok (.aload_n 0, 1) := by decide +kernel
theorem dX2_dropEldest_21 : decode cX2_dropEldest 21 = .ok (.dup, 1) := by decide +kernel
theorem dX2_dropEldest_22 : decode cX2_dropEldest 22 = .ok (.getfield 30, 3) := by decide +kernel
theorem dX2_dropEldest_25 : decode cX2_dropEldest 25 = .ok (.iconst 1, 1) := by decide +kernel
theorem dX2_dropEldest_26 : decode cX2_dropEldest 26 = .ok (.isub, 1) := by decide +kernel
theorem dX2_dropEldest_27 : decode cX2_dropEldest 27 = .ok (.putfield 30, 3) := by decide +kernel
theorem dX2_dropEldest_30 : decode cX2_dropEldest 30 = .ok (.iconst 0, 1) := by decide +kernel
theorem dX2_dropEldest_31 : decode cX2_dropEldest 31 = .ok (.istore_n 1, 1) := by decide +kernel
theorem dX2_dropEldest_32 : decode cX2_dropEldest 32 = .ok (.iload_n 1, 1) := by decide +kernel
theorem dX2_dropEldest_33 : decode cX2_dropEldest 33 = .ok (.aload_n 0, 1) := by decide +kernel
theorem dX2_dropEldest_34 : decode cX2_dropEldest 34 = .ok (.getfield 30, 3) := by decide +kernel
theorem dX2_dropEldest_37 : decode cX2_dropEldest 37 = .ok (.if_icmp .ge 57, 3) := by decide +kernel
theorem dX2_dropEldest_40 : decode cX2_dropEldest 40 = .ok (.iload_n 1, 1) := by decide +kernel
theorem dX2_dropEldest_41 : decode cX2_dropEldest 41 = .ok (.bipush 7, 2) := by decide +kernel
theorem dX2_dropEldest_43 : decode cX2_dropEldest 43 = .ok (.if_icmp .ge 51, 3) := by decide +kernel
theorem dX2_dropEldest_46 : decode cX2_dropEldest 46 = .ok (.aload_n 0, 1) := by decide +kernel
theorem dX2_dropEldest_47 : decode cX2_dropEldest 47 = .ok (.getfield 20, 3) := by decide +kernel
theorem dX2_dropEldest_50 : decode cX2_dropEldest 50 = .ok (.iload_n 1, 1) := by decide +kernel
theorem dX2_dropEldest_51 : decode cX2_dropEldest 51 = .ok (.aload_n 0, 1) := by decide +kernel
theorem dX2_dropEldest_52 : decode cX2_dropEldest 52 = .ok (.getfield 20, 3) := by decide +kernel
theorem dX2_dropEldest_55 : decode cX2_dropEldest 55 = .ok (.iload_n 1, 1) := by decide +kernel
theorem dX2_dropEldest_56 : decode cX2_dropEldest 56 = .ok (.iconst 1, 1) := by decide +kernel
theorem dX2_dropEldest_57 : decode cX2_dropEldest 57 = .ok (.iadd, 1) := by decide +kernel
theorem dX2_dropEldest_58 : decode cX2_dropEldest 58 = .ok (.iaload, 1) := by decide +kernel
theorem dX2_dropEldest_59 : decode cX2_dropEldest 59 = .ok (.iastore, 1) := by decide +kernel
theorem dX2_dropEldest_60 : decode cX2_dropEldest 60 = .ok (.aload_n 0, 1) := by decide +kernel
theorem dX2_dropEldest_61 : decode cX2_dropEldest 61 = .ok (.getfield 24, 3) := by decide +kernel
theorem dX2_dropEldest_64 : decode cX2_dropEldest 64 = .ok (.iload_n 1, 1) := by decide +kernel
theorem dX2_dropEldest_65 : decode cX2_dropEldest 65 = .ok (.aload_n 0, 1) := by decide +kernel
theorem dX2_dropEldest_66 : decode cX2_dropEldest 66 = .ok (.getfield 24, 3) := by decide +kernel
theorem dX2_dropEldest_69 : decode cX2_dropEldest 69 = .ok (.iload_n 1, 1) := by decide +kernel
theorem dX2_dropEldest_70 : decode cX2_dropEldest 70 = .ok (.iconst 1, 1) := by decide +kernel
theorem dX2_dropEldest_71 : decode cX2_dropEldest 71 = .ok (.iadd, 1) := by decide +kernel
theorem dX2_dropEldest_72 : decode cX2_dropEldest 72 = .ok (.iaload, 1) := by decide +kernel
theorem dX2_dropEldest_73 : decode cX2_dropEldest 73 = .ok (.iastore, 1) := by decide +kernel
theorem dX2_dropEldest_74 : decode cX2_dropEldest 74 = .ok (.aload_n 0, 1) := by decide +kernel
theorem dX2_dropEldest_75 : decode cX2_dropEldest 75 = .ok (.getfield 27, 3) := by decide +kernel
theorem dX2_dropEldest_78 : decode cX2_dropEldest 78 = .ok (.iload_n 1, 1) := by decide +kernel
theorem dX2_dropEldest_79 : decode cX2_dropEldest 79 = .ok (.aload_n 0, 1) := by decide +kernel
theorem dX2_dropEldest_80 : decode cX2_dropEldest 80 = .ok (.getfield 27, 3) := by decide +kernel
theorem dX2_dropEldest_83 : decode cX2_dropEldest 83 = .ok (.iload_n 1, 1) := by decide +kernel
theorem dX2_dropEldest_84 : decode cX2_dropEldest 84 = .ok (.iconst 1, 1) := by decide +kernel
theorem dX2_dropEldest_85 : decode cX2_dropEldest 85 = .ok (.iadd, 1) := by decide +kernel
theorem dX2_dropEldest_86 : decode cX2_dropEldest 86 = .ok (.iaload, 1) := by decide +kernel
theorem dX2_dropEldest_87 : decode cX2_dropEldest 87 = .ok (.iastore, 1) := by decide +kernel
theorem dX2_dropEldest_88 : decode cX2_dropEldest 88 = .ok (.iinc 1 1, 3) := by decide +kernel
theorem dX2_dropEldest_91 : decode cX2_dropEldest 91 = .ok (.goto (-59), 3) := by decide +kernel
theorem dX2_dropEldest_94 : decode cX2_dropEldest 94 = .ok (.return_, 1) := by decide +kernel
theorem dX2_takeLatest_0 : decode cX2_takeLatest 0 = .ok (.aload_n 0, 1) := by decide +kernel
theorem dX2_takeLatest_1 : decode cX2_takeLatest 1 = .ok (.getfield 30, 3) := by decide +kernel
theorem dX2_takeLatest_4 : decode cX2_takeLatest 4 = .ok (.iconst 1, 1) := by decide +kernel
theorem dX2_takeLatest_5 : decode cX2_takeLatest 5 = .ok (.isub, 1) := by decide +kernel
theorem dX2_takeLatest_6 : decode cX2_takeLatest 6 = .ok (.istore_n 3, 1) := by decide +kernel
theorem dX2_takeLatest_7 : decode cX2_takeLatest 7 = .ok (.iload_n 3, 1) := by decide +kernel
theorem dX2_takeLatest_8 : decode cX2_takeLatest 8 = .ok (.ifCond .lt 96, 3) := by decide +kernel
theorem dX2_takeLatest_11 : decode cX2_takeLatest 11 = .ok (.iload_n 3, 1) := by decide +kernel
theorem dX2_takeLatest_12 : decode cX2_takeLatest 12 = .ok (.bipush 8, 2) := by decide +kernel
theorem dX2_takeLatest_14 : decode cX2_takeLatest 14 = .ok (.if_icmp .ge 90, 3) := by decide +kernel
theorem dX2_takeLatest_17 : decode cX2_takeLatest 17 = .ok (.aload_n 0, 1) := by decide +kernel
theorem dX2_takeLatest_18 : decode cX2_takeLatest 18 = .ok (.getfield 14, 3) := by decide +kernel
theorem dX2_takeLatest_21 : decode cX2_takeLatest 21 = .ok (.getfield 40, 3) := by decide +kernel
theorem dX2_takeLatest_24 : decode cX2_takeLatest 24 = .ok (.aload_n 0, 1) := by decide +kernel
theorem dX2_takeLatest_25 : decode cX2_takeLatest 25 = .ok (.getfield 24, 3) := by decide +kernel
theorem dX2_takeLatest_28 : decode cX2_takeLatest 28 = .ok (.iload_n 3, 1) := by decide +kernel
theorem dX2_takeLatest_29 : decode cX2_takeLatest 29 = .ok (.iaload, 1) := by decide +kernel
theorem dX2_takeLatest_30 : decode cX2_takeLatest 30 = .ok (.isub, 1) := by decide +kernel
theorem dX2_takeLatest_31 : decode cX2_takeLatest 31 = .ok (.istore 4, 2) := by decide +kernel
theorem dX2_takeLatest_33 : decode cX2_takeLatest 33 = .ok (.iload 4, 2) := by decide +kernel
theorem dX2_takeLatest_35 : decode cX2_takeLatest 35 = .ok (.aload_n 0, 1) := by decide +kernel
theorem dX2_takeLatest_36 : decode cX2_takeLatest 36 = .ok (.getfield 20, 3) := by decide +kernel
theorem dX2_takeLatest_39 : decode cX2_takeLatest 39 = .ok (.iload_n 3, 1) := by decide +kernel
theorem dX2_takeLatest_40 : decode cX2_takeLatest 40 = .ok (.iaload, 1) := by decide +kernel
theorem dX2_takeLatest_41 : decode cX2_takeLatest 41 = .ok (.iadd, 1) := by decide +kernel
theorem dX2_takeLatest_42 : decode cX2_takeLatest 42 = .ok (.istore 5, 2) := by decide +kernel
theorem dX2_takeLatest_44 : decode cX2_takeLatest 44 = .ok (.aload_n 2, 1) := by decide +kernel
theorem dX2_takeLatest_45 : decode cX2_takeLatest 45 = .ok (.aload_n 1, 1) := by decide +kernel
theorem dX2_takeLatest_46 : decode cX2_takeLatest 46 = .ok (.invokevirtual 57, 3) := by decide +kernel
theorem dX2_takeLatest_49 : decode cX2_takeLatest 49 = .ok (.aload_n 2, 1) := by decide +kernel
theorem dX2_takeLatest_50 : decode cX2_takeLatest 50 = .ok (.aload_n 0, 1) := by decide +kernel
theorem dX2_takeLatest_51 : decode cX2_takeLatest 51 = .ok (.getfield 14, 3) := by decide +kernel
theorem dX2_takeLatest_54 : decode cX2_takeLatest 54 = .ok (.iload 4, 2) := by decide +kernel
theorem dX2_takeLatest_56 : decode cX2_takeLatest 56 = .ok (.iload 5, 2) := by decide +kernel
theorem dX2_takeLatest_58 : decode cX2_takeLatest 58 = .ok (.invokevirtual 63, 3) := by decide +kernel
theorem dX2_takeLatest_61 : decode cX2_takeLatest 61 = .ok (.pop, 1) := by decide +kernel
theorem dX2_takeLatest_62 : decode cX2_takeLatest 62 = .ok (.aload_n 2, 1) := by decide +kernel
theorem dX2_takeLatest_63 : decode cX2_takeLatest 63 = .ok (.aload_n 0, 1) := by decide +kernel
theorem dX2_takeLatest_64 : decode cX2_takeLatest 64 = .ok (.getfield 14, 3) := by decide +kernel
theorem dX2_takeLatest_67 : decode cX2_takeLatest 67 = .ok (.iload 5, 2) := by decide +kernel
theorem dX2_takeLatest_69 : decode cX2_takeLatest 69 = .ok (.aload_n 0, 1) := by decide +kernel
theorem dX2_takeLatest_70 : decode cX2_takeLatest 70 = .ok (.getfield 14, 3) := by decide +kernel
theorem dX2_takeLatest_73 : decode cX2_takeLatest 73 = .ok (.getfield 40, 3) := by decide +kernel
theorem dX2_takeLatest_76 : decode cX2_takeLatest 76 = .ok (.invokevirtual 67, 3) := by decide +kernel
theorem dX2_takeLatest_79 : decode cX2_takeLatest 79 = .ok (.pop, 1) := by decide +kernel
theorem dX2_takeLatest_80 : decode cX2_takeLatest 80 = .ok (.aload_n 2, 1) := by decide +kernel
theorem dX2_takeLatest_81 : decode cX2_takeLatest 81 = .ok (.aload_n 0, 1) := by decide +kernel
theorem dX2_takeLatest_82 : decode cX2_takeLatest 82 = .ok (.getfield 27, 3) := by decide +kernel
theorem dX2_takeLatest_85 : decode cX2_takeLatest 85 = .ok (.iload_n 3, 1) := by decide +kernel
theorem dX2_takeLatest_86 : decode cX2_takeLatest 86 = .ok (.iaload, 1) := by decide +kernel
theorem dX2_takeLatest_87 : decode cX2_takeLatest 87 = .ok (.putfield 70, 3) := by decide +kernel
theorem dX2_takeLatest_90 : decode cX2_takeLatest 90 = .ok (.aload_n 0, 1) := by decide +kernel
theorem dX2_takeLatest_91 : decode cX2_takeLatest 91 = .ok (.getfield 14, 3) := by decide +kernel
theorem dX2_takeLatest_94 : decode cX2_takeLatest 94 = .ok (.iload 4, 2) := by decide +kernel
theorem dX2_takeLatest_96 : decode cX2_takeLatest 96 = .ok (.invokevirtual 73, 3) := by decide +kernel
theorem dX2_takeLatest_99 : decode cX2_takeLatest 99 = .ok (.aload_n 0, 1) := by decide +kernel
theorem dX2_takeLatest_100 : decode cX2_takeLatest 100 = .ok (.iload_n 3, 1) := by decide +kernel
theorem dX2_takeLatest_101 : decode cX2_takeLatest 101 = .ok (.putfield 30, 3) := by decide +kernel
theorem dX2_takeLatest_104 : decode cX2_takeLatest 104 = .ok (.return_, 1) := by decide +kernel
theorem dX3_init_0 : decode cX3_init 0 = .ok (.aload_n 0, 1) := by decide +kernel
theorem dX3_init_1 : decode cX3_init 1 = .ok (.invokespecial 3, 3) := by decide +kernel
theorem dX3_init_4 : decode cX3_init 4 = .ok (.aload_n 0, 1) := by decide +kernel
theorem dX3_init_5 : decode cX3_init 5 = .ok (.new 9, 3) := by decide +kernel
theorem dX3_init_8 : decode cX3_init 8 = .ok (.dup, 1) := by decide +kernel
theorem dX3_init_9 : decode cX3_init 9 = .ok (.sipush 2000, 3) := by decide +kernel
theorem dX3_init_12 : decode cX3_init 12 = .ok (.invokespecial 11, 3) := by decide +kernel
theorem dX3_init_15 : decode cX3_init 15 = .ok (.putfield 14, 3) := by decide +kernel
theorem dX3_init_18 : decode cX3_init 18 = .ok (.aload_n 0, 1) := by decide +kernel
theorem dX3_init_19 : decode cX3_init 19 = .ok (.iconst 0, 1) := by decide +kernel
theorem dX3_init_20 : decode cX3_init 20 = .ok (.putfield 20, 3) := by decide +kernel
theorem dX3_init_23 : decode cX3_init 23 = .ok (.aload_n 0, 1) := by decide +kernel
theorem dX3_init_24 : decode cX3_init 24 = .ok (.iconst 0, 1) := by decide +kernel
theorem dX3_init_25 : decode cX3_init 25 = .ok (.putfield 24, 3) := by decide +kernel
theorem dX3_init_28 : decode cX3_init 28 = .ok (.aload_n 0, 1) := by decide +kernel
theorem dX3_init_29 : decode cX3_init 29 = .ok (.iconst 0, 1) := by decide +kernel
theorem dX3_init_30 : decode cX3_init 30 = .ok (.putfield 27, 3) := by decide +kernel
theorem dX3_init_33 : decode cX3_init 33 = .ok (.aload_n 0, 1) := by decide +kernel
theorem dX3_init_34 : decode cX3_init 34 = .ok (.iconst 0, 1) := by decide +kernel
theorem dX3_init_35 : decode cX3_init 35 = .ok (.putfield 30, 3) := by decide +kernel
theorem dX3_init_38 : decode cX3_init 38 = .ok (.return_, 1) := by decide +kernel
theorem dX3_readFor_0 : decode cX3_readFor 0 = .ok (.aload_n 2, 1) := by decide +kernel
theorem dX3_readFor_1 : decode cX3_readFor 1 = .ok (.aload_n 1, 1) := by decide +kernel
theorem dX3_readFor_2 : decode cX3_readFor 2 = .ok (.invokevirtual 34, 3) := by decide +kernel
theorem dX3_readFor_5 : decode cX3_readFor 5 = .ok (.aload_n 3, 1) := by decide +kernel
theorem dX3_readFor_6 : decode cX3_readFor 6 = .ok (.invokevirtual 40, 3) := by decide +kernel
theorem dX3_readFor_9 : decode cX3_readFor 9 = .ok (.aload_n 0, 1) := by decide +kernel
theorem dX3_readFor_10 : decode cX3_readFor 10 = .ok (.iconst 0, 1) := by decide +kernel
theorem dX3_readFor_11 : decode cX3_readFor 11 = .ok (.putfield 20, 3) := by decide +kernel
theorem dX3_readFor_14 : decode cX3_readFor 14 = .ok (.aload_n 0, 1) := by decide +kernel
theorem dX3_readFor_15 : decode cX3_readFor 15 = .ok (.iconst 0, 1) := by decide +kernel
theorem dX3_readFor_16 : decode cX3_readFor 16 = .ok (.putfield 24, 3) := by decide +kernel
theorem dX3_readFor_19 : decode cX3_readFor 19 = .ok (.aload_n 0, 1) := by decide +kernel
theorem dX3_readFor_20 : decode cX3_readFor 20 = .ok (.iconst 0, 1) := by decide +kernel
theorem dX3_readFor_21 : decode cX3_readFor 21 = .ok (.putfield 27, 3) := by decide +kernel
theorem dX3_readFor_24 : decode cX3_readFor 24 = .ok (.aload_n 0, 1) := by decide +kernel
theorem dX3_readFor_25 : decode cX3_readFor 25 = .ok (.bipush 12, 2) := by decide +kernel
theorem dX3_readFor_27 : decode cX3_readFor 27 = .ok (.putfield 30, 3) := by decide +kernel
theorem dX3_readFor_30 : decode cX3_readFor 30 = .ok (.aload_n 0, 1) := by decide +kernel
theorem dX3_readFor_31 : decode cX3_readFor 31 = .ok (.invokevirtual 45, 3) := by decide +kernel
theorem dX3_readFor_34 : decode cX3_readFor 34 = .ok (.istore 4, 2) := by decide +kernel
theorem dX3_readFor_36 : decode cX3_readFor 36 = .ok (.iconst 0, 1) := by decide +kernel
theorem dX3_readFor_37 : decode cX3_readFor 37 = .ok (.istore 5, 2) := by decide +kernel
theorem dX3_readFor_39 : decode cX3_readFor 39 = .ok (.iload 5, 2) := by decide +kernel
theorem dX3_readFor_41 : decode cX3_readFor 41 = .ok (.sipush 250, 3) := by decide +kernel
theorem dX3_readFor_44 : decode cX3_readFor 44 = .ok (.if_icmp .ge 85, 3) := by decide +kernel
theorem dX3_readFor_47 : decode cX3_readFor 47 = .ok (.iload 4, 2) := by decide +kernel
theorem dX3_readFor_49 : decode cX3_readFor 49 = .ok (.ifCond .ne 80, 3) := by decide +kernel
theorem dX3_readFor_52 : decode cX3_readFor 52 = .ok (.aload_n 0, 1) := by decide +kernel
theorem dX3_readFor_53 : decode cX3_readFor 53 = .ok (.getfield 30, 3) := by decide +kernel
theorem dX3_readFor_56 : decode cX3_readFor 56 = .ok (.aload_n 0, 1) := by decide +kernel
theorem dX3_readFor_57 : decode cX3_readFor 57 = .ok (.getfield 14, 3) := by decide +kernel
theorem dX3_readFor_60 : decode cX3_readFor 60 = .ok (.getfield 49, 3) := by decide +kernel
theorem dX3_readFor_63 : decode cX3_readFor 63 = .ok (.if_icmp .ge 66, 3) := by decide +kernel
theorem dX3_readFor_66 : decode cX3_readFor 66 = .ok (.aload_n 0, 1) := by decide +kernel
theorem dX3_readFor_67 : decode cX3_readFor 67 = .ok (.invokevirtual 52, 3) := by decide +kernel
theorem dX3_readFor_70 : decode cX3_readFor 70 = .ok (.istore 4, 2) := by decide +kernel
theorem dX3_readFor_72 : decode cX3_readFor 72 = .ok (.iload 4, 2) := by decide +kernel
theorem dX3_readFor_74 : decode cX3_readFor 74 = .ok (.ifCond .ne 49, 3) := by decide +kernel
theorem dX3_readFor_77 : decode cX3_readFor 77 = .ok (.aload_n 0, 1) := by decide +kernel
theorem dX3_readFor_78 : decode cX3_readFor 78 = .ok (.getfield 14, 3) := by decide +kernel
theorem dX3_readFor_81 : decode cX3_readFor 81 = .ok (.aload_n 0, 1) := by decide +kernel
theorem dX3_readFor_82 : decode cX3_readFor 82 = .ok (.getfield 30, 3) := by decide +kernel
theorem dX3_readFor_85 : decode cX3_readFor 85 = .ok (.iconst 4, 1) := by decide +kernel
theorem dX3_readFor_86 : decode cX3_readFor 86 = .ok (.iadd, 1) := by decide +kernel
theorem dX3_readFor_87 : decode cX3_readFor 87 = .ok (.iconst 4, 1) := by decide +kernel
theorem dX3_readFor_88 : decode cX3_readFor 88 = .ok (.invokevirtual 55, 3) := by decide +kernel
theorem dX3_readFor_91 : decode cX3_readFor 91 = .ok (.istore 6, 2) := by decide +kernel
theorem dX3_readFor_93 : decode cX3_readFor 93 = .ok (.aload_n 0, 1) := by decide +kernel
theorem dX3_readFor_94 : decode cX3_readFor 94 = .ok (.iload 6, 2) := by decide +kernel
theorem dX3_readFor_96 : decode cX3_readFor 96 = .ok (.aload_n 1, 1) := by decide +kernel
theorem dX3_readFor_97 : decode cX3_readFor 97 = .ok (.aload_n 2, 1) := by decide +kernel
theorem dX3_readFor_98 : decode cX3_readFor 98 = .ok (.aload_n 3, 1) := by decide +kernel
theorem dX3_readFor_99 : decode cX3_readFor 99 = .ok (.invokevirtual 59, 3) := by decide +kernel
theorem dX3_readFor_102 : decode cX3_readFor 102 = .ok (.istore 4, 2) := by decide +kernel
theorem dX3_readFor_104 : decode cX3_readFor 104 = .ok (.aload_n 0, 1) := by decide +kernel
theorem dX3_readFor_105 : decode cX3_readFor 105 = .ok (.dup, 1) := by decide +kernel
theorem dX3_readFor_106 : decode cX3_readFor 106 = .ok (.getfield 30, 3) := by decide +kernel
theorem dX3_readFor_109 : decode cX3_readFor 109 = .ok (.bipush 8, 2) := by decide +kernel
theorem dX3_readFor_111 : decode cX3_readFor 111 = .ok (.iload 6, 2) := by decide +kernel
theorem dX3_readFor_113 : decode cX3_readFor 113 = .ok (.iadd, 1) := by decide +kernel
theorem dX3_readFor_114 : decode cX3_readFor 114 = .ok (.iload 6, 2) := by decide +kernel
theorem dX3_readFor_116 : decode cX3_readFor 116 = .ok (.iconst 1, 1) := by decide +kernel
theorem dX3_readFor_117 : decode cX3_readFor 117 = .ok (.iand, 1) := by decide +kernel
theorem dX3_readFor_118 : decode cX3_readFor 118 = .ok (.iadd, 1) := by decide +kernel
theorem dX3_readFor_119 : decode cX3_readFor 119 = .ok (.iadd, 1) := by decide +kernel
theorem dX3_readFor_120 : decode cX3_readFor 120 = .ok (.putfield 30, 3) := by decide +kernel
theorem dX3_readFor_123 : decode cX3_readFor 123 = .ok (.iinc 5 1, 3) := by decide +kernel
theorem dX3_readFor_126 : decode cX3_readFor 126 = .ok (.goto (-87), 3) := by decide +kernel
theorem dX3_readFor_129 : decode cX3_readFor 129 = .ok (.aload_n 0, 1) := by decide +kernel
theorem dX3_readFor_130 : decode cX3_readFor 130 = .ok (.getfield 20, 3) := by decide +kernel
theorem dX3_readFor_133 : decode cX3_readFor 133 = .ok (.ifCond .eq 21, 3) := by decide +kernel
theorem dX3_readFor_136 : decode cX3_readFor 136 = .ok (.aload_n 0, 1) := by decide +kernel
theorem dX3_readFor_137 : decode cX3_readFor 137 = .ok (.getfield 24, 3) := by decide +kernel
theorem dX3_readFor_140 : decode cX3_readFor 140 = .ok (.ifCond .eq 14, 3) := by decide +kernel
theorem dX3_readFor_143 : decode cX3_readFor 143 = .ok (.aload_n 0, 1) := by decide +kernel
theorem dX3_readFor_144 : decode cX3_readFor 144 = .ok (.getfield 27, 3) := by decide +kernel
theorem dX3_readFor_147 : decode cX3_readFor 147 = .ok (.ifCond .eq 7, 3) := by decide +kernel
theorem dX3_readFor_150 : decode cX3_readFor 150 = .ok (.iconst 1, 1) := by decide +kernel
theorem dX3_readFor_151 : decode cX3_readFor 151 = .ok (.goto 4, 3) := by decide +kernel
theorem dX3_readFor_154 : decode cX3_readFor 154 = .ok (.iconst 0, 1) := by decide +kernel
theorem dX3_readFor_155 : decode cX3_readFor 155 = .ok (.istore 5, 2) := by decide +kernel
theorem dX3_readFor_157 : decode cX3_readFor 157 = .ok (.iload 4, 2) := by decide +kernel
theorem dX3_readFor_159 : decode cX3_readFor 159 = .ok (.ifCond .ne 23, 3) := by decide +kernel
theorem dX3_readFor_162 : decode cX3_readFor 162 = .ok (.iload 5, 2) := by decide +kernel
theorem dX3_readFor_164 : decode cX3_readFor 164 = .ok (.ifCond .ne 18, 3) := by decide +kernel
theorem dX3_readFor_167 : decode cX3_readFor 167 = .ok (.bipush 10, 2) := by decide +kernel
theorem dX3_readFor_169 : decode cX3_readFor 169 = .ok (.aload_n 0, 1) := by decide +kernel
theorem dX3_readFor_170 : decode cX3_readFor 170 = .ok (.getfield 14, 3) := by decide +kernel
theorem dX3_readFor_173 : decode cX3_readFor 173 = .ok (.getfield 49, 3) := by decide +kernel
theorem dX3_readFor_176 : decode cX3_readFor 176 = .ok (.invokestatic 63, 3) := by decide +kernel
theorem dX3_readFor_179 : decode cX3_readFor 179 = .ok (.goto 5, 3) := by decide +kernel
theorem dX3_readFor_182 : decode cX3_readFor 182 = .ok (.iload 4, 2) := by decide +kernel
theorem dX3_readFor_184 : decode cX3_readFor 184 = .ok (.ireturn, 1) := by decide +kernel
theorem dX3_frontFault_0 : decode cX3_frontFault 0 = .ok (.aload_n 0, 1) := by decide +kernel
theorem dX3_frontFault_1 : decode cX3_frontFault 1 = .ok (.getfield 14, 3) := by decide +kernel
theorem dX3_frontFault_4 : decode cX3_frontFault 4 = .ok (.getfield 49, 3) := by decide +kernel
theorem dX3_frontFault_7 : decode cX3_frontFault 7 = .ok (.bipush 12, 2) := by decide +kernel
theorem dX3_frontFault_9 : decode cX3_frontFault 9 = .ok (.if_icmp .ge 15, 3) := by decide +kernel
theorem dX3_frontFault_12 : decode cX3_frontFault 12 = .ok (.iconst 1, 1) := by decide +kernel
theorem dX3_frontFault_13 : decode cX3_frontFault 13 = .ok (.aload_n 0, 1) := by decide +kernel
theorem dX3_frontFault_14 : decode cX3_frontFault 14 = .ok (.getfield 14, 3) := by decide +kernel
theorem dX3_frontFault_17 : decode cX3_frontFault 17 = .ok (.getfield 49, 3) := by decide +kernel
theorem dX3_frontFault_20 : decode cX3_frontFault 20 = .ok (.invokestatic 63, 3) := by decide +kernel
theorem dX3_frontFault_23 : decode cX3_frontFault 23 = .ok (.ireturn, 1) := by decide +kernel
theorem dX3_frontFault_24 : decode cX3_frontFault 24 = .ok (.aload_n 0, 1) := by decide +kernel
theorem dX3_frontFault_25 : decode cX3_frontFault 25 = .ok (.getfield 14, 3) := by decide +kernel
theorem dX3_frontFault_28 : decode cX3_frontFault 28 = .ok (.iconst 0, 1) := by decide +kernel
theorem dX3_frontFault_29 : decode cX3_frontFault 29 = .ok (.iconst 4, 1) := by decide +kernel
theorem dX3_frontFault_30 : decode cX3_frontFault 30 = .ok (.invokevirtual 55, 3) := by decide +kernel
theorem dX3_frontFault_33 : decode cX3_frontFault 33 = .ok (.ldc 66, 2) := by decide +kernel
theorem dX3_frontFault_35 : decode cX3_frontFault 35 = .ok (.if_icmp .eq 9, 3) := by decide +kernel
theorem dX3_frontFault_38 : decode cX3_frontFault 38 = .ok (.iconst 2, 1) := by decide +kernel
theorem dX3_frontFault_39 : decode cX3_frontFault 39 = .ok (.iconst 0, 1) := by decide +kernel
theorem dX3_frontFault_40 : decode cX3_frontFault 40 = .ok (.invokestatic 63, 3) := by decide +kernel
theorem dX3_frontFault_43 : decode cX3_frontFault 43 = .ok (.ireturn, 1) := by decide +kernel
theorem dX3_frontFault_44 : decode cX3_frontFault 44 = .ok (.aload_n 0, 1) := by decide +kernel
theorem dX3_frontFault_45 : decode cX3_frontFault 45 = .ok (.getfield 14, 3) := by decide +kernel
theorem dX3_frontFault_48 : decode cX3_frontFault 48 = .ok (.iconst 4, 1) := by decide +kernel
theorem dX3_frontFault_49 : decode cX3_frontFault 49 = .ok (.iconst 4, 1) := by decide +kernel
theorem dX3_frontFault_50 : decode cX3_frontFault 50 = .ok (.invokevirtual 55, 3) := by decide +kernel
theorem dX3_frontFault_53 : decode cX3_frontFault 53 = .ok (.aload_n 0, 1) := by decide +kernel
theorem dX3_frontFault_54 : decode cX3_frontFault 54 = .ok (.getfield 14, 3) := by decide +kernel
theorem dX3_frontFault_57 : decode cX3_frontFault 57 = .ok (.getfield 49, 3) := by decide +kernel
theorem dX3_frontFault_60 : decode cX3_frontFault 60 = .ok (.bipush 8, 2) := by decide +kernel
theorem dX3_frontFault_62 : decode cX3_frontFault 62 = .ok (.isub, 1) := by decide +kernel
theorem dX3_frontFault_63 : decode cX3_frontFault 63 = .ok (.if_icmp .eq 9, 3) := by decide +kernel
theorem dX3_frontFault_66 : decode cX3_frontFault 66 = .ok (.iconst 3, 1) := by decide +kernel
theorem dX3_frontFault_67 : decode cX3_frontFault 67 = .ok (.iconst 4, 1) := by decide +kernel
theorem dX3_frontFault_68 : decode cX3_frontFault 68 = .ok (.invokestatic 63, 3) := by decide +kernel
theorem dX3_frontFault_71 : decode cX3_frontFault 71 = .ok (.ireturn, 1) := by decide +kernel
theorem dX3_frontFault_72 : decode cX3_frontFault 72 = .ok (.aload_n 0, 1) := by decide +kernel
theorem dX3_frontFault_73 : decode cX3_frontFault 73 = .ok (.getfield 14, 3) := by decide +kernel
theorem dX3_frontFault_76 : decode cX3_frontFault 76 = .ok (.bipush 8, 2) := by decide +kernel
theorem dX3_frontFault_78 : decode cX3_frontFault 78 = .ok (.iconst 4, 1) := by decide +kernel
theorem dX3_frontFault_79 : decode cX3_frontFault 79 = .ok (.invokevirtual 55, 3) := by decide +kernel
theorem dX3_frontFault_82 : decode cX3_frontFault 82 = .ok (.ldc 67, 2) := by decide +kernel
theorem dX3_frontFault_84 : decode cX3_frontFault 84 = .ok (.if_icmp .eq 12, 3) := by decide +kernel
theorem dX3_frontFault_87 : decode cX3_frontFault 87 = .ok (.iconst 2, 1) := by decide +kernel
theorem dX3_frontFault_88 : decode cX3_frontFault 88 = .ok (.bipush 8, 2) := by decide +kernel
theorem dX3_frontFault_90 : decode cX3_frontFault 90 = .ok (.invokestatic 63, 3) := by decide +kernel
theorem dX3_frontFault_93 : decode cX3_frontFault 93 = .ok (.goto 4, 3) := by decide +kernel
theorem dX3_frontFault_96 : decode cX3_frontFault 96 = .ok (.iconst 0, 1) := by decide +kernel
theorem dX3_frontFault_97 : decode cX3_frontFault 97 = .ok (.ireturn, 1) := by decide +kernel
theorem dX3_shapeFault_0 : decode cX3_shapeFault 0 = .ok (.aload_n 0, 1) := by decide +kernel
theorem dX3_shapeFault_1 : decode cX3_shapeFault 1 = .ok (.getfield 14, 3) := by decide +kernel
theorem dX3_shapeFault_4 : decode cX3_shapeFault 4 = .ok (.getfield 49, 3) := by decide +kernel
theorem dX3_shapeFault_7 : decode cX3_shapeFault 7 = .ok (.aload_n 0, 1) := by decide +kernel
theorem dX3_shapeFault_8 : decode cX3_shapeFault 8 = .ok (.getfield 30, 3) := by decide +kernel
theorem dX3_shapeFault_11 : decode cX3_shapeFault 11 = .ok (.isub, 1) := by decide +kernel
theorem dX3_shapeFault_12 : decode cX3_shapeFault 12 = .ok (.bipush 8, 2) := by decide +kernel
theorem dX3_shapeFault_14 : decode cX3_shapeFault 14 = .ok (.isub, 1) := by decide +kernel
theorem dX3_shapeFault_15 : decode cX3_shapeFault 15 = .ok (.istore_n 1, 1) := by decide +kernel
theorem dX3_shapeFault_16 : decode cX3_shapeFault 16 = .ok (.aload_n 0, 1) := by decide +kernel
theorem dX3_shapeFault_17 : decode cX3_shapeFault 17 = .ok (.getfield 14, 3) := by decide +kernel
theorem dX3_shapeFault_20 : decode cX3_shapeFault 20 = .ok (.aload_n 0, 1) := by decide +kernel
theorem dX3_shapeFault_21 : decode cX3_shapeFault 21 = .ok (.getfield 30, 3) := by decide +kernel
theorem dX3_shapeFault_24 : decode cX3_shapeFault 24 = .ok (.iconst 4, 1) := by decide +kernel
theorem dX3_shapeFault_25 : decode cX3_shapeFault 25 = .ok (.iadd, 1) := by decide +kernel
theorem dX3_shapeFault_26 : decode cX3_shapeFault 26 = .ok (.iconst 4, 1) := by decide +kernel
theorem dX3_shapeFault_27 : decode cX3_shapeFault 27 = .ok (.invokevirtual 55, 3) := by decide +kernel
theorem dX3_shapeFault_30 : decode cX3_shapeFault 30 = .ok (.istore_n 2, 1) := by decide +kernel
theorem dX3_shapeFault_31 : decode cX3_shapeFault 31 = .ok (.iload_n 1, 1) := by decide +kernel
theorem dX3_shapeFault_32 : decode cX3_shapeFault 32 = .ok (.ifCond .lt 12, 3) := by decide +kernel
theorem dX3_shapeFault_35 : decode cX3_shapeFault 35 = .ok (.iload_n 2, 1) := by decide +kernel
theorem dX3_shapeFault_36 : decode cX3_shapeFault 36 = .ok (.ifCond .lt 8, 3) := by decide +kernel
theorem dX3_shapeFault_39 : decode cX3_shapeFault 39 = .ok (.iload_n 2, 1) := by decide +kernel
theorem dX3_shapeFault_40 : decode cX3_shapeFault 40 = .ok (.iload_n 1, 1) := by decide +kernel
theorem dX3_shapeFault_41 : decode cX3_shapeFault 41 = .ok (.if_icmp .le 15, 3) := by decide +kernel
theorem dX3_shapeFault_44 : decode cX3_shapeFault 44 = .ok (.iconst 1, 1) := by decide +kernel
theorem dX3_shapeFault_45 : decode cX3_shapeFault 45 = .ok (.aload_n 0, 1) := by decide +kernel
theorem dX3_shapeFault_46 : decode cX3_shapeFault 46 = .ok (.getfield 14, 3) := by decide +kernel
theorem dX3_shapeFault_49 : decode cX3_shapeFault 49 = .ok (.getfield 49, 3) := by decide +kernel
theorem dX3_shapeFault_52 : decode cX3_shapeFault 52 = .ok (.invokestatic 63, 3) := by decide +kernel
theorem dX3_shapeFault_55 : decode cX3_shapeFault 55 = .ok (.ireturn, 1) := by decide +kernel
theorem dX3_shapeFault_56 : decode cX3_shapeFault 56 = .ok (.iload_n 2, 1) := by decide +kernel
theorem dX3_shapeFault_57 : decode cX3_shapeFault 57 = .ok (.iconst 1, 1) := by decide +kernel
theorem dX3_shapeFault_58 : decode cX3_shapeFault 58 = .ok (.iand, 1) := by decide +kernel
theorem dX3_shapeFault_59 : decode cX3_shapeFault 59 = .ok (.ifCond .ne 5, 3) := by decide +kernel
theorem dX3_shapeFault_62 : decode cX3_shapeFault 62 = .ok (.iconst 0, 1) := by decide +kernel
theorem dX3_shapeFault_63 : decode cX3_shapeFault 63 = .ok (.ireturn, 1) := by decide +kernel
theorem dX3_shapeFault_64 : decode cX3_shapeFault 64 = .ok (.iload_n 2, 1) := by decide +kernel
theorem dX3_shapeFault_65 : decode cX3_shapeFault 65 = .ok (.iload_n 1, 1) := by decide +kernel
theorem dX3_shapeFault_66 : decode cX3_shapeFault 66 = .ok (.if_icmp .ne 15, 3) := by decide +kernel
theorem dX3_shapeFault_69 : decode cX3_shapeFault 69 = .ok (.iconst 1, 1) := by decide +kernel
theorem dX3_shapeFault_70 : decode cX3_shapeFault 70 = .ok (.aload_n 0, 1) := by decide +kernel
theorem dX3_shapeFault_71 : decode cX3_shapeFault 71 = .ok (.getfield 14, 3) := by decide +kernel
theorem dX3_shapeFault_74 : decode cX3_shapeFault 74 = .ok (.getfield 49, 3) := by decide +kernel
theorem dX3_shapeFault_77 : decode cX3_shapeFault 77 = .ok (.invokestatic 63, 3) := by decide +kernel
theorem dX3_shapeFault_80 : decode cX3_shapeFault 80 = .ok (.ireturn, 1) := by decide +kernel
theorem dX3_shapeFault_81 : decode cX3_shapeFault 81 = .ok (.aload_n 0, 1) := by decide +kernel
theorem dX3_shapeFault_82 : decode cX3_shapeFault 82 = .ok (.getfield 30, 3) := by decide +kernel
theorem dX3_shapeFault_85 : decode cX3_shapeFault 85 = .ok (.bipush 8, 2) := by decide +kernel
theorem dX3_shapeFault_87 : decode cX3_shapeFault 87 = .ok (.iadd, 1) := by decide +kernel
theorem dX3_shapeFault_88 : decode cX3_shapeFault 88 = .ok (.iload_n 2, 1) := by decide +kernel
theorem dX3_shapeFault_89 : decode cX3_shapeFault 89 = .ok (.iadd, 1) := by decide +kernel
theorem dX3_shapeFault_90 : decode cX3_shapeFault 90 = .ok (.istore_n 3, 1) := by decide +kernel
theorem dX3_shapeFault_91 : decode cX3_shapeFault 91 = .ok (.aload_n 0, 1) := by decide +kernel
theorem dX3_shapeFault_92 : decode cX3_shapeFault 92 = .ok (.getfield 14, 3) := by decide +kernel
theorem dX3_shapeFault_95 : decode cX3_shapeFault 95 = .ok (.iload_n 3, 1) := by decide +kernel
theorem dX3_shapeFault_96 : decode cX3_shapeFault 96 = .ok (.invokevirtual 68, 3) := by decide +kernel
theorem dX3_shapeFault_99 : decode cX3_shapeFault 99 = .ok (.ifCond .eq 11, 3) := by decide +kernel
theorem dX3_shapeFault_102 : decode cX3_shapeFault 102 = .ok (.iconst 4, 1) := by decide +kernel
theorem dX3_shapeFault_103 : decode cX3_shapeFault 103 = .ok (.iload_n 3, 1) := by decide +kernel
theorem dX3_shapeFault_104 : decode cX3_shapeFault 104 = .ok (.invokestatic 63, 3) := by decide +kernel
theorem dX3_shapeFault_107 : decode cX3_shapeFault 107 = .ok (.goto 4, 3) := by decide +kernel
theorem dX3_shapeFault_110 : decode cX3_shapeFault 110 = .ok (.iconst 0, 1) := by decide +kernel
theorem dX3_shapeFault_111 : decode cX3_shapeFault 111 = .ok (.ireturn, 1) := by decide +kernel
theorem dX3_readContents_0 : decode cX3_readContents 0 = .ok (.aload_n 0, 1) := by decide +kernel
theorem dX3_readContents_1 : decode cX3_readContents 1 = .ok (.getfield 14, 3) := by decide +kernel
theorem dX3_readContents_4 : decode cX3_readContents 4 = .ok (.aload_n 0, 1) := by decide +kernel
theorem dX3_readContents_5 : decode cX3_readContents 5 = .ok (.getfield 30, 3) := by decide +kernel
theorem dX3_readContents_8 : decode cX3_readContents 8 = .ok (.iconst 4, 1) := by decide +kernel
theorem dX3_readContents_9 : decode cX3_readContents 9 = .ok (.invokevirtual 55, 3) := by decide +kernel
theorem dX3_readContents_12 : decode cX3_readContents 12 = .ok (.istore 5, 2) := by decide +kernel
theorem dX3_readContents_14 : decode cX3_readContents 14 = .ok (.aload_n 0, 1) := by decide +kernel
theorem dX3_readContents_15 : decode cX3_readContents 15 = .ok (.getfield 30, 3) := by decide +kernel
theorem dX3_readContents_18 : decode cX3_readContents 18 = .ok (.bipush 8, 2) := by decide +kernel
theorem dX3_readContents_20 : decode cX3_readContents 20 = .ok (.iadd, 1) := by decide +kernel
theorem dX3_readContents_21 : decode cX3_readContents 21 = .ok (.istore 6, 2) := by decide +kernel
theorem dX3_readContents_23 : decode cX3_readContents 23 = .ok (.iload 5, 2) := by decide +kernel
theorem dX3_readContents_25 : decode cX3_readContents 25 = .ok (.lookupswitch 111 #[(1129145709, 62), (1229351012, 43), (1400138611, 82), (1431135597, 62)], 43) := by decide +kernel
theorem dX3_readContents_68 : decode cX3_readContents 68 = .ok (.aload_n 0, 1) := by decide +kernel
theorem dX3_readContents_69 : decode cX3_readContents 69 = .ok (.getfield 20, 3) := by decide +kernel
theorem dX3_readContents_72 : decode cX3_readContents 72 = .ok (.ifCond .eq 7, 3) := by decide +kernel
theorem dX3_readContents_75 : decode cX3_readContents 75 = .ok (.iconst 0, 1) := by decide +kernel
theorem dX3_readContents_76 : decode cX3_readContents 76 = .ok (.goto 10, 3) := by decide +kernel
theorem dX3_readContents_79 : decode cX3_readContents 79 = .ok (.aload_n 0, 1) := by decide +kernel
theorem dX3_readContents_80 : decode cX3_readContents 80 = .ok (.iload_n 1, 1) := by decide +kernel
theorem dX3_readContents_81 : decode cX3_readContents 81 = .ok (.aload_n 2, 1) := by decide +kernel
theorem dX3_readContents_82 : decode cX3_readContents 82 = .ok (.aload_n 3, 1) := by decide +kernel
theorem dX3_readContents_83 : decode cX3_readContents 83 = .ok (.invokevirtual 71, 3) := by decide +kernel
theorem dX3_readContents_86 : decode cX3_readContents 86 = .ok (.ireturn, 1) := by decide +kernel
theorem dX3_readContents_87 : decode cX3_readContents 87 = .ok (.aload_n 0, 1) := by decide +kernel
theorem dX3_readContents_88 : decode cX3_readContents 88 = .ok (.getfield 24, 3) := by decide +kernel
theorem dX3_readContents_91 : decode cX3_readContents 91 = .ok (.ifCond .eq 7, 3) := by decide +kernel
theorem dX3_readContents_94 : decode cX3_readContents 94 = .ok (.iconst 0, 1) := by decide +kernel
theorem dX3_readContents_95 : decode cX3_readContents 95 = .ok (.goto 11, 3) := by decide +kernel
theorem dX3_readContents_98 : decode cX3_readContents 98 = .ok (.aload_n 0, 1) := by decide +kernel
theorem dX3_readContents_99 : decode cX3_readContents 99 = .ok (.iload 5, 2) := by decide +kernel
theorem dX3_readContents_101 : decode cX3_readContents 101 = .ok (.iload_n 1, 1) := by decide +kernel
theorem dX3_readContents_102 : decode cX3_readContents 102 = .ok (.aload_n 3, 1) := by decide +kernel
theorem dX3_readContents_103 : decode cX3_readContents 103 = .ok (.invokevirtual 75, 3) := by decide +kernel
theorem dX3_readContents_106 : decode cX3_readContents 106 = .ok (.ireturn, 1) := by decide +kernel
theorem dX3_readContents_107 : decode cX3_readContents 107 = .ok (.aload_n 0, 1) := by decide +kernel
theorem dX3_readContents_108 : decode cX3_readContents 108 = .ok (.getfield 27, 3) := by decide +kernel
theorem dX3_readContents_111 : decode cX3_readContents 111 = .ok (.ifCond .eq 5, 3) := by decide +kernel
theorem dX3_readContents_114 : decode cX3_readContents 114 = .ok (.iconst 0, 1) := by decide +kernel
theorem dX3_readContents_115 : decode cX3_readContents 115 = .ok (.ireturn, 1) := by decide +kernel
theorem dX3_readContents_116 : decode cX3_readContents 116 = .ok (.aload_n 0, 1) := by decide +kernel
theorem dX3_readContents_117 : decode cX3_readContents 117 = .ok (.iconst 1, 1) := by decide +kernel
theorem dX3_readContents_118 : decode cX3_readContents 118 = .ok (.putfield 27, 3) := by decide +kernel
theorem dX3_readContents_121 : decode cX3_readContents 121 = .ok (.aload_n 3, 1) := by decide +kernel
theorem dX3_readContents_122 : decode cX3_readContents 122 = .ok (.aload_n 0, 1) := by decide +kernel
theorem dX3_readContents_123 : decode cX3_readContents 123 = .ok (.getfield 14, 3) := by decide +kernel
theorem dX3_readContents_126 : decode cX3_readContents 126 = .ok (.iload 6, 2) := by decide +kernel
theorem dX3_readContents_128 : decode cX3_readContents 128 = .ok (.iload 6, 2) := by decide +kernel
theorem dX3_readContents_130 : decode cX3_readContents 130 = .ok (.iload_n 1, 1) := by decide +kernel
theorem dX3_readContents_131 : decode cX3_readContents 131 = .ok (.iadd, 1) := by decide +kernel
theorem dX3_readContents_132 : decode cX3_readContents 132 = .ok (.invokevirtual 79, 3) := by decide +kernel
theorem dX3_readContents_135 : decode cX3_readContents 135 = .ok (.ireturn, 1) := by decide +kernel
theorem dX3_readContents_136 : decode cX3_readContents 136 = .ok (.aload 4, 2) := by decide +kernel
theorem dX3_readContents_138 : decode cX3_readContents 138 = .ok (.iload 5, 2) := by decide +kernel
theorem dX3_readContents_140 : decode cX3_readContents 140 = .ok (.aload_n 0, 1) := by decide +kernel
theorem dX3_readContents_141 : decode cX3_readContents 141 = .ok (.getfield 14, 3) := by decide +kernel
theorem dX3_readContents_144 : decode cX3_readContents 144 = .ok (.iload 6, 2) := by decide +kernel
theorem dX3_readContents_146 : decode cX3_readContents 146 = .ok (.iload_n 1, 1) := by decide +kernel
theorem dX3_readContents_147 : decode cX3_readContents 147 = .ok (.invokevirtual 83, 3) := by decide +kernel
theorem dX3_readContents_150 : decode cX3_readContents 150 = .ok (.ifCond .eq 7, 3) := by decide +kernel
theorem dX3_readContents_153 : decode cX3_readContents 153 = .ok (.iconst 0, 1) := by decide +kernel
theorem dX3_readContents_154 : decode cX3_readContents 154 = .ok (.goto 12, 3) := by decide +kernel
theorem dX3_readContents_157 : decode cX3_readContents 157 = .ok (.bipush 9, 2) := by decide +kernel
theorem dX3_readContents_159 : decode cX3_readContents 159 = .ok (.aload_n 0, 1) := by decide +kernel
theorem dX3_readContents_160 : decode cX3_readContents 160 = .ok (.getfield 30, 3) := by decide +kernel
theorem dX3_readContents_163 : decode cX3_readContents 163 = .ok (.invokestatic 63, 3) := by decide +kernel
theorem dX3_readContents_166 : decode cX3_readContents 166 = .ok (.ireturn, 1) := by decide +kernel
theorem dX3_readHead_0 : decode cX3_readHead 0 = .ok (.iload_n 1, 1) := by decide +kernel
theorem dX3_readHead_1 : decode cX3_readHead 1 = .ok (.bipush 13, 2) := by decide +kernel
theorem dX3_readHead_3 : decode cX3_readHead 3 = .ok (.if_icmp .eq 15, 3) := by decide +kernel
theorem dX3_readHead_6 : decode cX3_readHead 6 = .ok (.bipush 6, 2) := by decide +kernel
theorem dX3_readHead_8 : decode cX3_readHead 8 = .ok (.aload_n 0, 1) := by decide +kernel
theorem dX3_readHead_9 : decode cX3_readHead 9 = .ok (.getfield 30, 3) := by decide +kernel
theorem dX3_readHead_12 : decode cX3_readHead 12 = .ok (.iconst 4, 1) := by decide +kernel
theorem dX3_readHead_13 : decode cX3_readHead 13 = .ok (.iadd, 1) := by decide +kernel
theorem dX3_readHead_14 : decode cX3_readHead 14 = .ok (.invokestatic 63, 3) := by decide +kernel
theorem dX3_readHead_17 : decode cX3_readHead 17 = .ok (.ireturn, 1) := by decide +kernel
theorem dX3_readHead_18 : decode cX3_readHead 18 = .ok (.aload_n 0, 1) := by decide +kernel
theorem dX3_readHead_19 : decode cX3_readHead 19 = .ok (.getfield 30, 3) := by decide +kernel
theorem dX3_readHead_22 : decode cX3_readHead 22 = .ok (.bipush 8, 2) := by decide +kernel
theorem dX3_readHead_24 : decode cX3_readHead 24 = .ok (.iadd, 1) := by decide +kernel
theorem dX3_readHead_25 : decode cX3_readHead 25 = .ok (.istore 4, 2) := by decide +kernel
theorem dX3_readHead_27 : decode cX3_readHead 27 = .ok (.iconst 0, 1) := by decide +kernel
theorem dX3_readHead_28 : decode cX3_readHead 28 = .ok (.istore 5, 2) := by decide +kernel
theorem dX3_readHead_30 : decode cX3_readHead 30 = .ok (.iload 5, 2) := by decide +kernel
theorem dX3_readHead_32 : decode cX3_readHead 32 = .ok (.bipush 10, 2) := by decide +kernel
theorem dX3_readHead_34 : decode cX3_readHead 34 = .ok (.if_icmp .ge 41, 3) := by decide +kernel
theorem dX3_readHead_37 : decode cX3_readHead 37 = .ok (.aload_n 0, 1) := by decide +kernel
theorem dX3_readHead_38 : decode cX3_readHead 38 = .ok (.getfield 14, 3) := by decide +kernel
theorem dX3_readHead_41 : decode cX3_readHead 41 = .ok (.iload 4, 2) := by decide +kernel
theorem dX3_readHead_43 : decode cX3_readHead 43 = .ok (.iload 5, 2) := by decide +kernel
theorem dX3_readHead_45 : decode cX3_readHead 45 = .ok (.iadd, 1) := by decide +kernel
theorem dX3_readHead_46 : decode cX3_readHead 46 = .ok (.invokevirtual 68, 3) := by decide +kernel
theorem dX3_readHead_49 : decode cX3_readHead 49 = .ok (.aload_n 2, 1) := by decide +kernel
theorem dX3_readHead_50 : decode cX3_readHead 50 = .ok (.iload 5, 2) := by decide +kernel
theorem dX3_readHead_52 : decode cX3_readHead 52 = .ok (.invokevirtual 87, 3) := by decide +kernel
theorem dX3_readHead_55 : decode cX3_readHead 55 = .ok (.if_icmp .eq 14, 3) := by decide +kernel
theorem dX3_readHead_58 : decode cX3_readHead 58 = .ok (.bipush 6, 2) := by decide +kernel
theorem dX3_readHead_60 : decode cX3_readHead 60 = .ok (.iload 4, 2) := by decide +kernel
theorem dX3_readHead_62 : decode cX3_readHead 62 = .ok (.iload 5, 2) := by decide +kernel
theorem dX3_readHead_64 : decode cX3_readHead 64 = .ok (.iadd, 1) := by decide +kernel
theorem dX3_readHead_65 : decode cX3_readHead 65 = .ok (.invokestatic 63, 3) := by decide +kernel
theorem dX3_readHead_68 : decode cX3_readHead 68 = .ok (.ireturn, 1) := by decide +kernel
theorem dX3_readHead_69 : decode cX3_readHead 69 = .ok (.iinc 5 1, 3) := by decide +kernel
theorem dX3_readHead_72 : decode cX3_readHead 72 = .ok (.goto (-42), 3) := by decide +kernel
theorem dX3_readHead_75 : decode cX3_readHead 75 = .ok (.aload_n 3, 1) := by decide +kernel
theorem dX3_readHead_76 : decode cX3_readHead 76 = .ok (.aload_n 0, 1) := by decide +kernel
theorem dX3_readHead_77 : decode cX3_readHead 77 = .ok (.getfield 14, 3) := by decide +kernel
theorem dX3_readHead_80 : decode cX3_readHead 80 = .ok (.iload 4, 2) := by decide +kernel
theorem dX3_readHead_82 : decode cX3_readHead 82 = .ok (.bipush 10, 2) := by decide +kernel
theorem dX3_readHead_84 : decode cX3_readHead 84 = .ok (.iadd, 1) := by decide +kernel
theorem dX3_readHead_85 : decode cX3_readHead 85 = .ok (.iconst 3, 1) := by decide +kernel
theorem dX3_readHead_86 : decode cX3_readHead 86 = .ok (.invokevirtual 55, 3) := by decide +kernel
theorem dX3_readHead_89 : decode cX3_readHead 89 = .ok (.putfield 92, 3) := by decide +kernel
theorem dX3_readHead_92 : decode cX3_readHead 92 = .ok (.aload_n 0, 1) := by decide +kernel
theorem dX3_readHead_93 : decode cX3_readHead 93 = .ok (.iconst 1, 1) := by decide +kernel
theorem dX3_readHead_94 : decode cX3_readHead 94 = .ok (.putfield 20, 3) := by decide +kernel
theorem dX3_readHead_97 : decode cX3_readHead 97 = .ok (.iconst 0, 1) := by decide +kernel
theorem dX3_readHead_98 : decode cX3_readHead 98 = .ok (.ireturn, 1) := by decide +kernel
theorem dX3_readMemory_0 : decode cX3_readMemory 0 = .ok (.aload_n 0, 1) := by decide +kernel
theorem dX3_readMemory_1 : decode cX3_readMemory 1 = .ok (.getfield 20, 3) := by decide +kernel
theorem dX3_readMemory_4 : decode cX3_readMemory 4 = .ok (.ifCond .ne 12, 3) := by decide +kernel
theorem dX3_readMemory_7 : decode cX3_readMemory 7 = .ok (.iconst 5, 1) := by decide +kernel
theorem dX3_readMemory_8 : decode cX3_readMemory 8 = .ok (.aload_n 0, 1) := by decide +kernel
theorem dX3_readMemory_9 : decode cX3_readMemory 9 = .ok (.getfield 30, 3) := by decide +kernel
theorem dX3_readMemory_12 : decode cX3_readMemory 12 = .ok (.invokestatic 63, 3) := by decide +kernel
theorem dX3_readMemory_15 : decode cX3_readMemory 15 = .ok (.ireturn, 1) := by decide +kernel
theorem dX3_readMemory_16 : decode cX3_readMemory 16 = .ok (.aload_n 0, 1) := by decide +kernel
theorem dX3_readMemory_17 : decode cX3_readMemory 17 = .ok (.iconst 1, 1) := by decide +kernel
theorem dX3_readMemory_18 : decode cX3_readMemory 18 = .ok (.putfield 24, 3) := by decide +kernel
theorem dX3_readMemory_21 : decode cX3_readMemory 21 = .ok (.aload_n 0, 1) := by decide +kernel
theorem dX3_readMemory_22 : decode cX3_readMemory 22 = .ok (.getfield 30, 3) := by decide +kernel
theorem dX3_readMemory_25 : decode cX3_readMemory 25 = .ok (.bipush 8, 2) := by decide +kernel
theorem dX3_readMemory_27 : decode cX3_readMemory 27 = .ok (.iadd, 1) := by decide +kernel
theorem dX3_readMemory_28 : decode cX3_readMemory 28 = .ok (.istore 4, 2) := by decide +kernel
theorem dX3_readMemory_30 : decode cX3_readMemory 30 = .ok (.iload_n 1, 1) := by decide +kernel
theorem dX3_readMemory_31 : decode cX3_readMemory 31 = .ok (.ldc 95, 2) := by decide +kernel
theorem dX3_readMemory_33 : decode cX3_readMemory 33 = .ok (.if_icmp .ne 18, 3) := by decide +kernel
theorem dX3_readMemory_36 : decode cX3_readMemory 36 = .ok (.aload_n 3, 1) := by decide +kernel
theorem dX3_readMemory_37 : decode cX3_readMemory 37 = .ok (.aload_n 0, 1) := by decide +kernel
theorem dX3_readMemory_38 : decode cX3_readMemory 38 = .ok (.getfield 14, 3) := by decide +kernel
theorem dX3_readMemory_41 : decode cX3_readMemory 41 = .ok (.iload 4, 2) := by decide +kernel
theorem dX3_readMemory_43 : decode cX3_readMemory 43 = .ok (.iload 4, 2) := by decide +kernel
theorem dX3_readMemory_45 : decode cX3_readMemory 45 = .ok (.iload_n 2, 1) := by decide +kernel
theorem dX3_readMemory_46 : decode cX3_readMemory 46 = .ok (.iadd, 1) := by decide +kernel
theorem dX3_readMemory_47 : decode cX3_readMemory 47 = .ok (.invokevirtual 96, 3) := by decide +kernel
theorem dX3_readMemory_50 : decode cX3_readMemory 50 = .ok (.ireturn, 1) := by decide +kernel
theorem dX3_readMemory_51 : decode cX3_readMemory 51 = .ok (.iload_n 2, 1) := by decide +kernel
theorem dX3_readMemory_52 : decode cX3_readMemory 52 = .ok (.aload_n 3, 1) := by decide +kernel
theorem dX3_readMemory_53 : decode cX3_readMemory 53 = .ok (.getfield 99, 3) := by decide +kernel
theorem dX3_readMemory_56 : decode cX3_readMemory 56 = .ok (.if_icmp .eq 15, 3) := by decide +kernel
theorem dX3_readMemory_59 : decode cX3_readMemory 59 = .ok (.bipush 7, 2) := by decide +kernel
theorem dX3_readMemory_61 : decode cX3_readMemory 61 = .ok (.aload_n 0, 1) := by decide +kernel
theorem dX3_readMemory_62 : decode cX3_readMemory 62 = .ok (.getfield 30, 3) := by decide +kernel
theorem dX3_readMemory_65 : decode cX3_readMemory 65 = .ok (.iconst 4, 1) := by decide +kernel
theorem dX3_readMemory_66 : decode cX3_readMemory 66 = .ok (.iadd, 1) := by decide +kernel
theorem dX3_readMemory_67 : decode cX3_readMemory 67 = .ok (.invokestatic 63, 3) := by decide +kernel
theorem dX3_readMemory_70 : decode cX3_readMemory 70 = .ok (.ireturn, 1) := by decide +kernel
theorem dX3_readMemory_71 : decode cX3_readMemory 71 = .ok (.aload_n 3, 1) := by decide +kernel
theorem dX3_readMemory_72 : decode cX3_readMemory 72 = .ok (.aload_n 0, 1) := by decide +kernel
theorem dX3_readMemory_73 : decode cX3_readMemory 73 = .ok (.getfield 14, 3) := by decide +kernel
theorem dX3_readMemory_76 : decode cX3_readMemory 76 = .ok (.iload 4, 2) := by decide +kernel
theorem dX3_readMemory_78 : decode cX3_readMemory 78 = .ok (.invokevirtual 100, 3) := by decide +kernel
theorem dX3_readMemory_81 : decode cX3_readMemory 81 = .ok (.iconst 0, 1) := by decide +kernel
theorem dX3_readMemory_82 : decode cX3_readMemory 82 = .ok (.ireturn, 1) := by decide +kernel
theorem dX4_init_0 : decode cX4_init 0 = .ok (.aload_n 0, 1) := by decide +kernel
theorem dX4_init_1 : decode cX4_init 1 = .ok (.invokespecial 3, 3) := by decide +kernel
theorem dX4_init_4 : decode cX4_init 4 = .ok (.aload_n 0, 1) := by decide +kernel
theorem dX4_init_5 : decode cX4_init 5 = .ok (.sipush 1000, 3) := by decide +kernel
theorem dX4_init_8 : decode cX4_init 8 = .ok (.newarray .int, 2) := by decide +kernel
theorem dX4_init_10 : decode cX4_init 10 = .ok (.putfield 9, 3) := by decide +kernel
theorem dX4_init_13 : decode cX4_init 13 = .ok (.aload_n 0, 1) := by decide +kernel
theorem dX4_init_14 : decode cX4_init 14 = .ok (.bipush 20, 2) := by decide +kernel
theorem dX4_init_16 : decode cX4_init 16 = .ok (.anewarray 15, 3) := by decide +kernel
theorem dX4_init_19 : decode cX4_init 19 = .ok (.putfield 17, 3) := by decide +kernel
theorem dX4_init_22 : decode cX4_init 22 = .ok (.aload_n 0, 1) := by decide +kernel
theorem dX4_init_23 : decode cX4_init 23 = .ok (.iconst 0, 1) := by decide +kernel
theorem dX4_init_24 : decode cX4_init 24 = .ok (.putfield 21, 3) := by decide +kernel
theorem dX4_init_27 : decode cX4_init 27 = .ok (.aload_n 0, 1) := by decide +kernel
theorem dX4_init_28 : decode cX4_init 28 = .ok (.iconst 0, 1) := by decide +kernel
theorem dX4_init_29 : decode cX4_init 29 = .ok (.putfield 25, 3) := by decide +kernel
theorem dX4_init_32 : decode cX4_init 32 = .ok (.aload_n 0, 1) := by decide +kernel
theorem dX4_init_33 : decode cX4_init 33 = .ok (.iconst 0, 1) := by decide +kernel
theorem dX4_init_34 : decode cX4_init 34 = .ok (.putfield 28, 3) := by decide +kernel
theorem dX4_init_37 : decode cX4_init 37 = .ok (.iconst 0, 1) := by decide +kernel
theorem dX4_init_38 : decode cX4_init 38 = .ok (.istore_n 1, 1) := by decide +kernel
theorem dX4_init_39 : decode cX4_init 39 = .ok (.iload_n 1, 1) := by decide +kernel
theorem dX4_init_40 : decode cX4_init 40 = .ok (.bipush 20, 2) := by decide +kernel
theorem dX4_init_42 : decode cX4_init 42 = .ok (.if_icmp .ge 22, 3) := by decide +kernel
theorem dX4_init_45 : decode cX4_init 45 = .ok (.aload_n 0, 1) := by decide +kernel
theorem dX4_init_46 : decode cX4_init 46 = .ok (.getfield 17, 3) := by decide +kernel
theorem dX4_init_49 : decode cX4_init 49 = .ok (.iload_n 1, 1) := by decide +kernel
theorem dX4_init_50 : decode cX4_init 50 = .ok (.new 15, 3) := by decide +kernel
theorem dX4_init_53 : decode cX4_init 53 = .ok (.dup, 1) := by decide +kernel
theorem dX4_init_54 : decode cX4_init 54 = .ok (.invokespecial 31, 3) := by decide +kernel
theorem dX4_init_57 : decode cX4_init 57 = .ok (.aastore, 1) := by decide +kernel
theorem dX4_init_58 : decode cX4_init 58 = .ok (.iinc 1 1, 3) := by decide +kernel
theorem dX4_init_61 : decode cX4_init 61 = .ok (.goto (-22), 3) := by decide +kernel
theorem dX4_init_64 : decode cX4_init 64 = .ok (.return_, 1) := by decide +kernel
theorem dX4_begin_0 : decode cX4_begin 0 = .ok (.aload_n 0, 1) := by decide +kernel
theorem dX4_begin_1 : decode cX4_begin 1 = .ok (.aload_n 1, 1) := by decide +kernel
theorem dX4_begin_2 : decode cX4_begin 2 = .ok (.getfield 32, 3) := by decide +kernel
theorem dX4_begin_5 : decode cX4_begin 5 = .ok (.putfield 21, 3) := by decide +kernel
theorem dX4_begin_8 : decode cX4_begin 8 = .ok (.iconst 0, 1) := by decide +kernel
theorem dX4_begin_9 : decode cX4_begin 9 = .ok (.istore_n 2, 1) := by decide +kernel
theorem dX4_begin_10 : decode cX4_begin 10 = .ok (.iload_n 2, 1) := by decide +kernel
theorem dX4_begin_11 : decode cX4_begin 11 = .ok (.aload_n 0, 1) := by decide +kernel
theorem dX4_begin_12 : decode cX4_begin 12 = .ok (.getfield 21, 3) := by decide +kernel
theorem dX4_begin_15 : decode cX4_begin 15 = .ok (.if_icmp .ge 19, 3) := by decide +kernel
theorem dX4_begin_18 : decode cX4_begin 18 = .ok (.aload_n 0, 1) := by decide +kernel
theorem dX4_begin_19 : decode cX4_begin 19 = .ok (.iload_n 2, 1) := by decide +kernel
theorem dX4_begin_20 : decode cX4_begin 20 = .ok (.aload_n 1, 1) := by decide +kernel
theorem dX4_begin_21 : decode cX4_begin 21 = .ok (.iload_n 2, 1) := by decide +kernel
theorem dX4_begin_22 : decode cX4_begin 22 = .ok (.invokevirtual 35, 3) := by decide +kernel
theorem dX4_begin_25 : decode cX4_begin 25 = .ok (.invokevirtual 39, 3) := by decide +kernel
theorem dX4_begin_28 : decode cX4_begin 28 = .ok (.iinc 2 1, 3) := by decide +kernel
theorem dX4_begin_31 : decode cX4_begin 31 = .ok (.goto (-21), 3) := by decide +kernel
theorem dX4_begin_34 : decode cX4_begin 34 = .ok (.aload_n 0, 1) := by decide +kernel
theorem dX4_begin_35 : decode cX4_begin 35 = .ok (.iconst 0, 1) := by decide +kernel
theorem dX4_begin_36 : decode cX4_begin 36 = .ok (.putfield 25, 3) := by decide +kernel
theorem dX4_begin_39 : decode cX4_begin 39 = .ok (.aload_n 0, 1) := by decide +kernel
theorem dX4_begin_40 : decode cX4_begin 40 = .ok (.iconst 0, 1) := by decide +kernel
theorem dX4_begin_41 : decode cX4_begin 41 = .ok (.putfield 28, 3) := by decide +kernel
theorem dX4_begin_44 : decode cX4_begin 44 = .ok (.aload_n 0, 1) := by decide +kernel
theorem dX4_begin_45 : decode cX4_begin 45 = .ok (.iconst 0, 1) := by decide +kernel
theorem dX4_begin_46 : decode cX4_begin 46 = .ok (.iconst 0, 1) := by decide +kernel
theorem dX4_begin_47 : decode cX4_begin 47 = .ok (.iconst 0, 1) := by decide +kernel
theorem dX4_begin_48 : decode cX4_begin 48 = .ok (.iconst 0, 1) := by decide +kernel
theorem dX4_begin_49 : decode cX4_begin 49 = .ok (.invokevirtual 43, 3) := by decide +kernel
theorem dX4_begin_52 : decode cX4_begin 52 = .ok (.return_, 1) := by decide +kernel
theorem dX4_byteAt_0 : decode cX4_byteAt 0 = .ok (.iload_n 1, 1) := by decide +kernel
theorem dX4_byteAt_1 : decode cX4_byteAt 1 = .ok (.ifCond .lt 29, 3) := by decide +kernel
theorem dX4_byteAt_4 : decode cX4_byteAt 4 = .ok (.iload_n 1, 1) := by decide +kernel
theorem dX4_byteAt_5 : decode cX4_byteAt 5 = .ok (.aload_n 0, 1) := by decide +kernel
theorem dX4_byteAt_6 : decode cX4_byteAt 6 = .ok (.getfield 21, 3) := by decide +kernel
theorem dX4_byteAt_9 : decode cX4_byteAt 9 = .ok (.if_icmp .ge 21, 3) := by decide +kernel
theorem dX4_byteAt_12 : decode cX4_byteAt 12 = .ok (.iload_n 1, 1) := by decide +kernel
theorem dX4_byteAt_13 : decode cX4_byteAt 13 = .ok (.aload_n 0, 1) := by decide +kernel
theorem dX4_byteAt_14 : decode cX4_byteAt 14 = .ok (.getfield 9, 3) := by decide +kernel
theorem dX4_byteAt_17 : decode cX4_byteAt 17 = .ok (.arraylength, 1) := by decide +kernel
theorem dX4_byteAt_18 : decode cX4_byteAt 18 = .ok (.if_icmp .ge 12, 3) := by decide +kernel
theorem dX4_byteAt_21 : decode cX4_byteAt 21 = .ok (.aload_n 0, 1) := by decide +kernel
theorem dX4_byteAt_22 : decode cX4_byteAt 22 = .ok (.getfield 9, 3) := by decide +kernel
theorem dX4_byteAt_25 : decode cX4_byteAt 25 = .ok (.iload_n 1, 1) := by decide +kernel
theorem dX4_byteAt_26 : decode cX4_byteAt 26 = .ok (.iaload, 1) := by decide +kernel
theorem dX4_byteAt_27 : decode cX4_byteAt 27 = .ok (.goto 4, 3) := by decide +kernel
theorem dX4_byteAt_30 : decode cX4_byteAt 30 = .ok (.iconst 0, 1) := by decide +kernel
theorem dX4_byteAt_31 : decode cX4_byteAt 31 = .ok (.ireturn, 1) := by decide +kernel
theorem dX4_setByte_0 : decode cX4_setByte 0 = .ok (.iload_n 1, 1) := by decide +kernel
theorem dX4_setByte_1 : decode cX4_setByte 1 = .ok (.ifCond .lt 27, 3) := by decide +kernel
theorem dX4_setByte_4 : decode cX4_setByte 4 = .ok (.iload_n 1, 1) := by decide +kernel
theorem dX4_setByte_5 : decode cX4_setByte 5 = .ok (.aload_n 0, 1) := by decide +kernel
theorem dX4_setByte_6 : decode cX4_setByte 6 = .ok (.getfield 21, 3) := by decide +kernel
theorem dX4_setByte_9 : decode cX4_setByte 9 = .ok (.if_icmp .ge 19, 3) := by decide +kernel
theorem dX4_setByte_12 : decode cX4_setByte 12 = .ok (.iload_n 1, 1) := by decide +kernel
theorem dX4_setByte_13 : decode cX4_setByte 13 = .ok (.aload_n 0, 1) := by decide +kernel
theorem dX4_setByte_14 : decode cX4_setByte 14 = .ok (.getfield 9, 3) := by decide +kernel
theorem dX4_setByte_17 : decode cX4_setByte 17 = .ok (.arraylength, 1) := by decide +kernel
theorem dX4_setByte_18 : decode cX4_setByte 18 = .ok (.if_icmp .ge 10, 3) := by decide +kernel
theorem dX4_setByte_21 : decode cX4_setByte 21 = .ok (.aload_n 0, 1) := by decide +kernel
theorem dX4_setByte_22 : decode cX4_setByte 22 = .ok (.getfield 9, 3) := by decide +kernel
theorem dX4_setByte_25 : decode cX4_setByte 25 = .ok (.iload_n 1, 1) := by decide +kernel
theorem dX4_setByte_26 : decode cX4_setByte 26 = .ok (.iload_n 2, 1) := by decide +kernel
theorem dX4_setByte_27 : decode cX4_setByte 27 = .ok (.iastore, 1) := by decide +kernel
theorem dX4_setByte_28 : decode cX4_setByte 28 = .ok (.return_, 1) := by decide +kernel
theorem dX4_bits_0 : decode cX4_bits 0 = .ok (.aload_n 0, 1) := by decide +kernel
theorem dX4_bits_1 : decode cX4_bits 1 = .ok (.bipush 17, 2) := by decide +kernel
theorem dX4_bits_3 : decode cX4_bits 3 = .ok (.invokevirtual 47, 3) := by decide +kernel
theorem dX4_bits_6 : decode cX4_bits 6 = .ok (.iconst 3, 1) := by decide +kernel
theorem dX4_bits_7 : decode cX4_bits 7 = .ok (.iand, 1) := by decide +kernel
theorem dX4_bits_8 : decode cX4_bits 8 = .ok (.ireturn, 1) := by decide +kernel
theorem dX4_setBits_0 : decode cX4_setBits 0 = .ok (.aload_n 0, 1) := by decide +kernel
theorem dX4_setBits_1 : decode cX4_setBits 1 = .ok (.bipush 17, 2) := by decide +kernel
theorem dX4_setBits_3 : decode cX4_setBits 3 = .ok (.aload_n 0, 1) := by decide +kernel
theorem dX4_setBits_4 : decode cX4_setBits 4 = .ok (.bipush 17, 2) := by decide +kernel
theorem dX4_setBits_6 : decode cX4_setBits 6 = .ok (.invokevirtual 47, 3) := by decide +kernel
theorem dX4_setBits_9 : decode cX4_setBits 9 = .ok (.bipush (-4), 2) := by decide +kernel
theorem dX4_setBits_11 : decode cX4_setBits 11 = .ok (.iand, 1) := by decide +kernel
theorem dX4_setBits_12 : decode cX4_setBits 12 = .ok (.iload_n 1, 1) := by decide +kernel
theorem dX4_setBits_13 : decode cX4_setBits 13 = .ok (.iconst 3, 1) := by decide +kernel
theorem dX4_setBits_14 : decode cX4_setBits 14 = .ok (.iand, 1) := by decide +kernel
theorem dX4_setBits_15 : decode cX4_setBits 15 = .ok (.ior, 1) := by decide +kernel
theorem dX4_setBits_16 : decode cX4_setBits 16 = .ok (.invokevirtual 39, 3) := by decide +kernel
theorem dX4_setBits_19 : decode cX4_setBits 19 = .ok (.return_, 1) := by decide +kernel
theorem dX4_frameAt_0 : decode cX4_frameAt 0 = .ok (.iload_n 1, 1) := by decide +kernel
theorem dX4_frameAt_1 : decode cX4_frameAt 1 = .ok (.ifCond .lt 29, 3) := by decide +kernel
theorem dX4_frameAt_4 : decode cX4_frameAt 4 = .ok (.iload_n 1, 1) := by decide +kernel
theorem dX4_frameAt_5 : decode cX4_frameAt 5 = .ok (.aload_n 0, 1) := by decide +kernel
theorem dX4_frameAt_6 : decode cX4_frameAt 6 = .ok (.getfield 28, 3) := by decide +kernel
theorem dX4_frameAt_9 : decode cX4_frameAt 9 = .ok (.if_icmp .ge 21, 3) := by decide +kernel
theorem dX4_frameAt_12 : decode cX4_frameAt 12 = .ok (.iload_n 1, 1) := by decide +kernel
theorem dX4_frameAt_13 : decode cX4_frameAt 13 = .ok (.aload_n 0, 1) := by decide +kernel
theorem dX4_frameAt_14 : decode cX4_frameAt 14 = .ok (.getfield 17, 3) := by decide +kernel
theorem dX4_frameAt_17 : decode cX4_frameAt 17 = .ok (.arraylength, 1) := by decide +kernel
theorem dX4_frameAt_18 : decode cX4_frameAt 18 = .ok (.if_icmp .ge 12, 3) := by decide +kernel
theorem dX4_frameAt_21 : decode cX4_frameAt 21 = .ok (.aload_n 0, 1) := by decide +kernel
theorem dX4_frameAt_22 : decode cX4_frameAt 22 = .ok (.getfield 17, 3) := by decide +kernel
theorem dX4_frameAt_25 : decode cX4_frameAt 25 = .ok (.iload_n 1, 1) := by decide +kernel
theorem dX4_frameAt_26 : decode cX4_frameAt 26 = .ok (.aaload, 1) := by decide +kernel
theorem dX4_frameAt_27 : decode cX4_frameAt 27 = .ok (.goto 4, 3) := by decide +kernel
theorem dX4_frameAt_30 : decode cX4_frameAt 30 = .ok (.aconst_null, 1) := by decide +kernel
theorem dX4_frameAt_31 : decode cX4_frameAt 31 = .ok (.areturn, 1) := by decide +kernel
theorem dX4_newest_0 : decode cX4_newest 0 = .ok (.aload_n 0, 1) := by decide +kernel
theorem dX4_newest_1 : decode cX4_newest 1 = .ok (.aload_n 0, 1) := by decide +kernel
theorem dX4_newest_2 : decode cX4_newest 2 = .ok (.getfield 28, 3) := by decide +kernel
theorem dX4_newest_5 : decode cX4_newest 5 = .ok (.iconst 1, 1) := by decide +kernel
theorem dX4_newest_6 : decode cX4_newest 6 = .ok (.isub, 1) := by decide +kernel
theorem dX4_newest_7 : decode cX4_newest 7 = .ok (.invokevirtual 48, 3) := by decide +kernel
theorem dX4_newest_10 : decode cX4_newest 10 = .ok (.areturn, 1) := by decide +kernel
theorem dX4_addFrame_0 : decode cX4_addFrame 0 = .ok (.aload_n 0, 1) := by decide +kernel
theorem dX4_addFrame_1 : decode cX4_addFrame 1 = .ok (.getfield 28, 3) := by decide +kernel
theorem dX4_addFrame_4 : decode cX4_addFrame 4 = .ok (.ifCond .lt 27, 3) := by decide +kernel
theorem dX4_addFrame_7 : decode cX4_addFrame 7 = .ok (.aload_n 0, 1) := by decide +kernel
theorem dX4_addFrame_8 : decode cX4_addFrame 8 = .ok (.getfield 28, 3) := by decide +kernel
theorem dX4_addFrame_11 : decode cX4_addFrame 11 = .ok (.aload_n 0, 1) := by decide +kernel
theorem dX4_addFrame_12 : decode cX4_addFrame 12 = .ok (.getfield 17, 3) := by decide +kernel
theorem dX4_addFrame_15 : decode cX4_addFrame 15 = .ok (.arraylength, 1) := by decide +kernel
theorem dX4_addFrame_16 : decode cX4_addFrame 16 = .ok (.if_icmp .ge 15, 3) := by decide +kernel
theorem dX4_addFrame_19 : decode cX4_addFrame 19 = .ok (.aload_n 0, 1) := by decide +kernel
theorem dX4_addFrame_20 : decode cX4_addFrame 20 = .ok (.getfield 17, 3) := by decide +kernel
theorem dX4_addFrame_23 : decode cX4_addFrame 23 = .ok (.aload_n 0, 1) := by decide +kernel
theorem dX4_addFrame_24 : decode cX4_addFrame 24 = .ok (.getfield 28, 3) := by decide +kernel
theorem dX4_addFrame_27 : decode cX4_addFrame 27 = .ok (.aaload, 1) := by decide +kernel
theorem dX4_addFrame_28 : decode cX4_addFrame 28 = .ok (.goto 4, 3) := by decide +kernel
theorem dX4_addFrame_31 : decode cX4_addFrame 31 = .ok (.aconst_null, 1) := by decide +kernel
theorem dX4_addFrame_32 : decode cX4_addFrame 32 = .ok (.astore 5, 2) := by decide +kernel
theorem dX4_addFrame_34 : decode cX4_addFrame 34 = .ok (.aload 5, 2) := by decide +kernel
theorem dX4_addFrame_36 : decode cX4_addFrame 36 = .ok (.ifnull 23, 3) := by decide +kernel
theorem dX4_addFrame_39 : decode cX4_addFrame 39 = .ok (.aload 5, 2) := by decide +kernel
theorem dX4_addFrame_41 : decode cX4_addFrame 41 = .ok (.iload_n 1, 1) := by decide +kernel
theorem dX4_addFrame_42 : decode cX4_addFrame 42 = .ok (.iload_n 2, 1) := by decide +kernel
theorem dX4_addFrame_43 : decode cX4_addFrame 43 = .ok (.iload_n 3, 1) := by decide +kernel
theorem dX4_addFrame_44 : decode cX4_addFrame 44 = .ok (.iload 4, 2) := by decide +kernel
theorem dX4_addFrame_46 : decode cX4_addFrame 46 = .ok (.invokevirtual 52, 3) := by decide +kernel
theorem dX4_addFrame_49 : decode cX4_addFrame 49 = .ok (.aload_n 0, 1) := by decide +kernel
theorem dX4_addFrame_50 : decode cX4_addFrame 50 = .ok (.dup, 1) := by decide +kernel
theorem dX4_addFrame_51 : decode cX4_addFrame 51 = .ok (.getfield 28, 3) := by decide +kernel
theorem dX4_addFrame_54 : decode cX4_addFrame 54 = .ok (.iconst 1, 1) := by decide +kernel
theorem dX4_addFrame_55 : decode cX4_addFrame 55 = .ok (.iadd, 1) := by decide +kernel
theorem dX4_addFrame_56 : decode cX4_addFrame 56 = .ok (.putfield 28, 3) := by decide +kernel
theorem dX4_addFrame_59 : decode cX4_addFrame 59 = .ok (.return_, 1) := by decide +kernel
theorem dX4_tellMemory_0 : decode cX4_tellMemory 0 = .ok (.iconst 0, 1) := by decide +kernel
theorem dX4_tellMemory_1 : decode cX4_tellMemory 1 = .ok (.istore_n 2, 1) := by decide +kernel
theorem dX4_tellMemory_2 : decode cX4_tellMemory 2 = .ok (.iload_n 2, 1) := by decide +kernel
theorem dX4_tellMemory_3 : decode cX4_tellMemory 3 = .ok (.aload_n 0, 1) := by decide +kernel
theorem dX4_tellMemory_4 : decode cX4_tellMemory 4 = .ok (.getfield 21, 3) := by decide +kernel
theorem dX4_tellMemory_7 : decode cX4_tellMemory 7 = .ok (.if_icmp .ge 18, 3) := by decide +kernel
theorem dX4_tellMemory_10 : decode cX4_tellMemory 10 = .ok (.aload_n 1, 1) := by decide +kernel
theorem dX4_tellMemory_11 : decode cX4_tellMemory 11 = .ok (.aload_n 0, 1) := by decide +kernel
theorem dX4_tellMemory_12 : decode cX4_tellMemory 12 = .ok (.iload_n 2, 1) := by decide +kernel
theorem dX4_tellMemory_13 : decode cX4_tellMemory 13 = .ok (.invokevirtual 47, 3) := by decide +kernel
theorem dX4_tellMemory_16 : decode cX4_tellMemory 16 = .ok (.invokevirtual 55, 3) := by decide +kernel
theorem dX4_tellMemory_19 : decode cX4_tellMemory 19 = .ok (.iinc 2 1, 3) := by decide +kernel
theorem dX4_tellMemory_22 : decode cX4_tellMemory 22 = .ok (.goto (-20), 3) := by decide +kernel
theorem dX4_tellMemory_25 : decode cX4_tellMemory 25 = .ok (.return_, 1) := by decide +kernel
theorem dX4_tellRuns_0 : decode cX4_tellRuns 0 = .ok (.iconst 0, 1) := by decide +kernel
theorem dX4_tellRuns_1 : decode cX4_tellRuns 1 = .ok (.istore_n 3, 1) := by decide +kernel
theorem dX4_tellRuns_2 : decode cX4_tellRuns 2 = .ok (.iconst 0, 1) := by decide +kernel
theorem dX4_tellRuns_3 : decode cX4_tellRuns 3 = .ok (.istore 4, 2) := by decide +kernel
theorem dX4_tellRuns_5 : decode cX4_tellRuns 5 = .ok (.iload 4, 2) := by decide +kernel
theorem dX4_tellRuns_7 : decode cX4_tellRuns 7 = .ok (.aload_n 0, 1) := by decide +kernel
theorem dX4_tellRuns_8 : decode cX4_tellRuns 8 = .ok (.getfield 21, 3) := by decide +kernel
theorem dX4_tellRuns_11 : decode cX4_tellRuns 11 = .ok (.if_icmp .ge 48, 3) := by decide +kernel
theorem dX4_tellRuns_14 : decode cX4_tellRuns 14 = .ok (.aload_n 0, 1) := by decide +kernel
theorem dX4_tellRuns_15 : decode cX4_tellRuns 15 = .ok (.iload 4, 2) := by decide +kernel
theorem dX4_tellRuns_17 : decode cX4_tellRuns 17 = .ok (.invokevirtual 47, 3) := by decide +kernel
theorem dX4_tellRuns_20 : decode cX4_tellRuns 20 = .ok (.aload_n 1, 1) := by decide +kernel
theorem dX4_tellRuns_21 : decode cX4_tellRuns 21 = .ok (.iload 4, 2) := by decide +kernel
theorem dX4_tellRuns_23 : decode cX4_tellRuns 23 = .ok (.invokevirtual 35, 3) := by decide +kernel
theorem dX4_tellRuns_26 : decode cX4_tellRuns 26 = .ok (.ixor, 1) := by decide +kernel
theorem dX4_tellRuns_27 : decode cX4_tellRuns 27 = .ok (.istore 5, 2) := by decide +kernel
theorem dX4_tellRuns_29 : decode cX4_tellRuns 29 = .ok (.iload 5, 2) := by decide +kernel
theorem dX4_tellRuns_31 : decode cX4_tellRuns 31 = .ok (.ifCond .ne 9, 3) := by decide +kernel
theorem dX4_tellRuns_34 : decode cX4_tellRuns 34 = .ok (.iinc 3 1, 3) := by decide +kernel
theorem dX4_tellRuns_37 : decode cX4_tellRuns 37 = .ok (.goto 16, 3) := by decide +kernel
theorem dX4_tellRuns_40 : decode cX4_tellRuns 40 = .ok (.iload_n 3, 1) := by decide +kernel
theorem dX4_tellRuns_41 : decode cX4_tellRuns 41 = .ok (.aload_n 2, 1) := by decide +kernel
theorem dX4_tellRuns_42 : decode cX4_tellRuns 42 = .ok (.invokestatic 61, 3) := by decide +kernel
theorem dX4_tellRuns_45 : decode cX4_tellRuns 45 = .ok (.aload_n 2, 1) := by decide +kernel
theorem dX4_tellRuns_46 : decode cX4_tellRuns 46 = .ok (.iload 5, 2) := by decide +kernel
theorem dX4_tellRuns_48 : decode cX4_tellRuns 48 = .ok (.invokevirtual 55, 3) := by decide +kernel
theorem dX4_tellRuns_51 : decode cX4_tellRuns 51 = .ok (.iconst 0, 1) := by decide +kernel
theorem dX4_tellRuns_52 : decode cX4_tellRuns 52 = .ok (.istore_n 3, 1) := by decide +kernel
theorem dX4_tellRuns_53 : decode cX4_tellRuns 53 = .ok (.iinc 4 1, 3) := by decide +kernel
theorem dX4_tellRuns_56 : decode cX4_tellRuns 56 = .ok (.goto (-51), 3) := by decide +kernel
theorem dX4_tellRuns_59 : decode cX4_tellRuns 59 = .ok (.return_, 1) := by decide +kernel
theorem dX4_tellZeros_0 : decode cX4_tellZeros 0 = .ok (.iload_n 0, 1) := by decide +kernel
theorem dX4_tellZeros_1 : decode cX4_tellZeros 1 = .ok (.istore_n 2, 1) := by decide +kernel
theorem dX4_tellZeros_2 : decode cX4_tellZeros 2 = .ok (.iload_n 2, 1) := by decide +kernel
theorem dX4_tellZeros_3 : decode cX4_tellZeros 3 = .ok (.ifCond .le 30, 3) := by decide +kernel
theorem dX4_tellZeros_6 : decode cX4_tellZeros 6 = .ok (.aload_n 1, 1) := by decide +kernel
theorem dX4_tellZeros_7 : decode cX4_tellZeros 7 = .ok (.iconst 0, 1) := by decide +kernel
theorem dX4_tellZeros_8 : decode cX4_tellZeros 8 = .ok (.invokevirtual 55, 3) := by decide +kernel
theorem dX4_tellZeros_11 : decode cX4_tellZeros 11 = .ok (.aload_n 1, 1) := by decide +kernel
theorem dX4_tellZeros_12 : decode cX4_tellZeros 12 = .ok (.iload_n 2, 1) := by decide +kernel
theorem dX4_tellZeros_13 : decode cX4_tellZeros 13 = .ok (.sipush 256, 3) := by decide +kernel
theorem dX4_tellZeros_16 : decode cX4_tellZeros 16 = .ok (.invokestatic 65, 3) := by decide +kernel
theorem dX4_tellZeros_19 : decode cX4_tellZeros 19 = .ok (.iconst 1, 1) := by decide +kernel
theorem dX4_tellZeros_20 : decode cX4_tellZeros 20 = .ok (.isub, 1) := by decide +kernel
theorem dX4_tellZeros_21 : decode cX4_tellZeros 21 = .ok (.invokevirtual 55, 3) := by decide +kernel
theorem dX4_tellZeros_24 : decode cX4_tellZeros 24 = .ok (.iinc 2 (-256), 6) := by decide +kernel
theorem dX4_tellZeros_30 : decode cX4_tellZeros 30 = .ok (.goto (-28), 3) := by decide +kernel
theorem dX4_tellZeros_33 : decode cX4_tellZeros 33 = .ok (.return_, 1) := by decide +kernel
theorem dX4_tellFrames_0 : decode cX4_tellFrames 0 = .ok (.iconst 0, 1) := by decide +kernel
theorem dX4_tellFrames_1 : decode cX4_tellFrames 1 = .ok (.istore_n 2, 1) := by decide +kernel
theorem dX4_tellFrames_2 : decode cX4_tellFrames 2 = .ok (.iload_n 2, 1) := by decide +kernel
theorem dX4_tellFrames_3 : decode cX4_tellFrames 3 = .ok (.aload_n 0, 1) := by decide +kernel
theorem dX4_tellFrames_4 : decode cX4_tellFrames 4 = .ok (.getfield 28, 3) := by decide +kernel
theorem dX4_tellFrames_7 : decode cX4_tellFrames 7 = .ok (.if_icmp .ge 24, 3) := by decide +kernel
theorem dX4_tellFrames_10 : decode cX4_tellFrames 10 = .ok (.aload_n 0, 1) := by decide +kernel
theorem dX4_tellFrames_11 : decode cX4_tellFrames 11 = .ok (.iload_n 2, 1) := by decide +kernel
theorem dX4_tellFrames_12 : decode cX4_tellFrames 12 = .ok (.invokevirtual 48, 3) := by decide +kernel
theorem dX4_tellFrames_15 : decode cX4_tellFrames 15 = .ok (.astore_n 3, 1) := by decide +kernel
theorem dX4_tellFrames_16 : decode cX4_tellFrames 16 = .ok (.aload_n 3, 1) := by decide +kernel
theorem dX4_tellFrames_17 : decode cX4_tellFrames 17 = .ok (.ifnull 8, 3) := by decide +kernel
theorem dX4_tellFrames_20 : decode cX4_tellFrames 20 = .ok (.aload_n 3, 1) := by decide +kernel
theorem dX4_tellFrames_21 : decode cX4_tellFrames 21 = .ok (.aload_n 1, 1) := by decide +kernel
theorem dX4_tellFrames_22 : decode cX4_tellFrames 22 = .ok (.invokevirtual 71, 3) := by decide +kernel
theorem dX4_tellFrames_25 : decode cX4_tellFrames 25 = .ok (.iinc 2 1, 3) := by decide +kernel
theorem dX4_tellFrames_28 : decode cX4_tellFrames 28 = .ok (.goto (-26), 3) := by decide +kernel
theorem dX4_tellFrames_31 : decode cX4_tellFrames 31 = .ok (.return_, 1) := by decide +kernel
theorem dX4_takeMemory_0 : decode cX4_takeMemory 0 = .ok (.iconst 0, 1) := by decide +kernel
theorem dX4_takeMemory_1 : decode cX4_takeMemory 1 = .ok (.istore_n 3, 1) := by decide +kernel
theorem dX4_takeMemory_2 : decode cX4_takeMemory 2 = .ok (.iload_n 3, 1) := by decide +kernel
theorem dX4_takeMemory_3 : decode cX4_takeMemory 3 = .ok (.aload_n 0, 1) := by decide +kernel
theorem dX4_takeMemory_4 : decode cX4_takeMemory 4 = .ok (.getfield 21, 3) := by decide +kernel
theorem dX4_takeMemory_7 : decode cX4_takeMemory 7 = .ok (.if_icmp .ge 21, 3) := by decide +kernel
theorem dX4_takeMemory_10 : decode cX4_takeMemory 10 = .ok (.aload_n 0, 1) := by decide +kernel
theorem dX4_takeMemory_11 : decode cX4_takeMemory 11 = .ok (.iload_n 3, 1) := by decide +kernel
theorem dX4_takeMemory_12 : decode cX4_takeMemory 12 = .ok (.aload_n 1, 1) := by decide +kernel
theorem dX4_takeMemory_13 : decode cX4_takeMemory 13 = .ok (.iload_n 2, 1) := by decide +kernel
theorem dX4_takeMemory_14 : decode cX4_takeMemory 14 = .ok (.iload_n 3, 1) := by decide +kernel
theorem dX4_takeMemory_15 : decode cX4_takeMemory 15 = .ok (.iadd, 1) := by decide +kernel
theorem dX4_takeMemory_16 : decode cX4_takeMemory 16 = .ok (.invokevirtual 75, 3) := by decide +kernel
theorem dX4_takeMemory_19 : decode cX4_takeMemory 19 = .ok (.invokevirtual 39, 3) := by decide +kernel
theorem dX4_takeMemory_22 : decode cX4_takeMemory 22 = .ok (.iinc 3 1, 3) := by decide +kernel
theorem dX4_takeMemory_25 : decode cX4_takeMemory 25 = .ok (.goto (-23), 3) := by decide +kernel
theorem dX4_takeMemory_28 : decode cX4_takeMemory 28 = .ok (.return_, 1) := by decide +kernel
theorem dX4_takeRuns_0 : decode cX4_takeRuns 0 = .ok (.iconst 0, 1) := by decide +kernel
theorem dX4_takeRuns_1 : decode cX4_takeRuns 1 = .ok (.istore 4, 2) := by decide +kernel
theorem dX4_takeRuns_3 : decode cX4_takeRuns 3 = .ok (.iload_n 2, 1) := by decide +kernel
theorem dX4_takeRuns_4 : decode cX4_takeRuns 4 = .ok (.istore 5, 2) := by decide +kernel
theorem dX4_takeRuns_6 : decode cX4_takeRuns 6 = .ok (.iload 5, 2) := by decide +kernel
theorem dX4_takeRuns_8 : decode cX4_takeRuns 8 = .ok (.iload_n 3, 1) := by decide +kernel
theorem dX4_takeRuns_9 : decode cX4_takeRuns 9 = .ok (.if_icmp .ge 114, 3) := by decide +kernel
theorem dX4_takeRuns_12 : decode cX4_takeRuns 12 = .ok (.aload_n 1, 1) := by decide +kernel
theorem dX4_takeRuns_13 : decode cX4_takeRuns 13 = .ok (.iload 5, 2) := by decide +kernel
theorem dX4_takeRuns_15 : decode cX4_takeRuns 15 = .ok (.invokevirtual 75, 3) := by decide +kernel
theorem dX4_takeRuns_18 : decode cX4_takeRuns 18 = .ok (.istore 6, 2) := by decide +kernel
theorem dX4_takeRuns_20 : decode cX4_takeRuns 20 = .ok (.iload 6, 2) := by decide +kernel
theorem dX4_takeRuns_22 : decode cX4_takeRuns 22 = .ok (.ifCond .ne 21, 3) := by decide +kernel
theorem dX4_takeRuns_25 : decode cX4_takeRuns 25 = .ok (.iload 5, 2) := by decide +kernel
theorem dX4_takeRuns_27 : decode cX4_takeRuns 27 = .ok (.iconst 1, 1) := by decide +kernel
theorem dX4_takeRuns_28 : decode cX4_takeRuns 28 = .ok (.iadd, 1) := by decide +kernel
theorem dX4_takeRuns_29 : decode cX4_takeRuns 29 = .ok (.iload_n 3, 1) := by decide +kernel
theorem dX4_takeRuns_30 : decode cX4_takeRuns 30 = .ok (.if_icmp .lt 13, 3) := by decide +kernel
theorem dX4_takeRuns_33 : decode cX4_takeRuns 33 = .ok (.bipush 7, 2) := by decide +kernel
theorem dX4_takeRuns_35 : decode cX4_takeRuns 35 = .ok (.iload 5, 2) := by decide +kernel
theorem dX4_takeRuns_37 : decode cX4_takeRuns 37 = .ok (.iconst 1, 1) := by decide +kernel
theorem dX4_takeRuns_38 : decode cX4_takeRuns 38 = .ok (.iadd, 1) := by decide +kernel
theorem dX4_takeRuns_39 : decode cX4_takeRuns 39 = .ok (.invokestatic 78, 3) := by decide +kernel
theorem dX4_takeRuns_42 : decode cX4_takeRuns 42 = .ok (.ireturn, 1) := by decide +kernel
theorem dX4_takeRuns_43 : decode cX4_takeRuns 43 = .ok (.iload 6, 2) := by decide +kernel
theorem dX4_takeRuns_45 : decode cX4_takeRuns 45 = .ok (.ifCond .ne 16, 3) := by decide +kernel
theorem dX4_takeRuns_48 : decode cX4_takeRuns 48 = .ok (.aload_n 1, 1) := by decide +kernel
theorem dX4_takeRuns_49 : decode cX4_takeRuns 49 = .ok (.iload 5, 2) := by decide +kernel
theorem dX4_takeRuns_51 : decode cX4_takeRuns 51 = .ok (.iconst 1, 1) := by decide +kernel
theorem dX4_takeRuns_52 : decode cX4_takeRuns 52 = .ok (.iadd, 1) := by decide +kernel
theorem dX4_takeRuns_53 : decode cX4_takeRuns 53 = .ok (.invokevirtual 75, 3) := by decide +kernel
theorem dX4_takeRuns_56 : decode cX4_takeRuns 56 = .ok (.iconst 1, 1) := by decide +kernel
theorem dX4_takeRuns_57 : decode cX4_takeRuns 57 = .ok (.iadd, 1) := by decide +kernel
theorem dX4_takeRuns_58 : decode cX4_takeRuns 58 = .ok (.goto 4, 3) := by decide +kernel
theorem dX4_takeRuns_61 : decode cX4_takeRuns 61 = .ok (.iconst 1, 1) := by decide +kernel
theorem dX4_takeRuns_62 : decode cX4_takeRuns 62 = .ok (.istore 7, 2) := by decide +kernel
theorem dX4_takeRuns_64 : decode cX4_takeRuns 64 = .ok (.iload 4, 2) := by decide +kernel
theorem dX4_takeRuns_66 : decode cX4_takeRuns 66 = .ok (.iload 7, 2) := by decide +kernel
theorem dX4_takeRuns_68 : decode cX4_takeRuns 68 = .ok (.iadd, 1) := by decide +kernel
theorem dX4_takeRuns_69 : decode cX4_takeRuns 69 = .ok (.aload_n 0, 1) := by decide +kernel
theorem dX4_takeRuns_70 : decode cX4_takeRuns 70 = .ok (.getfield 21, 3) := by decide +kernel
theorem dX4_takeRuns_73 : decode cX4_takeRuns 73 = .ok (.if_icmp .le 11, 3) := by decide +kernel
theorem dX4_takeRuns_76 : decode cX4_takeRuns 76 = .ok (.bipush 7, 2) := by decide +kernel
theorem dX4_takeRuns_78 : decode cX4_takeRuns 78 = .ok (.iload 5, 2) := by decide +kernel
theorem dX4_takeRuns_80 : decode cX4_takeRuns 80 = .ok (.invokestatic 78, 3) := by decide +kernel
theorem dX4_takeRuns_83 : decode cX4_takeRuns 83 = .ok (.ireturn, 1) := by decide +kernel
theorem dX4_takeRuns_84 : decode cX4_takeRuns 84 = .ok (.iload 6, 2) := by decide +kernel
theorem dX4_takeRuns_86 : decode cX4_takeRuns 86 = .ok (.ifCond .ne 9, 3) := by decide +kernel
theorem dX4_takeRuns_89 : decode cX4_takeRuns 89 = .ok (.iinc 5 1, 3) := by decide +kernel
theorem dX4_takeRuns_92 : decode cX4_takeRuns 92 = .ok (.goto 18, 3) := by decide +kernel
theorem dX4_takeRuns_95 : decode cX4_takeRuns 95 = .ok (.aload_n 0, 1) := by decide +kernel
theorem dX4_takeRuns_96 : decode cX4_takeRuns 96 = .ok (.iload 4, 2) := by decide +kernel
theorem dX4_takeRuns_98 : decode cX4_takeRuns 98 = .ok (.aload_n 0, 1) := by decide +kernel
theorem dX4_takeRuns_99 : decode cX4_takeRuns 99 = .ok (.iload 4, 2) := by decide +kernel
theorem dX4_takeRuns_101 : decode cX4_takeRuns 101 = .ok (.invokevirtual 47, 3) := by decide +kernel
theorem dX4_takeRuns_104 : decode cX4_takeRuns 104 = .ok (.iload 6, 2) := by decide +kernel
theorem dX4_takeRuns_106 : decode cX4_takeRuns 106 = .ok (.ixor, 1) := by decide +kernel
theorem dX4_takeRuns_107 : decode cX4_takeRuns 107 = .ok (.invokevirtual 39, 3) := by decide +kernel
theorem dX4_takeRuns_110 : decode cX4_takeRuns 110 = .ok (.iload 4, 2) := by decide +kernel
theorem dX4_takeRuns_112 : decode cX4_takeRuns 112 = .ok (.iload 7, 2) := by decide +kernel
theorem dX4_takeRuns_114 : decode cX4_takeRuns 114 = .ok (.iadd, 1) := by decide +kernel
theorem dX4_takeRuns_115 : decode cX4_takeRuns 115 = .ok (.istore 4, 2) := by decide +kernel
theorem dX4_takeRuns_117 : decode cX4_takeRuns 117 = .ok (.iinc 5 1, 3) := by decide +kernel
theorem dX4_takeRuns_120 : decode cX4_takeRuns 120 = .ok (.goto (-114), 3) := by decide +kernel
theorem dX4_takeRuns_123 : decode cX4_takeRuns 123 = .ok (.iconst 0, 1) := by decide +kernel
theorem dX4_takeRuns_124 : decode cX4_takeRuns 124 = .ok (.ireturn, 1) := by decide +kernel
theorem dX4_takeFrames_0 : decode cX4_takeFrames 0 = .ok (.aload_n 0, 1) := by decide +kernel
theorem dX4_takeFrames_1 : decode cX4_takeFrames 1 = .ok (.iconst 0, 1) := by decide +kernel
theorem dX4_takeFrames_2 : decode cX4_takeFrames 2 = .ok (.putfield 28, 3) := by decide +kernel
theorem dX4_takeFrames_5 : decode cX4_takeFrames 5 = .ok (.iload_n 2, 1) := by decide +kernel
theorem dX4_takeFrames_6 : decode cX4_takeFrames 6 = .ok (.istore 4, 2) := by decide +kernel
theorem dX4_takeFrames_8 : decode cX4_takeFrames 8 = .ok (.iconst 0, 1) := by decide +kernel
theorem dX4_takeFrames_9 : decode cX4_takeFrames 9 = .ok (.istore 5, 2) := by decide +kernel
theorem dX4_takeFrames_11 : decode cX4_takeFrames 11 = .ok (.iload 5, 2) := by decide +kernel
theorem dX4_takeFrames_13 : decode cX4_takeFrames 13 = .ok (.bipush 20, 2) := by decide +kernel
theorem dX4_takeFrames_15 : decode cX4_takeFrames 15 = .ok (.if_icmp .ge 49, 3) := by decide +kernel
theorem dX4_takeFrames_18 : decode cX4_takeFrames 18 = .ok (.iload 5, 2) := by decide +kernel
theorem dX4_takeFrames_20 : decode cX4_takeFrames 20 = .ok (.ifCond .le 11, 3) := by decide +kernel
theorem dX4_takeFrames_23 : decode cX4_takeFrames 23 = .ok (.iload 4, 2) := by decide +kernel
theorem dX4_takeFrames_25 : decode cX4_takeFrames 25 = .ok (.iload_n 3, 1) := by decide +kernel
theorem dX4_takeFrames_26 : decode cX4_takeFrames 26 = .ok (.if_icmp .lt 5, 3) := by decide +kernel
theorem dX4_takeFrames_29 : decode cX4_takeFrames 29 = .ok (.iconst 0, 1) := by decide +kernel
theorem dX4_takeFrames_30 : decode cX4_takeFrames 30 = .ok (.ireturn, 1) := by decide +kernel
theorem dX4_takeFrames_31 : decode cX4_takeFrames 31 = .ok (.aload_n 0, 1) := by decide +kernel
theorem dX4_takeFrames_32 : decode cX4_takeFrames 32 = .ok (.aload_n 1, 1) := by decide +kernel
theorem dX4_takeFrames_33 : decode cX4_takeFrames 33 = .ok (.iload 4, 2) := by decide +kernel
theorem dX4_takeFrames_35 : decode cX4_takeFrames 35 = .ok (.iload_n 3, 1) := by decide +kernel
theorem dX4_takeFrames_36 : decode cX4_takeFrames 36 = .ok (.invokevirtual 81, 3) := by decide +kernel
theorem dX4_takeFrames_39 : decode cX4_takeFrames 39 = .ok (.istore 6, 2) := by decide +kernel
theorem dX4_takeFrames_41 : decode cX4_takeFrames 41 = .ok (.iload 6, 2) := by decide +kernel
theorem dX4_takeFrames_43 : decode cX4_takeFrames 43 = .ok (.ifCond .eq 6, 3) := by decide +kernel
theorem dX4_takeFrames_46 : decode cX4_takeFrames 46 = .ok (.iload 6, 2) := by decide +kernel
theorem dX4_takeFrames_48 : decode cX4_takeFrames 48 = .ok (.ireturn, 1) := by decide +kernel
theorem dX4_takeFrames_49 : decode cX4_takeFrames 49 = .ok (.aload_n 0, 1) := by decide +kernel
theorem dX4_takeFrames_50 : decode cX4_takeFrames 50 = .ok (.aload_n 1, 1) := by decide +kernel
theorem dX4_takeFrames_51 : decode cX4_takeFrames 51 = .ok (.iload 4, 2) := by decide +kernel
theorem dX4_takeFrames_53 : decode cX4_takeFrames 53 = .ok (.invokevirtual 85, 3) := by decide +kernel
theorem dX4_takeFrames_56 : decode cX4_takeFrames 56 = .ok (.istore 4, 2) := by decide +kernel
theorem dX4_takeFrames_58 : decode cX4_takeFrames 58 = .ok (.iinc 5 1, 3) := by decide +kernel
theorem dX4_takeFrames_61 : decode cX4_takeFrames 61 = .ok (.goto (-50), 3) := by decide +kernel
theorem dX4_takeFrames_64 : decode cX4_takeFrames 64 = .ok (.iload 4, 2) := by decide +kernel
theorem dX4_takeFrames_66 : decode cX4_takeFrames 66 = .ok (.iload_n 3, 1) := by decide +kernel
theorem dX4_takeFrames_67 : decode cX4_takeFrames 67 = .ok (.if_icmp .ge 13, 3) := by decide +kernel
theorem dX4_takeFrames_70 : decode cX4_takeFrames 70 = .ok (.bipush 9, 2) := by decide +kernel
theorem dX4_takeFrames_72 : decode cX4_takeFrames 72 = .ok (.iload 4, 2) := by decide +kernel
theorem dX4_takeFrames_74 : decode cX4_takeFrames 74 = .ok (.invokestatic 78, 3) := by decide +kernel
theorem dX4_takeFrames_77 : decode cX4_takeFrames 77 = .ok (.goto 4, 3) := by decide +kernel
theorem dX4_takeFrames_80 : decode cX4_takeFrames 80 = .ok (.iconst 0, 1) := by decide +kernel
theorem dX4_takeFrames_81 : decode cX4_takeFrames 81 = .ok (.ireturn, 1) := by decide +kernel
theorem dX4_frameFault_0 : decode cX4_frameFault 0 = .ok (.iload_n 3, 1) := by decide +kernel
theorem dX4_frameFault_1 : decode cX4_frameFault 1 = .ok (.iload_n 2, 1) := by decide +kernel
theorem dX4_frameFault_2 : decode cX4_frameFault 2 = .ok (.isub, 1) := by decide +kernel
theorem dX4_frameFault_3 : decode cX4_frameFault 3 = .ok (.bipush 8, 2) := by decide +kernel
theorem dX4_frameFault_5 : decode cX4_frameFault 5 = .ok (.if_icmp .ge 10, 3) := by decide +kernel
theorem dX4_frameFault_8 : decode cX4_frameFault 8 = .ok (.bipush 8, 2) := by decide +kernel
theorem dX4_frameFault_10 : decode cX4_frameFault 10 = .ok (.iload_n 3, 1) := by decide +kernel
theorem dX4_frameFault_11 : decode cX4_frameFault 11 = .ok (.invokestatic 78, 3) := by decide +kernel
theorem dX4_frameFault_14 : decode cX4_frameFault 14 = .ok (.ireturn, 1) := by decide +kernel
theorem dX4_frameFault_15 : decode cX4_frameFault 15 = .ok (.aload_n 0, 1) := by decide +kernel
theorem dX4_frameFault_16 : decode cX4_frameFault 16 = .ok (.getfield 28, 3) := by decide +kernel
theorem dX4_frameFault_19 : decode cX4_frameFault 19 = .ok (.ifCond .ne 11, 3) := by decide +kernel
theorem dX4_frameFault_22 : decode cX4_frameFault 22 = .ok (.aload_n 1, 1) := by decide +kernel
theorem dX4_frameFault_23 : decode cX4_frameFault 23 = .ok (.iload_n 2, 1) := by decide +kernel
theorem dX4_frameFault_24 : decode cX4_frameFault 24 = .ok (.invokestatic 89, 3) := by decide +kernel
theorem dX4_frameFault_27 : decode cX4_frameFault 27 = .ok (.goto 8, 3) := by decide +kernel
theorem dX4_frameFault_30 : decode cX4_frameFault 30 = .ok (.aload_n 1, 1) := by decide +kernel
theorem dX4_frameFault_31 : decode cX4_frameFault 31 = .ok (.iload_n 2, 1) := by decide +kernel
theorem dX4_frameFault_32 : decode cX4_frameFault 32 = .ok (.invokestatic 92, 3) := by decide +kernel
theorem dX4_frameFault_35 : decode cX4_frameFault 35 = .ok (.istore 4, 2) := by decide +kernel
theorem dX4_frameFault_37 : decode cX4_frameFault 37 = .ok (.iload 4, 2) := by decide +kernel
theorem dX4_frameFault_39 : decode cX4_frameFault 39 = .ok (.bipush (-2), 2) := by decide +kernel
theorem dX4_frameFault_41 : decode cX4_frameFault 41 = .ok (.if_icmp .eq 13, 3) := by decide +kernel
theorem dX4_frameFault_44 : decode cX4_frameFault 44 = .ok (.bipush 8, 2) := by decide +kernel
theorem dX4_frameFault_46 : decode cX4_frameFault 46 = .ok (.iload_n 2, 1) := by decide +kernel
theorem dX4_frameFault_47 : decode cX4_frameFault 47 = .ok (.iload 4, 2) := by decide +kernel
theorem dX4_frameFault_49 : decode cX4_frameFault 49 = .ok (.iadd, 1) := by decide +kernel
theorem dX4_frameFault_50 : decode cX4_frameFault 50 = .ok (.invokestatic 78, 3) := by decide +kernel
theorem dX4_frameFault_53 : decode cX4_frameFault 53 = .ok (.ireturn, 1) := by decide +kernel
theorem dX4_frameFault_54 : decode cX4_frameFault 54 = .ok (.aload_n 1, 1) := by decide +kernel
theorem dX4_frameFault_55 : decode cX4_frameFault 55 = .ok (.iload_n 2, 1) := by decide +kernel
theorem dX4_frameFault_56 : decode cX4_frameFault 56 = .ok (.bipush 6, 2) := by decide +kernel
theorem dX4_frameFault_58 : decode cX4_frameFault 58 = .ok (.iadd, 1) := by decide +kernel
theorem dX4_frameFault_59 : decode cX4_frameFault 59 = .ok (.iconst 2, 1) := by decide +kernel
theorem dX4_frameFault_60 : decode cX4_frameFault 60 = .ok (.invokevirtual 95, 3) := by decide +kernel
theorem dX4_frameFault_63 : decode cX4_frameFault 63 = .ok (.istore 5, 2) := by decide +kernel
theorem dX4_frameFault_65 : decode cX4_frameFault 65 = .ok (.iload 5, 2) := by decide +kernel
theorem dX4_frameFault_67 : decode cX4_frameFault 67 = .ok (.bipush 40, 2) := by decide +kernel
theorem dX4_frameFault_69 : decode cX4_frameFault 69 = .ok (.if_icmp .le 13, 3) := by decide +kernel
theorem dX4_frameFault_72 : decode cX4_frameFault 72 = .ok (.bipush 9, 2) := by decide +kernel
theorem dX4_frameFault_74 : decode cX4_frameFault 74 = .ok (.iload_n 2, 1) := by decide +kernel
theorem dX4_frameFault_75 : decode cX4_frameFault 75 = .ok (.bipush 6, 2) := by decide +kernel
theorem dX4_frameFault_77 : decode cX4_frameFault 77 = .ok (.iadd, 1) := by decide +kernel
theorem dX4_frameFault_78 : decode cX4_frameFault 78 = .ok (.invokestatic 78, 3) := by decide +kernel
theorem dX4_frameFault_81 : decode cX4_frameFault 81 = .ok (.ireturn, 1) := by decide +kernel
theorem dX4_frameFault_82 : decode cX4_frameFault 82 = .ok (.aload_n 1, 1) := by decide +kernel
theorem dX4_frameFault_83 : decode cX4_frameFault 83 = .ok (.iload_n 2, 1) := by decide +kernel
theorem dX4_frameFault_84 : decode cX4_frameFault 84 = .ok (.iconst 3, 1) := by decide +kernel
theorem dX4_frameFault_85 : decode cX4_frameFault 85 = .ok (.iadd, 1) := by decide +kernel
theorem dX4_frameFault_86 : decode cX4_frameFault 86 = .ok (.invokevirtual 75, 3) := by decide +kernel
theorem dX4_frameFault_89 : decode cX4_frameFault 89 = .ok (.bipush 15, 2) := by decide +kernel
theorem dX4_frameFault_91 : decode cX4_frameFault 91 = .ok (.iand, 1) := by decide +kernel
theorem dX4_frameFault_92 : decode cX4_frameFault 92 = .ok (.iload 5, 2) := by decide +kernel
theorem dX4_frameFault_94 : decode cX4_frameFault 94 = .ok (.iadd, 1) := by decide +kernel
theorem dX4_frameFault_95 : decode cX4_frameFault 95 = .ok (.istore 6, 2) := by decide +kernel
theorem dX4_frameFault_97 : decode cX4_frameFault 97 = .ok (.iload_n 3, 1) := by decide +kernel
theorem dX4_frameFault_98 : decode cX4_frameFault 98 = .ok (.iload_n 2, 1) := by decide +kernel
theorem dX4_frameFault_99 : decode cX4_frameFault 99 = .ok (.isub, 1) := by decide +kernel
theorem dX4_frameFault_100 : decode cX4_frameFault 100 = .ok (.bipush 8, 2) := by decide +kernel
theorem dX4_frameFault_102 : decode cX4_frameFault 102 = .ok (.isub, 1) := by decide +kernel
theorem dX4_frameFault_103 : decode cX4_frameFault 103 = .ok (.iconst 2, 1) := by decide +kernel
theorem dX4_frameFault_104 : decode cX4_frameFault 104 = .ok (.iload 6, 2) := by decide +kernel
theorem dX4_frameFault_106 : decode cX4_frameFault 106 = .ok (.imul, 1) := by decide +kernel
theorem dX4_frameFault_107 : decode cX4_frameFault 107 = .ok (.if_icmp .ge 12, 3) := by decide +kernel
theorem dX4_frameFault_110 : decode cX4_frameFault 110 = .ok (.bipush 8, 2) := by decide +kernel
theorem dX4_frameFault_112 : decode cX4_frameFault 112 = .ok (.iload_n 3, 1) := by decide +kernel
theorem dX4_frameFault_113 : decode cX4_frameFault 113 = .ok (.invokestatic 78, 3) := by decide +kernel
theorem dX4_frameFault_116 : decode cX4_frameFault 116 = .ok (.goto 4, 3) := by decide +kernel
theorem dX4_frameFault_119 : decode cX4_frameFault 119 = .ok (.iconst 0, 1) := by decide +kernel
theorem dX4_frameFault_120 : decode cX4_frameFault 120 = .ok (.ireturn, 1) := by decide +kernel
theorem dX4_wrongInFirst_0 : decode cX4_wrongInFirst 0 = .ok (.iconst 0, 1) := by decide +kernel
theorem dX4_wrongInFirst_1 : decode cX4_wrongInFirst 1 = .ok (.istore_n 2, 1) := by decide +kernel
theorem dX4_wrongInFirst_2 : decode cX4_wrongInFirst 2 = .ok (.iload_n 2, 1) := by decide +kernel
theorem dX4_wrongInFirst_3 : decode cX4_wrongInFirst 3 = .ok (.bipush 6, 2) := by decide +kernel
theorem dX4_wrongInFirst_5 : decode cX4_wrongInFirst 5 = .ok (.if_icmp .ge 21, 3) := by decide +kernel
theorem dX4_wrongInFirst_8 : decode cX4_wrongInFirst 8 = .ok (.aload_n 0, 1) := by decide +kernel
theorem dX4_wrongInFirst_9 : decode cX4_wrongInFirst 9 = .ok (.iload_n 1, 1) := by decide +kernel
theorem dX4_wrongInFirst_10 : decode cX4_wrongInFirst 10 = .ok (.iload_n 2, 1) := by decide +kernel
theorem dX4_wrongInFirst_11 : decode cX4_wrongInFirst 11 = .ok (.iadd, 1) := by decide +kernel
theorem dX4_wrongInFirst_12 : decode cX4_wrongInFirst 12 = .ok (.invokevirtual 75, 3) := by decide +kernel
theorem dX4_wrongInFirst_15 : decode cX4_wrongInFirst 15 = .ok (.ifCond .eq 5, 3) := by decide +kernel
theorem dX4_wrongInFirst_18 : decode cX4_wrongInFirst 18 = .ok (.iload_n 2, 1) := by decide +kernel
theorem dX4_wrongInFirst_19 : decode cX4_wrongInFirst 19 = .ok (.ireturn, 1) := by decide +kernel
theorem dX4_wrongInFirst_20 : decode cX4_wrongInFirst 20 = .ok (.iinc 2 1, 3) := by decide +kernel
theorem dX4_wrongInFirst_23 : decode cX4_wrongInFirst 23 = .ok (.goto (-21), 3) := by decide +kernel
theorem dX4_wrongInFirst_26 : decode cX4_wrongInFirst 26 = .ok (.bipush (-2), 2) := by decide +kernel
theorem dX4_wrongInFirst_28 : decode cX4_wrongInFirst 28 = .ok (.ireturn, 1) := by decide +kernel
theorem dX4_wrongInLater_0 : decode cX4_wrongInLater 0 = .ok (.aload_n 0, 1) := by decide +kernel
theorem dX4_wrongInLater_1 : decode cX4_wrongInLater 1 = .ok (.iload_n 1, 1) := by decide +kernel
theorem dX4_wrongInLater_2 : decode cX4_wrongInLater 2 = .ok (.iconst 3, 1) := by decide +kernel
theorem dX4_wrongInLater_3 : decode cX4_wrongInLater 3 = .ok (.iadd, 1) := by decide +kernel
theorem dX4_wrongInLater_4 : decode cX4_wrongInLater 4 = .ok (.invokevirtual 75, 3) := by decide +kernel
theorem dX4_wrongInLater_7 : decode cX4_wrongInLater 7 = .ok (.istore_n 2, 1) := by decide +kernel
theorem dX4_wrongInLater_8 : decode cX4_wrongInLater 8 = .ok (.iload_n 2, 1) := by decide +kernel
theorem dX4_wrongInLater_9 : decode cX4_wrongInLater 9 = .ok (.bipush 31, 2) := by decide +kernel
theorem dX4_wrongInLater_11 : decode cX4_wrongInLater 11 = .ok (.if_icmp .le 5, 3) := by decide +kernel
theorem dX4_wrongInLater_14 : decode cX4_wrongInLater 14 = .ok (.iconst 3, 1) := by decide +kernel
theorem dX4_wrongInLater_15 : decode cX4_wrongInLater 15 = .ok (.ireturn, 1) := by decide +kernel
theorem dX4_wrongInLater_16 : decode cX4_wrongInLater 16 = .ok (.iload_n 2, 1) := by decide +kernel
theorem dX4_wrongInLater_17 : decode cX4_wrongInLater 17 = .ok (.bipush 16, 2) := by decide +kernel
theorem dX4_wrongInLater_19 : decode cX4_wrongInLater 19 = .ok (.if_icmp .lt 15, 3) := by decide +kernel
theorem dX4_wrongInLater_22 : decode cX4_wrongInLater 22 = .ok (.aload_n 0, 1) := by decide +kernel
theorem dX4_wrongInLater_23 : decode cX4_wrongInLater 23 = .ok (.iload_n 1, 1) := by decide +kernel
theorem dX4_wrongInLater_24 : decode cX4_wrongInLater 24 = .ok (.iconst 4, 1) := by decide +kernel
theorem dX4_wrongInLater_25 : decode cX4_wrongInLater 25 = .ok (.iadd, 1) := by decide +kernel
theorem dX4_wrongInLater_26 : decode cX4_wrongInLater 26 = .ok (.invokevirtual 75, 3) := by decide +kernel
theorem dX4_wrongInLater_29 : decode cX4_wrongInLater 29 = .ok (.ifCond .eq 5, 3) := by decide +kernel
theorem dX4_wrongInLater_32 : decode cX4_wrongInLater 32 = .ok (.iconst 4, 1) := by decide +kernel
theorem dX4_wrongInLater_33 : decode cX4_wrongInLater 33 = .ok (.ireturn, 1) := by decide +kernel
theorem dX4_wrongInLater_34 : decode cX4_wrongInLater 34 = .ok (.aload_n 0, 1) := by decide +kernel
theorem dX4_wrongInLater_35 : decode cX4_wrongInLater 35 = .ok (.iload_n 1, 1) := by decide +kernel
theorem dX4_wrongInLater_36 : decode cX4_wrongInLater 36 = .ok (.iconst 5, 1) := by decide +kernel
theorem dX4_wrongInLater_37 : decode cX4_wrongInLater 37 = .ok (.iadd, 1) := by decide +kernel
theorem dX4_wrongInLater_38 : decode cX4_wrongInLater 38 = .ok (.invokevirtual 75, 3) := by decide +kernel
theorem dX4_wrongInLater_41 : decode cX4_wrongInLater 41 = .ok (.istore_n 3, 1) := by decide +kernel
theorem dX4_wrongInLater_42 : decode cX4_wrongInLater 42 = .ok (.iload_n 3, 1) := by decide +kernel
theorem dX4_wrongInLater_43 : decode cX4_wrongInLater 43 = .ok (.iload_n 3, 1) := by decide +kernel
theorem dX4_wrongInLater_44 : decode cX4_wrongInLater 44 = .ok (.iconst 1, 1) := by decide +kernel
theorem dX4_wrongInLater_45 : decode cX4_wrongInLater 45 = .ok (.iadd, 1) := by decide +kernel
theorem dX4_wrongInLater_46 : decode cX4_wrongInLater 46 = .ok (.iand, 1) := by decide +kernel
theorem dX4_wrongInLater_47 : decode cX4_wrongInLater 47 = .ok (.ifCond .ne 7, 3) := by decide +kernel
theorem dX4_wrongInLater_50 : decode cX4_wrongInLater 50 = .ok (.iconst 1, 1) := by decide +kernel
theorem dX4_wrongInLater_51 : decode cX4_wrongInLater 51 = .ok (.goto 4, 3) := by decide +kernel
theorem dX4_wrongInLater_54 : decode cX4_wrongInLater 54 = .ok (.iconst 0, 1) := by decide +kernel
theorem dX4_wrongInLater_55 : decode cX4_wrongInLater 55 = .ok (.istore 4, 2) := by decide +kernel
theorem dX4_wrongInLater_57 : decode cX4_wrongInLater 57 = .ok (.iload 4, 2) := by decide +kernel
theorem dX4_wrongInLater_59 : decode cX4_wrongInLater 59 = .ok (.ifCond .eq 15, 3) := by decide +kernel
theorem dX4_wrongInLater_62 : decode cX4_wrongInLater 62 = .ok (.iload_n 3, 1) := by decide +kernel
theorem dX4_wrongInLater_63 : decode cX4_wrongInLater 63 = .ok (.sipush 128, 3) := by decide +kernel
theorem dX4_wrongInLater_66 : decode cX4_wrongInLater 66 = .ok (.if_icmp .ge 8, 3) := by decide +kernel
theorem dX4_wrongInLater_69 : decode cX4_wrongInLater 69 = .ok (.bipush (-2), 2) := by decide +kernel
theorem dX4_wrongInLater_71 : decode cX4_wrongInLater 71 = .ok (.goto 4, 3) := by decide +kernel
theorem dX4_wrongInLater_74 : decode cX4_wrongInLater 74 = .ok (.iconst 5, 1) := by decide +kernel
theorem dX4_wrongInLater_75 : decode cX4_wrongInLater 75 = .ok (.ireturn, 1) := by decide +kernel
theorem dX4_takeFrame_0 : decode cX4_takeFrame 0 = .ok (.aload_n 1, 1) := by decide +kernel
theorem dX4_takeFrame_1 : decode cX4_takeFrame 1 = .ok (.iload_n 2, 1) := by decide +kernel
theorem dX4_takeFrame_2 : decode cX4_takeFrame 2 = .ok (.iconst 3, 1) := by decide +kernel
theorem dX4_takeFrame_3 : decode cX4_takeFrame 3 = .ok (.iadd, 1) := by decide +kernel
theorem dX4_takeFrame_4 : decode cX4_takeFrame 4 = .ok (.invokevirtual 75, 3) := by decide +kernel
theorem dX4_takeFrame_7 : decode cX4_takeFrame 7 = .ok (.istore_n 3, 1) := by decide +kernel
theorem dX4_takeFrame_8 : decode cX4_takeFrame 8 = .ok (.iload_n 3, 1) := by decide +kernel
theorem dX4_takeFrame_9 : decode cX4_takeFrame 9 = .ok (.bipush 15, 2) := by decide +kernel
theorem dX4_takeFrame_11 : decode cX4_takeFrame 11 = .ok (.iand, 1) := by decide +kernel
theorem dX4_takeFrame_12 : decode cX4_takeFrame 12 = .ok (.istore 4, 2) := by decide +kernel
theorem dX4_takeFrame_14 : decode cX4_takeFrame 14 = .ok (.iload_n 3, 1) := by decide +kernel
theorem dX4_takeFrame_15 : decode cX4_takeFrame 15 = .ok (.bipush 16, 2) := by decide +kernel
theorem dX4_takeFrame_17 : decode cX4_takeFrame 17 = .ok (.if_icmp .lt 8, 3) := by decide +kernel
theorem dX4_takeFrame_20 : decode cX4_takeFrame 20 = .ok (.bipush (-2), 2) := by decide +kernel
theorem dX4_takeFrame_22 : decode cX4_takeFrame 22 = .ok (.goto 10, 3) := by decide +kernel
theorem dX4_takeFrame_25 : decode cX4_takeFrame 25 = .ok (.aload_n 1, 1) := by decide +kernel
theorem dX4_takeFrame_26 : decode cX4_takeFrame 26 = .ok (.iload_n 2, 1) := by decide +kernel
theorem dX4_takeFrame_27 : decode cX4_takeFrame 27 = .ok (.iconst 4, 1) := by decide +kernel
theorem dX4_takeFrame_28 : decode cX4_takeFrame 28 = .ok (.iadd, 1) := by decide +kernel
theorem dX4_takeFrame_29 : decode cX4_takeFrame 29 = .ok (.invokevirtual 75, 3) := by decide +kernel
theorem dX4_takeFrame_32 : decode cX4_takeFrame 32 = .ok (.istore 5, 2) := by decide +kernel
theorem dX4_takeFrame_34 : decode cX4_takeFrame 34 = .ok (.aload_n 1, 1) := by decide +kernel
theorem dX4_takeFrame_35 : decode cX4_takeFrame 35 = .ok (.iload_n 2, 1) := by decide +kernel
theorem dX4_takeFrame_36 : decode cX4_takeFrame 36 = .ok (.bipush 6, 2) := by decide +kernel
theorem dX4_takeFrame_38 : decode cX4_takeFrame 38 = .ok (.iadd, 1) := by decide +kernel
theorem dX4_takeFrame_39 : decode cX4_takeFrame 39 = .ok (.iconst 2, 1) := by decide +kernel
theorem dX4_takeFrame_40 : decode cX4_takeFrame 40 = .ok (.invokevirtual 95, 3) := by decide +kernel
theorem dX4_takeFrame_43 : decode cX4_takeFrame 43 = .ok (.istore 6, 2) := by decide +kernel
theorem dX4_takeFrame_45 : decode cX4_takeFrame 45 = .ok (.aload_n 0, 1) := by decide +kernel
theorem dX4_takeFrame_46 : decode cX4_takeFrame 46 = .ok (.aload_n 1, 1) := by decide +kernel
theorem dX4_takeFrame_47 : decode cX4_takeFrame 47 = .ok (.iload_n 2, 1) := by decide +kernel
theorem dX4_takeFrame_48 : decode cX4_takeFrame 48 = .ok (.iconst 3, 1) := by decide +kernel
theorem dX4_takeFrame_49 : decode cX4_takeFrame 49 = .ok (.invokevirtual 95, 3) := by decide +kernel
theorem dX4_takeFrame_52 : decode cX4_takeFrame 52 = .ok (.iload 5, 2) := by decide +kernel
theorem dX4_takeFrame_54 : decode cX4_takeFrame 54 = .ok (.aload_n 1, 1) := by decide +kernel
theorem dX4_takeFrame_55 : decode cX4_takeFrame 55 = .ok (.iload_n 2, 1) := by decide +kernel
theorem dX4_takeFrame_56 : decode cX4_takeFrame 56 = .ok (.iconst 5, 1) := by decide +kernel
theorem dX4_takeFrame_57 : decode cX4_takeFrame 57 = .ok (.iadd, 1) := by decide +kernel
theorem dX4_takeFrame_58 : decode cX4_takeFrame 58 = .ok (.invokevirtual 75, 3) := by decide +kernel
theorem dX4_takeFrame_61 : decode cX4_takeFrame 61 = .ok (.invokestatic 98, 3) := by decide +kernel
theorem dX4_takeFrame_64 : decode cX4_takeFrame 64 = .ok (.iload 4, 2) := by decide +kernel
theorem dX4_takeFrame_66 : decode cX4_takeFrame 66 = .ok (.invokevirtual 43, 3) := by decide +kernel
theorem dX4_takeFrame_69 : decode cX4_takeFrame 69 = .ok (.iload_n 2, 1) := by decide +kernel
