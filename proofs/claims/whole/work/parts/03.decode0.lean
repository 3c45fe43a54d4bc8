theorem dX0_init_0 : decode cX0_init 0 = .ok (.aload_n 0, 1) := by decide +kernel
theorem dX0_init_1 : decode cX0_init 1 = .ok (.invokespecial 3, 3) := by decide +kernel
theorem dX0_init_4 : decode cX0_init 4 = .ok (.aload_n 0, 1) := by decide +kernel
theorem dX0_init_5 : decode cX0_init 5 = .ok (.iload_n 1, 1) := by decide +kernel
theorem dX0_init_6 : decode cX0_init 6 = .ok (.putfield 9, 3) := by decide +kernel
theorem dX0_init_9 : decode cX0_init 9 = .ok (.aload_n 0, 1) := by decide +kernel
theorem dX0_init_10 : decode cX0_init 10 = .ok (.bipush 64, 2) := by decide +kernel
theorem dX0_init_12 : decode cX0_init 12 = .ok (.newarray .byte, 2) := by decide +kernel
theorem dX0_init_14 : decode cX0_init 14 = .ok (.putfield 15, 3) := by decide +kernel
theorem dX0_init_17 : decode cX0_init 17 = .ok (.aload_n 0, 1) := by decide +kernel
theorem dX0_init_18 : decode cX0_init 18 = .ok (.iconst 0, 1) := by decide +kernel
theorem dX0_init_19 : decode cX0_init 19 = .ok (.putfield 19, 3) := by decide +kernel
theorem dX0_init_22 : decode cX0_init 22 = .ok (.return_, 1) := by decide +kernel
theorem dX1_init_0 : decode cX1_init 0 = .ok (.aload_n 0, 1) := by decide +kernel
theorem dX1_init_1 : decode cX1_init 1 = .ok (.invokespecial 3, 3) := by decide +kernel
theorem dX1_init_4 : decode cX1_init 4 = .ok (.aload_n 0, 1) := by decide +kernel
theorem dX1_init_5 : decode cX1_init 5 = .ok (.new 9, 3) := by decide +kernel
theorem dX1_init_8 : decode cX1_init 8 = .ok (.dup, 1) := by decide +kernel
theorem dX1_init_9 : decode cX1_init 9 = .ok (.ldc 11, 2) := by decide +kernel
theorem dX1_init_11 : decode cX1_init 11 = .ok (.invokespecial 12, 3) := by decide +kernel
theorem dX1_init_14 : decode cX1_init 14 = .ok (.putfield 15, 3) := by decide +kernel
theorem dX1_init_17 : decode cX1_init 17 = .ok (.aload_n 0, 1) := by decide +kernel
theorem dX1_init_18 : decode cX1_init 18 = .ok (.bipush 8, 2) := by decide +kernel
theorem dX1_init_20 : decode cX1_init 20 = .ok (.newarray .int, 2) := by decide +kernel
theorem dX1_init_22 : decode cX1_init 22 = .ok (.putfield 21, 3) := by decide +kernel
theorem dX1_init_25 : decode cX1_init 25 = .ok (.aload_n 0, 1) := by decide +kernel
theorem dX1_init_26 : decode cX1_init 26 = .ok (.bipush 8, 2) := by decide +kernel
theorem dX1_init_28 : decode cX1_init 28 = .ok (.newarray .int, 2) := by decide +kernel
theorem dX1_init_30 : decode cX1_init 30 = .ok (.putfield 25, 3) := by decide +kernel
theorem dX1_init_33 : decode cX1_init 33 = .ok (.aload_n 0, 1) := by decide +kernel
theorem dX1_init_34 : decode cX1_init 34 = .ok (.iconst 0, 1) := by decide +kernel
theorem dX1_init_35 : decode cX1_init 35 = .ok (.putfield 28, 3) := by decide +kernel
theorem dX1_init_38 : decode cX1_init 38 = .ok (.return_, 1) := by decide +kernel
theorem dX0_makeRoom_0 : decode cX0_makeRoom 0 = .ok (.iload_n 1, 1) := by decide +kernel
theorem dX0_makeRoom_1 : decode cX0_makeRoom 1 = .ok (.ifCond .lt 16, 3) := by decide +kernel
theorem dX0_makeRoom_4 : decode cX0_makeRoom 4 = .ok (.iload_n 1, 1) := by decide +kernel
theorem dX0_makeRoom_5 : decode cX0_makeRoom 5 = .ok (.aload_n 0, 1) := by decide +kernel
theorem dX0_makeRoom_6 : decode cX0_makeRoom 6 = .ok (.getfield 9, 3) := by decide +kernel
theorem dX0_makeRoom_9 : decode cX0_makeRoom 9 = .ok (.aload_n 0, 1) := by decide +kernel
theorem dX0_makeRoom_10 : decode cX0_makeRoom 10 = .ok (.getfield 19, 3) := by decide +kernel
theorem dX0_makeRoom_13 : decode cX0_makeRoom 13 = .ok (.isub, 1) := by decide +kernel
theorem dX0_makeRoom_14 : decode cX0_makeRoom 14 = .ok (.if_icmp .le 5, 3) := by decide +kernel
theorem dX0_makeRoom_17 : decode cX0_makeRoom 17 = .ok (.iconst 0, 1) := by decide +kernel
theorem dX0_makeRoom_18 : decode cX0_makeRoom 18 = .ok (.ireturn, 1) := by decide +kernel
theorem dX0_makeRoom_19 : decode cX0_makeRoom 19 = .ok (.aload_n 0, 1) := by decide +kernel
theorem dX0_makeRoom_20 : decode cX0_makeRoom 20 = .ok (.getfield 19, 3) := by decide +kernel
theorem dX0_makeRoom_23 : decode cX0_makeRoom 23 = .ok (.iload_n 1, 1) := by decide +kernel
theorem dX0_makeRoom_24 : decode cX0_makeRoom 24 = .ok (.iadd, 1) := by decide +kernel
theorem dX0_makeRoom_25 : decode cX0_makeRoom 25 = .ok (.istore_n 2, 1) := by decide +kernel
theorem dX0_makeRoom_26 : decode cX0_makeRoom 26 = .ok (.iload_n 2, 1) := by decide +kernel
theorem dX0_makeRoom_27 : decode cX0_makeRoom 27 = .ok (.aload_n 0, 1) := by decide +kernel
theorem dX0_makeRoom_28 : decode cX0_makeRoom 28 = .ok (.getfield 15, 3) := by decide +kernel
theorem dX0_makeRoom_31 : decode cX0_makeRoom 31 = .ok (.arraylength, 1) := by decide +kernel
theorem dX0_makeRoom_32 : decode cX0_makeRoom 32 = .ok (.if_icmp .le 34, 3) := by decide +kernel
theorem dX0_makeRoom_35 : decode cX0_makeRoom 35 = .ok (.iload_n 2, 1) := by decide +kernel
theorem dX0_makeRoom_36 : decode cX0_makeRoom 36 = .ok (.iconst 2, 1) := by decide +kernel
theorem dX0_makeRoom_37 : decode cX0_makeRoom 37 = .ok (.aload_n 0, 1) := by decide +kernel
theorem dX0_makeRoom_38 : decode cX0_makeRoom 38 = .ok (.getfield 15, 3) := by decide +kernel
theorem dX0_makeRoom_41 : decode cX0_makeRoom 41 = .ok (.arraylength, 1) := by decide +kernel
theorem dX0_makeRoom_42 : decode cX0_makeRoom 42 = .ok (.imul, 1) := by decide +kernel
theorem dX0_makeRoom_43 : decode cX0_makeRoom 43 = .ok (.invokestatic 22, 3) := by decide +kernel
theorem dX0_makeRoom_46 : decode cX0_makeRoom 46 = .ok (.istore_n 3, 1) := by decide +kernel
theorem dX0_makeRoom_47 : decode cX0_makeRoom 47 = .ok (.aload_n 0, 1) := by decide +kernel
theorem dX0_makeRoom_48 : decode cX0_makeRoom 48 = .ok (.aload_n 0, 1) := by decide +kernel
theorem dX0_makeRoom_49 : decode cX0_makeRoom 49 = .ok (.getfield 15, 3) := by decide +kernel
theorem dX0_makeRoom_52 : decode cX0_makeRoom 52 = .ok (.aload_n 0, 1) := by decide +kernel
theorem dX0_makeRoom_53 : decode cX0_makeRoom 53 = .ok (.getfield 9, 3) := by decide +kernel
theorem dX0_makeRoom_56 : decode cX0_makeRoom 56 = .ok (.iload_n 3, 1) := by decide +kernel
theorem dX0_makeRoom_57 : decode cX0_makeRoom 57 = .ok (.invokestatic 28, 3) := by decide +kernel
theorem dX0_makeRoom_60 : decode cX0_makeRoom 60 = .ok (.invokestatic 31, 3) := by decide +kernel
theorem dX0_makeRoom_63 : decode cX0_makeRoom 63 = .ok (.putfield 15, 3) := by decide +kernel
theorem dX0_makeRoom_66 : decode cX0_makeRoom 66 = .ok (.iconst 1, 1) := by decide +kernel
theorem dX0_makeRoom_67 : decode cX0_makeRoom 67 = .ok (.ireturn, 1) := by decide +kernel
theorem dJ7_copyB_0 : decode cJ7_copyB 0 = .ok (.iload_n 1, 1) := by decide +kernel
theorem dJ7_copyB_1 : decode cJ7_copyB 1 = .ok (.aload_n 0, 1) := by decide +kernel
theorem dJ7_copyB_2 : decode cJ7_copyB 2 = .ok (.arraylength, 1) := by decide +kernel
theorem dJ7_copyB_3 : decode cJ7_copyB 3 = .ok (.if_icmp .ne 11, 3) := by decide +kernel
theorem dJ7_copyB_6 : decode cJ7_copyB 6 = .ok (.aload_n 0, 1) := by decide +kernel
theorem dJ7_copyB_7 : decode cJ7_copyB 7 = .ok (.invokevirtual 310, 3) := by decide +kernel
theorem dJ7_copyB_10 : decode cJ7_copyB 10 = .ok (.checkcast 311, 3) := by decide +kernel
theorem dJ7_copyB_13 : decode cJ7_copyB 13 = .ok (.areturn, 1) := by decide +kernel
theorem dJ7_copyB_14 : decode cJ7_copyB 14 = .ok (.iload_n 1, 1) := by decide +kernel
theorem dJ7_copyB_15 : decode cJ7_copyB 15 = .ok (.newarray .byte, 2) := by decide +kernel
theorem dJ7_copyB_17 : decode cJ7_copyB 17 = .ok (.astore_n 2, 1) := by decide +kernel
theorem dJ7_copyB_18 : decode cJ7_copyB 18 = .ok (.aload_n 0, 1) := by decide +kernel
theorem dJ7_copyB_19 : decode cJ7_copyB 19 = .ok (.iconst 0, 1) := by decide +kernel
theorem dJ7_copyB_20 : decode cJ7_copyB 20 = .ok (.aload_n 2, 1) := by decide +kernel
theorem dJ7_copyB_21 : decode cJ7_copyB 21 = .ok (.iconst 0, 1) := by decide +kernel
theorem dJ7_copyB_22 : decode cJ7_copyB 22 = .ok (.aload_n 0, 1) := by decide +kernel
theorem dJ7_copyB_23 : decode cJ7_copyB 23 = .ok (.arraylength, 1) := by decide +kernel
theorem dJ7_copyB_24 : decode cJ7_copyB 24 = .ok (.iload_n 1, 1) := by decide +kernel
theorem dJ7_copyB_25 : decode cJ7_copyB 25 = .ok (.invokestatic 304, 3) := by decide +kernel
theorem dJ7_copyB_28 : decode cJ7_copyB 28 = .ok (.invokestatic 150, 3) := by decide +kernel
theorem dJ7_copyB_31 : decode cJ7_copyB 31 = .ok (.aload_n 2, 1) := by decide +kernel
theorem dJ7_copyB_32 : decode cJ7_copyB 32 = .ok (.areturn, 1) := by decide +kernel
theorem dX0_addNumber_0 : decode cX0_addNumber 0 = .ok (.bipush 24, 2) := by decide +kernel
theorem dX0_addNumber_2 : decode cX0_addNumber 2 = .ok (.istore_n 2, 1) := by decide +kernel
theorem dX0_addNumber_3 : decode cX0_addNumber 3 = .ok (.iload_n 2, 1) := by decide +kernel
theorem dX0_addNumber_4 : decode cX0_addNumber 4 = .ok (.ifCond .lt 44, 3) := by decide +kernel
theorem dX0_addNumber_7 : decode cX0_addNumber 7 = .ok (.aload_n 0, 1) := by decide +kernel
theorem dX0_addNumber_8 : decode cX0_addNumber 8 = .ok (.getfield 19, 3) := by decide +kernel
theorem dX0_addNumber_11 : decode cX0_addNumber 11 = .ok (.aload_n 0, 1) := by decide +kernel
theorem dX0_addNumber_12 : decode cX0_addNumber 12 = .ok (.getfield 15, 3) := by decide +kernel
theorem dX0_addNumber_15 : decode cX0_addNumber 15 = .ok (.arraylength, 1) := by decide +kernel
theorem dX0_addNumber_16 : decode cX0_addNumber 16 = .ok (.if_icmp .ge 26, 3) := by decide +kernel
theorem dX0_addNumber_19 : decode cX0_addNumber 19 = .ok (.aload_n 0, 1) := by decide +kernel
theorem dX0_addNumber_20 : decode cX0_addNumber 20 = .ok (.getfield 15, 3) := by decide +kernel
theorem dX0_addNumber_23 : decode cX0_addNumber 23 = .ok (.aload_n 0, 1) := by decide +kernel
theorem dX0_addNumber_24 : decode cX0_addNumber 24 = .ok (.getfield 19, 3) := by decide +kernel
theorem dX0_addNumber_27 : decode cX0_addNumber 27 = .ok (.iload_n 1, 1) := by decide +kernel
theorem dX0_addNumber_28 : decode cX0_addNumber 28 = .ok (.iload_n 2, 1) := by decide +kernel
theorem dX0_addNumber_29 : decode cX0_addNumber 29 = .ok (.iushr, 1) := by decide +kernel
theorem dX0_addNumber_30 : decode cX0_addNumber 30 = .ok (.i2b, 1) := by decide +kernel
theorem dX0_addNumber_31 : decode cX0_addNumber 31 = .ok (.bastore, 1) := by decide +kernel
theorem dX0_addNumber_32 : decode cX0_addNumber 32 = .ok (.aload_n 0, 1) := by decide +kernel
theorem dX0_addNumber_33 : decode cX0_addNumber 33 = .ok (.dup, 1) := by decide +kernel
theorem dX0_addNumber_34 : decode cX0_addNumber 34 = .ok (.getfield 19, 3) := by decide +kernel
theorem dX0_addNumber_37 : decode cX0_addNumber 37 = .ok (.iconst 1, 1) := by decide +kernel
theorem dX0_addNumber_38 : decode cX0_addNumber 38 = .ok (.iadd, 1) := by decide +kernel
theorem dX0_addNumber_39 : decode cX0_addNumber 39 = .ok (.putfield 19, 3) := by decide +kernel
theorem dX0_addNumber_42 : decode cX0_addNumber 42 = .ok (.iinc 2 (-8), 3) := by decide +kernel
theorem dX0_addNumber_45 : decode cX0_addNumber 45 = .ok (.goto (-42), 3) := by decide +kernel
theorem dX0_addNumber_48 : decode cX0_addNumber 48 = .ok (.return_, 1) := by decide +kernel
theorem dX0_keepFirst_0 : decode cX0_keepFirst 0 = .ok (.iload_n 1, 1) := by decide +kernel
theorem dX0_keepFirst_1 : decode cX0_keepFirst 1 = .ok (.ifCond .lt 11, 3) := by decide +kernel
theorem dX0_keepFirst_4 : decode cX0_keepFirst 4 = .ok (.iload_n 1, 1) := by decide +kernel
theorem dX0_keepFirst_5 : decode cX0_keepFirst 5 = .ok (.aload_n 0, 1) := by decide +kernel
theorem dX0_keepFirst_6 : decode cX0_keepFirst 6 = .ok (.getfield 19, 3) := by decide +kernel
theorem dX0_keepFirst_9 : decode cX0_keepFirst 9 = .ok (.if_icmp .le 5, 3) := by decide +kernel
theorem dX0_keepFirst_12 : decode cX0_keepFirst 12 = .ok (.iconst 0, 1) := by decide +kernel
theorem dX0_keepFirst_13 : decode cX0_keepFirst 13 = .ok (.ireturn, 1) := by decide +kernel
theorem dX0_keepFirst_14 : decode cX0_keepFirst 14 = .ok (.aload_n 0, 1) := by decide +kernel
theorem dX0_keepFirst_15 : decode cX0_keepFirst 15 = .ok (.iload_n 1, 1) := by decide +kernel
theorem dX0_keepFirst_16 : decode cX0_keepFirst 16 = .ok (.putfield 19, 3) := by decide +kernel
theorem dX0_keepFirst_19 : decode cX0_keepFirst 19 = .ok (.iconst 1, 1) := by decide +kernel
theorem dX0_keepFirst_20 : decode cX0_keepFirst 20 = .ok (.ireturn, 1) := by decide +kernel
theorem dX0_count_0 : decode cX0_count 0 = .ok (.aload_n 0, 1) := by decide +kernel
theorem dX0_count_1 : decode cX0_count 1 = .ok (.getfield 19, 3) := by decide +kernel
theorem dX0_count_4 : decode cX0_count 4 = .ok (.ireturn, 1) := by decide +kernel
theorem dX0_addFirstOf_0 : decode cX0_addFirstOf 0 = .ok (.iload_n 2, 1) := by decide +kernel
theorem dX0_addFirstOf_1 : decode cX0_addFirstOf 1 = .ok (.ifCond .lt 19, 3) := by decide +kernel
theorem dX0_addFirstOf_4 : decode cX0_addFirstOf 4 = .ok (.iload_n 2, 1) := by decide +kernel
theorem dX0_addFirstOf_5 : decode cX0_addFirstOf 5 = .ok (.aload_n 1, 1) := by decide +kernel
theorem dX0_addFirstOf_6 : decode cX0_addFirstOf 6 = .ok (.getfield 19, 3) := by decide +kernel
theorem dX0_addFirstOf_9 : decode cX0_addFirstOf 9 = .ok (.if_icmp .gt 11, 3) := by decide +kernel
theorem dX0_addFirstOf_12 : decode cX0_addFirstOf 12 = .ok (.aload_n 0, 1) := by decide +kernel
theorem dX0_addFirstOf_13 : decode cX0_addFirstOf 13 = .ok (.iload_n 2, 1) := by decide +kernel
theorem dX0_addFirstOf_14 : decode cX0_addFirstOf 14 = .ok (.invokevirtual 37, 3) := by decide +kernel
theorem dX0_addFirstOf_17 : decode cX0_addFirstOf 17 = .ok (.ifCond .ne 5, 3) := by decide +kernel
theorem dX0_addFirstOf_20 : decode cX0_addFirstOf 20 = .ok (.iconst 0, 1) := by decide +kernel
theorem dX0_addFirstOf_21 : decode cX0_addFirstOf 21 = .ok (.ireturn, 1) := by decide +kernel
theorem dX0_addFirstOf_22 : decode cX0_addFirstOf 22 = .ok (.aload_n 1, 1) := by decide +kernel
theorem dX0_addFirstOf_23 : decode cX0_addFirstOf 23 = .ok (.getfield 15, 3) := by decide +kernel
theorem dX0_addFirstOf_26 : decode cX0_addFirstOf 26 = .ok (.iconst 0, 1) := by decide +kernel
theorem dX0_addFirstOf_27 : decode cX0_addFirstOf 27 = .ok (.aload_n 0, 1) := by decide +kernel
theorem dX0_addFirstOf_28 : decode cX0_addFirstOf 28 = .ok (.getfield 15, 3) := by decide +kernel
theorem dX0_addFirstOf_31 : decode cX0_addFirstOf 31 = .ok (.aload_n 0, 1) := by decide +kernel
theorem dX0_addFirstOf_32 : decode cX0_addFirstOf 32 = .ok (.getfield 19, 3) := by decide +kernel
theorem dX0_addFirstOf_35 : decode cX0_addFirstOf 35 = .ok (.iload_n 2, 1) := by decide +kernel
theorem dX0_addFirstOf_36 : decode cX0_addFirstOf 36 = .ok (.invokestatic 41, 3) := by decide +kernel
theorem dX0_addFirstOf_39 : decode cX0_addFirstOf 39 = .ok (.aload_n 0, 1) := by decide +kernel
theorem dX0_addFirstOf_40 : decode cX0_addFirstOf 40 = .ok (.dup, 1) := by decide +kernel
theorem dX0_addFirstOf_41 : decode cX0_addFirstOf 41 = .ok (.getfield 19, 3) := by decide +kernel
theorem dX0_addFirstOf_44 : decode cX0_addFirstOf 44 = .ok (.iload_n 2, 1) := by decide +kernel
theorem dX0_addFirstOf_45 : decode cX0_addFirstOf 45 = .ok (.iadd, 1) := by decide +kernel
theorem dX0_addFirstOf_46 : decode cX0_addFirstOf 46 = .ok (.putfield 19, 3) := by decide +kernel
theorem dX0_addFirstOf_49 : decode cX0_addFirstOf 49 = .ok (.iconst 1, 1) := by decide +kernel
theorem dX0_addFirstOf_50 : decode cX0_addFirstOf 50 = .ok (.ireturn, 1) := by decide +kernel
theorem dX0_clear_0 : decode cX0_clear 0 = .ok (.aload_n 0, 1) := by decide +kernel
theorem dX0_clear_1 : decode cX0_clear 1 = .ok (.iconst 0, 1) := by decide +kernel
theorem dX0_clear_2 : decode cX0_clear 2 = .ok (.putfield 19, 3) := by decide +kernel
theorem dX0_clear_5 : decode cX0_clear 5 = .ok (.return_, 1) := by decide +kernel
theorem dX1_clear_0 : decode cX1_clear 0 = .ok (.aload_n 0, 1) := by decide +kernel
theorem dX1_clear_1 : decode cX1_clear 1 = .ok (.iconst 0, 1) := by decide +kernel
theorem dX1_clear_2 : decode cX1_clear 2 = .ok (.putfield 28, 3) := by decide +kernel
theorem dX1_clear_5 : decode cX1_clear 5 = .ok (.aload_n 0, 1) := by decide +kernel
theorem dX1_clear_6 : decode cX1_clear 6 = .ok (.getfield 15, 3) := by decide +kernel
theorem dX1_clear_9 : decode cX1_clear 9 = .ok (.invokevirtual 32, 3) := by decide +kernel
theorem dX1_clear_12 : decode cX1_clear 12 = .ok (.return_, 1) := by decide +kernel
theorem dX0_at_0 : decode cX0_at 0 = .ok (.iload_n 1, 1) := by decide +kernel
theorem dX0_at_1 : decode cX0_at 1 = .ok (.ifCond .lt 24, 3) := by decide +kernel
theorem dX0_at_4 : decode cX0_at 4 = .ok (.iload_n 1, 1) := by decide +kernel
theorem dX0_at_5 : decode cX0_at 5 = .ok (.aload_n 0, 1) := by decide +kernel
theorem dX0_at_6 : decode cX0_at 6 = .ok (.getfield 19, 3) := by decide +kernel
theorem dX0_at_9 : decode cX0_at 9 = .ok (.if_icmp .ge 16, 3) := by decide +kernel
theorem dX0_at_12 : decode cX0_at 12 = .ok (.aload_n 0, 1) := by decide +kernel
theorem dX0_at_13 : decode cX0_at 13 = .ok (.getfield 15, 3) := by decide +kernel
theorem dX0_at_16 : decode cX0_at 16 = .ok (.iload_n 1, 1) := by decide +kernel
theorem dX0_at_17 : decode cX0_at 17 = .ok (.baload, 1) := by decide +kernel
theorem dX0_at_18 : decode cX0_at 18 = .ok (.sipush 255, 3) := by decide +kernel
theorem dX0_at_21 : decode cX0_at 21 = .ok (.iand, 1) := by decide +kernel
theorem dX0_at_22 : decode cX0_at 22 = .ok (.goto 4, 3) := by decide +kernel
theorem dX0_at_25 : decode cX0_at 25 = .ok (.iconst (-1), 1) := by decide +kernel
theorem dX0_at_26 : decode cX0_at 26 = .ok (.ireturn, 1) := by decide +kernel
theorem dX1_add_0 : decode cX1_add 0 = .ok (.aload_n 0, 1) := by decide +kernel
theorem dX1_add_1 : decode cX1_add 1 = .ok (.getfield 28, 3) := by decide +kernel
theorem dX1_add_4 : decode cX1_add 4 = .ok (.sipush 1024, 3) := by decide +kernel
theorem dX1_add_7 : decode cX1_add 7 = .ok (.if_icmp .lt 4, 3) := by decide +kernel
theorem dX1_add_10 : decode cX1_add 10 = .ok (.return_, 1) := by decide +kernel
theorem dX1_add_11 : decode cX1_add 11 = .ok (.aload_n 0, 1) := by decide +kernel
theorem dX1_add_12 : decode cX1_add 12 = .ok (.getfield 28, 3) := by decide +kernel
theorem dX1_add_15 : decode cX1_add 15 = .ok (.aload_n 0, 1) := by decide +kernel
theorem dX1_add_16 : decode cX1_add 16 = .ok (.getfield 21, 3) := by decide +kernel
theorem dX1_add_19 : decode cX1_add 19 = .ok (.arraylength, 1) := by decide +kernel
theorem dX1_add_20 : decode cX1_add 20 = .ok (.if_icmp .ge 15, 3) := by decide +kernel
theorem dX1_add_23 : decode cX1_add 23 = .ok (.aload_n 0, 1) := by decide +kernel
theorem dX1_add_24 : decode cX1_add 24 = .ok (.getfield 28, 3) := by decide +kernel
theorem dX1_add_27 : decode cX1_add 27 = .ok (.aload_n 0, 1) := by decide +kernel
theorem dX1_add_28 : decode cX1_add 28 = .ok (.getfield 25, 3) := by decide +kernel
theorem dX1_add_31 : decode cX1_add 31 = .ok (.arraylength, 1) := by decide +kernel
theorem dX1_add_32 : decode cX1_add 32 = .ok (.if_icmp .lt 40, 3) := by decide +kernel
theorem dX1_add_35 : decode cX1_add 35 = .ok (.sipush 1024, 3) := by decide +kernel
theorem dX1_add_38 : decode cX1_add 38 = .ok (.iconst 2, 1) := by decide +kernel
theorem dX1_add_39 : decode cX1_add 39 = .ok (.aload_n 0, 1) := by decide +kernel
theorem dX1_add_40 : decode cX1_add 40 = .ok (.getfield 28, 3) := by decide +kernel
theorem dX1_add_43 : decode cX1_add 43 = .ok (.imul, 1) := by decide +kernel
theorem dX1_add_44 : decode cX1_add 44 = .ok (.invokestatic 35, 3) := by decide +kernel
theorem dX1_add_47 : decode cX1_add 47 = .ok (.istore_n 3, 1) := by decide +kernel
theorem dX1_add_48 : decode cX1_add 48 = .ok (.aload_n 0, 1) := by decide +kernel
theorem dX1_add_49 : decode cX1_add 49 = .ok (.aload_n 0, 1) := by decide +kernel
theorem dX1_add_50 : decode cX1_add 50 = .ok (.getfield 21, 3) := by decide +kernel
theorem dX1_add_53 : decode cX1_add 53 = .ok (.iload_n 3, 1) := by decide +kernel
theorem dX1_add_54 : decode cX1_add 54 = .ok (.invokestatic 41, 3) := by decide +kernel
theorem dX1_add_57 : decode cX1_add 57 = .ok (.putfield 21, 3) := by decide +kernel
theorem dX1_add_60 : decode cX1_add 60 = .ok (.aload_n 0, 1) := by decide +kernel
theorem dX1_add_61 : decode cX1_add 61 = .ok (.aload_n 0, 1) := by decide +kernel
theorem dX1_add_62 : decode cX1_add 62 = .ok (.getfield 25, 3) := by decide +kernel
theorem dX1_add_65 : decode cX1_add 65 = .ok (.iload_n 3, 1) := by decide +kernel
theorem dX1_add_66 : decode cX1_add 66 = .ok (.invokestatic 41, 3) := by decide +kernel
theorem dX1_add_69 : decode cX1_add 69 = .ok (.putfield 25, 3) := by decide +kernel
theorem dX1_add_72 : decode cX1_add 72 = .ok (.aload_n 0, 1) := by decide +kernel
theorem dX1_add_73 : decode cX1_add 73 = .ok (.getfield 21, 3) := by decide +kernel
theorem dX1_add_76 : decode cX1_add 76 = .ok (.aload_n 0, 1) := by decide +kernel
theorem dX1_add_77 : decode cX1_add 77 = .ok (.getfield 28, 3) := by decide +kernel
theorem dX1_add_80 : decode cX1_add 80 = .ok (.iload_n 1, 1) := by decide +kernel
theorem dX1_add_81 : decode cX1_add 81 = .ok (.iastore, 1) := by decide +kernel
theorem dX1_add_82 : decode cX1_add 82 = .ok (.aload_n 0, 1) := by decide +kernel
theorem dX1_add_83 : decode cX1_add 83 = .ok (.getfield 25, 3) := by decide +kernel
theorem dX1_add_86 : decode cX1_add 86 = .ok (.aload_n 0, 1) := by decide +kernel
theorem dX1_add_87 : decode cX1_add 87 = .ok (.getfield 28, 3) := by decide +kernel
theorem dX1_add_90 : decode cX1_add 90 = .ok (.iload_n 2, 1) := by decide +kernel
theorem dX1_add_91 : decode cX1_add 91 = .ok (.iastore, 1) := by decide +kernel
theorem dX1_add_92 : decode cX1_add 92 = .ok (.aload_n 0, 1) := by decide +kernel
theorem dX1_add_93 : decode cX1_add 93 = .ok (.dup, 1) := by decide +kernel
theorem dX1_add_94 : decode cX1_add 94 = .ok (.getfield 28, 3) := by decide +kernel
theorem dX1_add_97 : decode cX1_add 97 = .ok (.iconst 1, 1) := by decide +kernel
theorem dX1_add_98 : decode cX1_add 98 = .ok (.iadd, 1) := by decide +kernel
theorem dX1_add_99 : decode cX1_add 99 = .ok (.putfield 28, 3) := by decide +kernel
theorem dX1_add_102 : decode cX1_add 102 = .ok (.return_, 1) := by decide +kernel
theorem dJ7_copyI_0 : decode cJ7_copyI 0 = .ok (.iload_n 1, 1) := by decide +kernel
theorem dJ7_copyI_1 : decode cJ7_copyI 1 = .ok (.aload_n 0, 1) := by decide +kernel
theorem dJ7_copyI_2 : decode cJ7_copyI 2 = .ok (.arraylength, 1) := by decide +kernel
theorem dJ7_copyI_3 : decode cJ7_copyI 3 = .ok (.if_icmp .ne 11, 3) := by decide +kernel
theorem dJ7_copyI_6 : decode cJ7_copyI 6 = .ok (.aload_n 0, 1) := by decide +kernel
theorem dJ7_copyI_7 : decode cJ7_copyI 7 = .ok (.invokevirtual 316, 3) := by decide +kernel
theorem dJ7_copyI_10 : decode cJ7_copyI 10 = .ok (.checkcast 317, 3) := by decide +kernel
theorem dJ7_copyI_13 : decode cJ7_copyI 13 = .ok (.areturn, 1) := by decide +kernel
theorem dJ7_copyI_14 : decode cJ7_copyI 14 = .ok (.iload_n 1, 1) := by decide +kernel
theorem dJ7_copyI_15 : decode cJ7_copyI 15 = .ok (.newarray .int, 2) := by decide +kernel
theorem dJ7_copyI_17 : decode cJ7_copyI 17 = .ok (.astore_n 2, 1) := by decide +kernel
theorem dJ7_copyI_18 : decode cJ7_copyI 18 = .ok (.aload_n 0, 1) := by decide +kernel
theorem dJ7_copyI_19 : decode cJ7_copyI 19 = .ok (.iconst 0, 1) := by decide +kernel
theorem dJ7_copyI_20 : decode cJ7_copyI 20 = .ok (.aload_n 2, 1) := by decide +kernel
theorem dJ7_copyI_21 : decode cJ7_copyI 21 = .ok (.iconst 0, 1) := by decide +kernel
theorem dJ7_copyI_22 : decode cJ7_copyI 22 = .ok (.aload_n 0, 1) := by decide +kernel
theorem dJ7_copyI_23 : decode cJ7_copyI 23 = .ok (.arraylength, 1) := by decide +kernel
theorem dJ7_copyI_24 : decode cJ7_copyI 24 = .ok (.iload_n 1, 1) := by decide +kernel
theorem dJ7_copyI_25 : decode cJ7_copyI 25 = .ok (.invokestatic 304, 3) := by decide +kernel
theorem dJ7_copyI_28 : decode cJ7_copyI 28 = .ok (.invokestatic 150, 3) := by decide +kernel
theorem dJ7_copyI_31 : decode cJ7_copyI 31 = .ok (.aload_n 2, 1) := by decide +kernel
theorem dJ7_copyI_32 : decode cJ7_copyI 32 = .ok (.areturn, 1) := by decide +kernel
theorem dX1_keepBytes_0 : decode cX1_keepBytes 0 = .ok (.aload_n 0, 1) := by decide +kernel
theorem dX1_keepBytes_1 : decode cX1_keepBytes 1 = .ok (.getfield 15, 3) := by decide +kernel
theorem dX1_keepBytes_4 : decode cX1_keepBytes 4 = .ok (.aload_n 1, 1) := by decide +kernel
theorem dX1_keepBytes_5 : decode cX1_keepBytes 5 = .ok (.iload_n 2, 1) := by decide +kernel
theorem dX1_keepBytes_6 : decode cX1_keepBytes 6 = .ok (.invokevirtual 47, 3) := by decide +kernel
theorem dX1_keepBytes_9 : decode cX1_keepBytes 9 = .ok (.pop, 1) := by decide +kernel
theorem dX1_keepBytes_10 : decode cX1_keepBytes 10 = .ok (.return_, 1) := by decide +kernel
theorem dX0_removeFirst_0 : decode cX0_removeFirst 0 = .ok (.iload_n 1, 1) := by decide +kernel
theorem dX0_removeFirst_1 : decode cX0_removeFirst 1 = .ok (.ifCond .lt 11, 3) := by decide +kernel
theorem dX0_removeFirst_4 : decode cX0_removeFirst 4 = .ok (.iload_n 1, 1) := by decide +kernel
theorem dX0_removeFirst_5 : decode cX0_removeFirst 5 = .ok (.aload_n 0, 1) := by decide +kernel
theorem dX0_removeFirst_6 : decode cX0_removeFirst 6 = .ok (.getfield 19, 3) := by decide +kernel
theorem dX0_removeFirst_9 : decode cX0_removeFirst 9 = .ok (.if_icmp .le 5, 3) := by decide +kernel
theorem dX0_removeFirst_12 : decode cX0_removeFirst 12 = .ok (.iconst 0, 1) := by decide +kernel
theorem dX0_removeFirst_13 : decode cX0_removeFirst 13 = .ok (.ireturn, 1) := by decide +kernel
theorem dX0_removeFirst_14 : decode cX0_removeFirst 14 = .ok (.aload_n 0, 1) := by decide +kernel
theorem dX0_removeFirst_15 : decode cX0_removeFirst 15 = .ok (.getfield 15, 3) := by decide +kernel
theorem dX0_removeFirst_18 : decode cX0_removeFirst 18 = .ok (.iload_n 1, 1) := by decide +kernel
theorem dX0_removeFirst_19 : decode cX0_removeFirst 19 = .ok (.aload_n 0, 1) := by decide +kernel
theorem dX0_removeFirst_20 : decode cX0_removeFirst 20 = .ok (.getfield 15, 3) := by decide +kernel
theorem dX0_removeFirst_23 : decode cX0_removeFirst 23 = .ok (.iconst 0, 1) := by decide +kernel
theorem dX0_removeFirst_24 : decode cX0_removeFirst 24 = .ok (.aload_n 0, 1) := by decide +kernel
theorem dX0_removeFirst_25 : decode cX0_removeFirst 25 = .ok (.getfield 19, 3) := by decide +kernel
theorem dX0_removeFirst_28 : decode cX0_removeFirst 28 = .ok (.iload_n 1, 1) := by decide +kernel
theorem dX0_removeFirst_29 : decode cX0_removeFirst 29 = .ok (.isub, 1) := by decide +kernel
theorem dX0_removeFirst_30 : decode cX0_removeFirst 30 = .ok (.invokestatic 41, 3) := by decide +kernel
theorem dX0_removeFirst_33 : decode cX0_removeFirst 33 = .ok (.aload_n 0, 1) := by decide +kernel
theorem dX0_removeFirst_34 : decode cX0_removeFirst 34 = .ok (.dup, 1) := by decide +kernel
theorem dX0_removeFirst_35 : decode cX0_removeFirst 35 = .ok (.getfield 19, 3) := by decide +kernel
theorem dX0_removeFirst_38 : decode cX0_removeFirst 38 = .ok (.iload_n 1, 1) := by decide +kernel
theorem dX0_removeFirst_39 : decode cX0_removeFirst 39 = .ok (.isub, 1) := by decide +kernel
theorem dX0_removeFirst_40 : decode cX0_removeFirst 40 = .ok (.putfield 19, 3) := by decide +kernel
theorem dX0_removeFirst_43 : decode cX0_removeFirst 43 = .ok (.iconst 1, 1) := by decide +kernel
theorem dX0_removeFirst_44 : decode cX0_removeFirst 44 = .ok (.ireturn, 1) := by decide +kernel
theorem dX1_count_0 : decode cX1_count 0 = .ok (.aload_n 0, 1) := by decide +kernel
theorem dX1_count_1 : decode cX1_count 1 = .ok (.getfield 28, 3) := by decide +kernel
theorem dX1_count_4 : decode cX1_count 4 = .ok (.ireturn, 1) := by decide +kernel
theorem dX1_sizeOf_0 : decode cX1_sizeOf 0 = .ok (.iload_n 1, 1) := by decide +kernel
theorem dX1_sizeOf_1 : decode cX1_sizeOf 1 = .ok (.ifCond .lt 20, 3) := by decide +kernel
theorem dX1_sizeOf_4 : decode cX1_sizeOf 4 = .ok (.iload_n 1, 1) := by decide +kernel
theorem dX1_sizeOf_5 : decode cX1_sizeOf 5 = .ok (.aload_n 0, 1) := by decide +kernel
theorem dX1_sizeOf_6 : decode cX1_sizeOf 6 = .ok (.getfield 28, 3) := by decide +kernel
theorem dX1_sizeOf_9 : decode cX1_sizeOf 9 = .ok (.if_icmp .ge 12, 3) := by decide +kernel
theorem dX1_sizeOf_12 : decode cX1_sizeOf 12 = .ok (.aload_n 0, 1) := by decide +kernel
theorem dX1_sizeOf_13 : decode cX1_sizeOf 13 = .ok (.getfield 25, 3) := by decide +kernel
theorem dX1_sizeOf_16 : decode cX1_sizeOf 16 = .ok (.iload_n 1, 1) := by decide +kernel
theorem dX1_sizeOf_17 : decode cX1_sizeOf 17 = .ok (.iaload, 1) := by decide +kernel
theorem dX1_sizeOf_18 : decode cX1_sizeOf 18 = .ok (.goto 4, 3) := by decide +kernel
theorem dX1_sizeOf_21 : decode cX1_sizeOf 21 = .ok (.iconst (-1), 1) := by decide +kernel
theorem dX1_sizeOf_22 : decode cX1_sizeOf 22 = .ok (.ireturn, 1) := by decide +kernel
theorem dX1_byteAt_0 : decode cX1_byteAt 0 = .ok (.iload_n 1, 1) := by decide +kernel
theorem dX1_byteAt_1 : decode cX1_byteAt 1 = .ok (.ifCond .lt 25, 3) := by decide +kernel
theorem dX1_byteAt_4 : decode cX1_byteAt 4 = .ok (.iload_n 1, 1) := by decide +kernel
theorem dX1_byteAt_5 : decode cX1_byteAt 5 = .ok (.aload_n 0, 1) := by decide +kernel
theorem dX1_byteAt_6 : decode cX1_byteAt 6 = .ok (.getfield 28, 3) := by decide +kernel
theorem dX1_byteAt_9 : decode cX1_byteAt 9 = .ok (.if_icmp .ge 17, 3) := by decide +kernel
theorem dX1_byteAt_12 : decode cX1_byteAt 12 = .ok (.iload_n 2, 1) := by decide +kernel
theorem dX1_byteAt_13 : decode cX1_byteAt 13 = .ok (.ifCond .lt 13, 3) := by decide +kernel
theorem dX1_byteAt_16 : decode cX1_byteAt 16 = .ok (.iload_n 2, 1) := by decide +kernel
theorem dX1_byteAt_17 : decode cX1_byteAt 17 = .ok (.aload_n 0, 1) := by decide +kernel
theorem dX1_byteAt_18 : decode cX1_byteAt 18 = .ok (.getfield 25, 3) := by decide +kernel
theorem dX1_byteAt_21 : decode cX1_byteAt 21 = .ok (.iload_n 1, 1) := by decide +kernel
theorem dX1_byteAt_22 : decode cX1_byteAt 22 = .ok (.iaload, 1) := by decide +kernel
theorem dX1_byteAt_23 : decode cX1_byteAt 23 = .ok (.if_icmp .lt 5, 3) := by decide +kernel
theorem dX1_byteAt_26 : decode cX1_byteAt 26 = .ok (.iconst (-1), 1) := by decide +kernel
theorem dX1_byteAt_27 : decode cX1_byteAt 27 = .ok (.ireturn, 1) := by decide +kernel
theorem dX1_byteAt_28 : decode cX1_byteAt 28 = .ok (.aload_n 0, 1) := by decide +kernel
theorem dX1_byteAt_29 : decode cX1_byteAt 29 = .ok (.getfield 15, 3) := by decide +kernel
theorem dX1_byteAt_32 : decode cX1_byteAt 32 = .ok (.aload_n 0, 1) := by decide +kernel
theorem dX1_byteAt_33 : decode cX1_byteAt 33 = .ok (.getfield 21, 3) := by decide +kernel
theorem dX1_byteAt_36 : decode cX1_byteAt 36 = .ok (.iload_n 1, 1) := by decide +kernel
theorem dX1_byteAt_37 : decode cX1_byteAt 37 = .ok (.iaload, 1) := by decide +kernel
theorem dX1_byteAt_38 : decode cX1_byteAt 38 = .ok (.iload_n 2, 1) := by decide +kernel
theorem dX1_byteAt_39 : decode cX1_byteAt 39 = .ok (.iadd, 1) := by decide +kernel
theorem dX1_byteAt_40 : decode cX1_byteAt 40 = .ok (.invokevirtual 51, 3) := by decide +kernel
theorem dX1_byteAt_43 : decode cX1_byteAt 43 = .ok (.ireturn, 1) := by decide +kernel
