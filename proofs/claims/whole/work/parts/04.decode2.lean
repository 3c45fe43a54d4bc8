theorem dX2_init_0 : decode cX2_init 0 = .ok (.aload_n 0, 1) := by decide +kernel
theorem dX2_init_1 : decode cX2_init 1 = .ok (.invokespecial 1, 3) := by decide +kernel
theorem dX2_init_4 : decode cX2_init 4 = .ok (.aload_n 0, 1) := by decide +kernel
theorem dX2_init_5 : decode cX2_init 5 = .ok (.new 7, 3) := by decide +kernel
theorem dX2_init_8 : decode cX2_init 8 = .ok (.dup, 1) := by decide +kernel
theorem dX2_init_9 : decode cX2_init 9 = .ok (.sipush 10240, 3) := by decide +kernel
theorem dX2_init_12 : decode cX2_init 12 = .ok (.invokespecial 11, 3) := by decide +kernel
theorem dX2_init_15 : decode cX2_init 15 = .ok (.putfield 14, 3) := by decide +kernel
theorem dX2_init_18 : decode cX2_init 18 = .ok (.aload_n 0, 1) := by decide +kernel
theorem dX2_init_19 : decode cX2_init 19 = .ok (.new 7, 3) := by decide +kernel
theorem dX2_init_22 : decode cX2_init 22 = .ok (.dup, 1) := by decide +kernel
theorem dX2_init_23 : decode cX2_init 23 = .ok (.ldc 18, 2) := by decide +kernel
theorem dX2_init_25 : decode cX2_init 25 = .ok (.invokespecial 11, 3) := by decide +kernel
theorem dX2_init_28 : decode cX2_init 28 = .ok (.putfield 19, 3) := by decide +kernel
theorem dX2_init_31 : decode cX2_init 31 = .ok (.aload_n 0, 1) := by decide +kernel
theorem dX2_init_32 : decode cX2_init 32 = .ok (.new 22, 3) := by decide +kernel
theorem dX2_init_35 : decode cX2_init 35 = .ok (.dup, 1) := by decide +kernel
theorem dX2_init_36 : decode cX2_init 36 = .ok (.invokespecial 24, 3) := by decide +kernel
theorem dX2_init_39 : decode cX2_init 39 = .ok (.putfield 25, 3) := by decide +kernel
theorem dX2_init_42 : decode cX2_init 42 = .ok (.aload_n 0, 1) := by decide +kernel
theorem dX2_init_43 : decode cX2_init 43 = .ok (.iconst 0, 1) := by decide +kernel
theorem dX2_init_44 : decode cX2_init 44 = .ok (.putfield 29, 3) := by decide +kernel
theorem dX2_init_47 : decode cX2_init 47 = .ok (.aload_n 0, 1) := by decide +kernel
theorem dX2_init_48 : decode cX2_init 48 = .ok (.iconst 0, 1) := by decide +kernel
theorem dX2_init_49 : decode cX2_init 49 = .ok (.putfield 33, 3) := by decide +kernel
theorem dX2_init_52 : decode cX2_init 52 = .ok (.return_, 1) := by decide +kernel
theorem dX2_feed_0 : decode cX2_feed 0 = .ok (.aload_n 0, 1) := by decide +kernel
theorem dX2_feed_1 : decode cX2_feed 1 = .ok (.getfield 14, 3) := by decide +kernel
theorem dX2_feed_4 : decode cX2_feed 4 = .ok (.bipush 20, 2) := by decide +kernel
theorem dX2_feed_6 : decode cX2_feed 6 = .ok (.invokevirtual 36, 3) := by decide +kernel
theorem dX2_feed_9 : decode cX2_feed 9 = .ok (.ifCond .ne 5, 3) := by decide +kernel
theorem dX2_feed_12 : decode cX2_feed 12 = .ok (.iconst 0, 1) := by decide +kernel
theorem dX2_feed_13 : decode cX2_feed 13 = .ok (.ireturn, 1) := by decide +kernel
theorem dX2_feed_14 : decode cX2_feed 14 = .ok (.aload_n 0, 1) := by decide +kernel
theorem dX2_feed_15 : decode cX2_feed 15 = .ok (.getfield 14, 3) := by decide +kernel
theorem dX2_feed_18 : decode cX2_feed 18 = .ok (.iload_n 1, 1) := by decide +kernel
theorem dX2_feed_19 : decode cX2_feed 19 = .ok (.invokevirtual 40, 3) := by decide +kernel
theorem dX2_feed_22 : decode cX2_feed 22 = .ok (.aload_n 0, 1) := by decide +kernel
theorem dX2_feed_23 : decode cX2_feed 23 = .ok (.getfield 14, 3) := by decide +kernel
theorem dX2_feed_26 : decode cX2_feed 26 = .ok (.iload_n 2, 1) := by decide +kernel
theorem dX2_feed_27 : decode cX2_feed 27 = .ok (.invokevirtual 40, 3) := by decide +kernel
theorem dX2_feed_30 : decode cX2_feed 30 = .ok (.aload_n 0, 1) := by decide +kernel
theorem dX2_feed_31 : decode cX2_feed 31 = .ok (.getfield 14, 3) := by decide +kernel
theorem dX2_feed_34 : decode cX2_feed 34 = .ok (.iload_n 3, 1) := by decide +kernel
theorem dX2_feed_35 : decode cX2_feed 35 = .ok (.invokevirtual 40, 3) := by decide +kernel
theorem dX2_feed_38 : decode cX2_feed 38 = .ok (.aload_n 0, 1) := by decide +kernel
theorem dX2_feed_39 : decode cX2_feed 39 = .ok (.getfield 14, 3) := by decide +kernel
theorem dX2_feed_42 : decode cX2_feed 42 = .ok (.iload 4, 2) := by decide +kernel
theorem dX2_feed_44 : decode cX2_feed 44 = .ok (.invokevirtual 40, 3) := by decide +kernel
theorem dX2_feed_47 : decode cX2_feed 47 = .ok (.aload_n 0, 1) := by decide +kernel
theorem dX2_feed_48 : decode cX2_feed 48 = .ok (.getfield 14, 3) := by decide +kernel
theorem dX2_feed_51 : decode cX2_feed 51 = .ok (.iload 5, 2) := by decide +kernel
theorem dX2_feed_53 : decode cX2_feed 53 = .ok (.invokevirtual 40, 3) := by decide +kernel
theorem dX2_feed_56 : decode cX2_feed 56 = .ok (.iconst 1, 1) := by decide +kernel
theorem dX2_feed_57 : decode cX2_feed 57 = .ok (.ireturn, 1) := by decide +kernel
theorem dX2_end_0 : decode cX2_end 0 = .ok (.aload_n 0, 1) := by decide +kernel
theorem dX2_end_1 : decode cX2_end 1 = .ok (.getfield 14, 3) := by decide +kernel
theorem dX2_end_4 : decode cX2_end 4 = .ok (.iload_n 1, 1) := by decide +kernel
theorem dX2_end_5 : decode cX2_end 5 = .ok (.invokevirtual 43, 3) := by decide +kernel
theorem dX2_end_8 : decode cX2_end 8 = .ok (.ireturn, 1) := by decide +kernel
theorem dX2_arrive_0 : decode cX2_arrive 0 = .ok (.aload_n 0, 1) := by decide +kernel
theorem dX2_arrive_1 : decode cX2_arrive 1 = .ok (.getfield 19, 3) := by decide +kernel
theorem dX2_arrive_4 : decode cX2_arrive 4 = .ok (.aload_n 0, 1) := by decide +kernel
theorem dX2_arrive_5 : decode cX2_arrive 5 = .ok (.getfield 14, 3) := by decide +kernel
theorem dX2_arrive_8 : decode cX2_arrive 8 = .ok (.aload_n 0, 1) := by decide +kernel
theorem dX2_arrive_9 : decode cX2_arrive 9 = .ok (.getfield 14, 3) := by decide +kernel
theorem dX2_arrive_12 : decode cX2_arrive 12 = .ok (.invokevirtual 46, 3) := by decide +kernel
theorem dX2_arrive_15 : decode cX2_arrive 15 = .ok (.invokevirtual 50, 3) := by decide +kernel
theorem dX2_arrive_18 : decode cX2_arrive 18 = .ok (.istore_n 1, 1) := by decide +kernel
theorem dX2_arrive_19 : decode cX2_arrive 19 = .ok (.aload_n 0, 1) := by decide +kernel
theorem dX2_arrive_20 : decode cX2_arrive 20 = .ok (.getfield 14, 3) := by decide +kernel
theorem dX2_arrive_23 : decode cX2_arrive 23 = .ok (.invokevirtual 54, 3) := by decide +kernel
theorem dX2_arrive_26 : decode cX2_arrive 26 = .ok (.iload_n 1, 1) := by decide +kernel
theorem dX2_arrive_27 : decode cX2_arrive 27 = .ok (.ifCond .eq 13, 3) := by decide +kernel
theorem dX2_arrive_30 : decode cX2_arrive 30 = .ok (.aload_n 0, 1) := by decide +kernel
theorem dX2_arrive_31 : decode cX2_arrive 31 = .ok (.getfield 19, 3) := by decide +kernel
theorem dX2_arrive_34 : decode cX2_arrive 34 = .ok (.invokevirtual 46, 3) := by decide +kernel
theorem dX2_arrive_37 : decode cX2_arrive 37 = .ok (.goto 4, 3) := by decide +kernel
theorem dX2_arrive_40 : decode cX2_arrive 40 = .ok (.iconst (-1), 1) := by decide +kernel
theorem dX2_arrive_41 : decode cX2_arrive 41 = .ok (.ireturn, 1) := by decide +kernel
theorem dX2_cut_0 : decode cX2_cut 0 = .ok (.aload_n 0, 1) := by decide +kernel
theorem dX2_cut_1 : decode cX2_cut 1 = .ok (.iconst 0, 1) := by decide +kernel
theorem dX2_cut_2 : decode cX2_cut 2 = .ok (.putfield 29, 3) := by decide +kernel
theorem dX2_cut_5 : decode cX2_cut 5 = .ok (.aload_n 0, 1) := by decide +kernel
theorem dX2_cut_6 : decode cX2_cut 6 = .ok (.getfield 25, 3) := by decide +kernel
theorem dX2_cut_9 : decode cX2_cut 9 = .ok (.invokevirtual 57, 3) := by decide +kernel
theorem dX2_cut_12 : decode cX2_cut 12 = .ok (.aload_n 0, 1) := by decide +kernel
theorem dX2_cut_13 : decode cX2_cut 13 = .ok (.getfield 19, 3) := by decide +kernel
theorem dX2_cut_16 : decode cX2_cut 16 = .ok (.iconst 0, 1) := by decide +kernel
theorem dX2_cut_17 : decode cX2_cut 17 = .ok (.invokevirtual 58, 3) := by decide +kernel
theorem dX2_cut_20 : decode cX2_cut 20 = .ok (.bipush 42, 2) := by decide +kernel
theorem dX2_cut_22 : decode cX2_cut 22 = .ok (.if_icmp .ne 10, 3) := by decide +kernel
theorem dX2_cut_25 : decode cX2_cut 25 = .ok (.aload_n 0, 1) := by decide +kernel
theorem dX2_cut_26 : decode cX2_cut 26 = .ok (.invokevirtual 62, 3) := by decide +kernel
theorem dX2_cut_29 : decode cX2_cut 29 = .ok (.goto 7, 3) := by decide +kernel
theorem dX2_cut_32 : decode cX2_cut 32 = .ok (.aload_n 0, 1) := by decide +kernel
theorem dX2_cut_33 : decode cX2_cut 33 = .ok (.invokevirtual 65, 3) := by decide +kernel
theorem dX2_cut_36 : decode cX2_cut 36 = .ok (.istore_n 1, 1) := by decide +kernel
theorem dX2_cut_37 : decode cX2_cut 37 = .ok (.iload_n 1, 1) := by decide +kernel
theorem dX2_cut_38 : decode cX2_cut 38 = .ok (.ifCond .ge 12, 3) := by decide +kernel
theorem dX2_cut_41 : decode cX2_cut 41 = .ok (.aload_n 0, 1) := by decide +kernel
theorem dX2_cut_42 : decode cX2_cut 42 = .ok (.getfield 25, 3) := by decide +kernel
theorem dX2_cut_45 : decode cX2_cut 45 = .ok (.invokevirtual 57, 3) := by decide +kernel
theorem dX2_cut_48 : decode cX2_cut 48 = .ok (.iload_n 1, 1) := by decide +kernel
theorem dX2_cut_49 : decode cX2_cut 49 = .ok (.ireturn, 1) := by decide +kernel
theorem dX2_cut_50 : decode cX2_cut 50 = .ok (.aload_n 0, 1) := by decide +kernel
theorem dX2_cut_51 : decode cX2_cut 51 = .ok (.getfield 25, 3) := by decide +kernel
theorem dX2_cut_54 : decode cX2_cut 54 = .ok (.aload_n 0, 1) := by decide +kernel
theorem dX2_cut_55 : decode cX2_cut 55 = .ok (.getfield 19, 3) := by decide +kernel
theorem dX2_cut_58 : decode cX2_cut 58 = .ok (.iload_n 1, 1) := by decide +kernel
theorem dX2_cut_59 : decode cX2_cut 59 = .ok (.invokevirtual 68, 3) := by decide +kernel
theorem dX2_cut_62 : decode cX2_cut 62 = .ok (.aload_n 0, 1) := by decide +kernel
theorem dX2_cut_63 : decode cX2_cut 63 = .ok (.getfield 19, 3) := by decide +kernel
theorem dX2_cut_66 : decode cX2_cut 66 = .ok (.iload_n 1, 1) := by decide +kernel
theorem dX2_cut_67 : decode cX2_cut 67 = .ok (.invokevirtual 72, 3) := by decide +kernel
theorem dX2_cut_70 : decode cX2_cut 70 = .ok (.pop, 1) := by decide +kernel
theorem dX2_cut_71 : decode cX2_cut 71 = .ok (.aload_n 0, 1) := by decide +kernel
theorem dX2_cut_72 : decode cX2_cut 72 = .ok (.getfield 25, 3) := by decide +kernel
theorem dX2_cut_75 : decode cX2_cut 75 = .ok (.invokevirtual 75, 3) := by decide +kernel
theorem dX2_cut_78 : decode cX2_cut 78 = .ok (.ireturn, 1) := by decide +kernel
theorem dX2_scanCounted_0 : decode cX2_scanCounted 0 = .ok (.aload_n 0, 1) := by decide +kernel
theorem dX2_scanCounted_1 : decode cX2_scanCounted 1 = .ok (.iconst 0, 1) := by decide +kernel
theorem dX2_scanCounted_2 : decode cX2_scanCounted 2 = .ok (.ldc 83, 2) := by decide +kernel
theorem dX2_scanCounted_4 : decode cX2_scanCounted 4 = .ok (.sipush 1024, 3) := by decide +kernel
theorem dX2_scanCounted_7 : decode cX2_scanCounted 7 = .ok (.iconst 1, 1) := by decide +kernel
theorem dX2_scanCounted_8 : decode cX2_scanCounted 8 = .ok (.invokevirtual 84, 3) := by decide +kernel
theorem dX2_scanCounted_11 : decode cX2_scanCounted 11 = .ok (.istore_n 1, 1) := by decide +kernel
theorem dX2_scanCounted_12 : decode cX2_scanCounted 12 = .ok (.aload_n 0, 1) := by decide +kernel
theorem dX2_scanCounted_13 : decode cX2_scanCounted 13 = .ok (.getfield 33, 3) := by decide +kernel
theorem dX2_scanCounted_16 : decode cX2_scanCounted 16 = .ok (.istore_n 2, 1) := by decide +kernel
theorem dX2_scanCounted_17 : decode cX2_scanCounted 17 = .ok (.iconst 0, 1) := by decide +kernel
theorem dX2_scanCounted_18 : decode cX2_scanCounted 18 = .ok (.istore_n 3, 1) := by decide +kernel
theorem dX2_scanCounted_19 : decode cX2_scanCounted 19 = .ok (.iload_n 3, 1) := by decide +kernel
theorem dX2_scanCounted_20 : decode cX2_scanCounted 20 = .ok (.iload_n 2, 1) := by decide +kernel
theorem dX2_scanCounted_21 : decode cX2_scanCounted 21 = .ok (.if_icmp .ge 19, 3) := by decide +kernel
theorem dX2_scanCounted_24 : decode cX2_scanCounted 24 = .ok (.iload_n 1, 1) := by decide +kernel
theorem dX2_scanCounted_25 : decode cX2_scanCounted 25 = .ok (.ifCond .lt 15, 3) := by decide +kernel
theorem dX2_scanCounted_28 : decode cX2_scanCounted 28 = .ok (.aload_n 0, 1) := by decide +kernel
theorem dX2_scanCounted_29 : decode cX2_scanCounted 29 = .ok (.iload_n 1, 1) := by decide +kernel
theorem dX2_scanCounted_30 : decode cX2_scanCounted 30 = .ok (.invokevirtual 88, 3) := by decide +kernel
theorem dX2_scanCounted_33 : decode cX2_scanCounted 33 = .ok (.istore_n 1, 1) := by decide +kernel
theorem dX2_scanCounted_34 : decode cX2_scanCounted 34 = .ok (.iinc 3 1, 3) := by decide +kernel
theorem dX2_scanCounted_37 : decode cX2_scanCounted 37 = .ok (.goto (-18), 3) := by decide +kernel
theorem dX2_scanCounted_40 : decode cX2_scanCounted 40 = .ok (.iload_n 1, 1) := by decide +kernel
theorem dX2_scanCounted_41 : decode cX2_scanCounted 41 = .ok (.ireturn, 1) := by decide +kernel
theorem dX2_scanLine_0 : decode cX2_scanLine 0 = .ok (.aload_n 0, 1) := by decide +kernel
theorem dX2_scanLine_1 : decode cX2_scanLine 1 = .ok (.iload_n 1, 1) := by decide +kernel
theorem dX2_scanLine_2 : decode cX2_scanLine 2 = .ok (.invokevirtual 101, 3) := by decide +kernel
theorem dX2_scanLine_5 : decode cX2_scanLine 5 = .ok (.istore 5, 2) := by decide +kernel
theorem dX2_scanLine_7 : decode cX2_scanLine 7 = .ok (.iload 5, 2) := by decide +kernel
theorem dX2_scanLine_9 : decode cX2_scanLine 9 = .ok (.iconst (-1), 1) := by decide +kernel
theorem dX2_scanLine_10 : decode cX2_scanLine 10 = .ok (.if_icmp .ne 28, 3) := by decide +kernel
theorem dX2_scanLine_13 : decode cX2_scanLine 13 = .ok (.aload_n 0, 1) := by decide +kernel
theorem dX2_scanLine_14 : decode cX2_scanLine 14 = .ok (.getfield 19, 3) := by decide +kernel
theorem dX2_scanLine_17 : decode cX2_scanLine 17 = .ok (.invokevirtual 46, 3) := by decide +kernel
theorem dX2_scanLine_20 : decode cX2_scanLine 20 = .ok (.iload_n 1, 1) := by decide +kernel
theorem dX2_scanLine_21 : decode cX2_scanLine 21 = .ok (.isub, 1) := by decide +kernel
theorem dX2_scanLine_22 : decode cX2_scanLine 22 = .ok (.bipush 16, 2) := by decide +kernel
theorem dX2_scanLine_24 : decode cX2_scanLine 24 = .ok (.if_icmp .lt 12, 3) := by decide +kernel
theorem dX2_scanLine_27 : decode cX2_scanLine 27 = .ok (.aload_n 0, 1) := by decide +kernel
theorem dX2_scanLine_28 : decode cX2_scanLine 28 = .ok (.iload 4, 2) := by decide +kernel
theorem dX2_scanLine_30 : decode cX2_scanLine 30 = .ok (.invokevirtual 91, 3) := by decide +kernel
theorem dX2_scanLine_33 : decode cX2_scanLine 33 = .ok (.goto 4, 3) := by decide +kernel
theorem dX2_scanLine_36 : decode cX2_scanLine 36 = .ok (.iconst (-1), 1) := by decide +kernel
theorem dX2_scanLine_37 : decode cX2_scanLine 37 = .ok (.ireturn, 1) := by decide +kernel
theorem dX2_scanLine_38 : decode cX2_scanLine 38 = .ok (.aload_n 0, 1) := by decide +kernel
theorem dX2_scanLine_39 : decode cX2_scanLine 39 = .ok (.iload_n 1, 1) := by decide +kernel
theorem dX2_scanLine_40 : decode cX2_scanLine 40 = .ok (.iconst 1, 1) := by decide +kernel
theorem dX2_scanLine_41 : decode cX2_scanLine 41 = .ok (.iadd, 1) := by decide +kernel
theorem dX2_scanLine_42 : decode cX2_scanLine 42 = .ok (.iload 5, 2) := by decide +kernel
theorem dX2_scanLine_44 : decode cX2_scanLine 44 = .ok (.invokevirtual 104, 3) := by decide +kernel
theorem dX2_scanLine_47 : decode cX2_scanLine 47 = .ok (.ifCond .eq 19, 3) := by decide +kernel
theorem dX2_scanLine_50 : decode cX2_scanLine 50 = .ok (.aload_n 0, 1) := by decide +kernel
theorem dX2_scanLine_51 : decode cX2_scanLine 51 = .ok (.getfield 33, 3) := by decide +kernel
theorem dX2_scanLine_54 : decode cX2_scanLine 54 = .ok (.iload_n 2, 1) := by decide +kernel
theorem dX2_scanLine_55 : decode cX2_scanLine 55 = .ok (.if_icmp .lt 11, 3) := by decide +kernel
theorem dX2_scanLine_58 : decode cX2_scanLine 58 = .ok (.aload_n 0, 1) := by decide +kernel
theorem dX2_scanLine_59 : decode cX2_scanLine 59 = .ok (.getfield 33, 3) := by decide +kernel
theorem dX2_scanLine_62 : decode cX2_scanLine 62 = .ok (.iload_n 3, 1) := by decide +kernel
theorem dX2_scanLine_63 : decode cX2_scanLine 63 = .ok (.if_icmp .le 10, 3) := by decide +kernel
theorem dX2_scanLine_66 : decode cX2_scanLine 66 = .ok (.aload_n 0, 1) := by decide +kernel
theorem dX2_scanLine_67 : decode cX2_scanLine 67 = .ok (.iload 4, 2) := by decide +kernel
theorem dX2_scanLine_69 : decode cX2_scanLine 69 = .ok (.invokevirtual 91, 3) := by decide +kernel
theorem dX2_scanLine_72 : decode cX2_scanLine 72 = .ok (.ireturn, 1) := by decide +kernel
theorem dX2_scanLine_73 : decode cX2_scanLine 73 = .ok (.iload 5, 2) := by decide +kernel
theorem dX2_scanLine_75 : decode cX2_scanLine 75 = .ok (.iconst 2, 1) := by decide +kernel
theorem dX2_scanLine_76 : decode cX2_scanLine 76 = .ok (.iadd, 1) := by decide +kernel
theorem dX2_scanLine_77 : decode cX2_scanLine 77 = .ok (.ireturn, 1) := by decide +kernel
theorem dX2_findLineStop_0 : decode cX2_findLineStop 0 = .ok (.iload_n 1, 1) := by decide +kernel
theorem dX2_findLineStop_1 : decode cX2_findLineStop 1 = .ok (.iconst 1, 1) := by decide +kernel
theorem dX2_findLineStop_2 : decode cX2_findLineStop 2 = .ok (.iadd, 1) := by decide +kernel
theorem dX2_findLineStop_3 : decode cX2_findLineStop 3 = .ok (.istore_n 2, 1) := by decide +kernel
theorem dX2_findLineStop_4 : decode cX2_findLineStop 4 = .ok (.iload_n 2, 1) := by decide +kernel
theorem dX2_findLineStop_5 : decode cX2_findLineStop 5 = .ok (.iload_n 1, 1) := by decide +kernel
theorem dX2_findLineStop_6 : decode cX2_findLineStop 6 = .ok (.bipush 16, 2) := by decide +kernel
theorem dX2_findLineStop_8 : decode cX2_findLineStop 8 = .ok (.iadd, 1) := by decide +kernel
theorem dX2_findLineStop_9 : decode cX2_findLineStop 9 = .ok (.iconst 1, 1) := by decide +kernel
theorem dX2_findLineStop_10 : decode cX2_findLineStop 10 = .ok (.isub, 1) := by decide +kernel
theorem dX2_findLineStop_11 : decode cX2_findLineStop 11 = .ok (.if_icmp .ge 39, 3) := by decide +kernel
theorem dX2_findLineStop_14 : decode cX2_findLineStop 14 = .ok (.aload_n 0, 1) := by decide +kernel
theorem dX2_findLineStop_15 : decode cX2_findLineStop 15 = .ok (.getfield 19, 3) := by decide +kernel
theorem dX2_findLineStop_18 : decode cX2_findLineStop 18 = .ok (.iload_n 2, 1) := by decide +kernel
theorem dX2_findLineStop_19 : decode cX2_findLineStop 19 = .ok (.invokevirtual 58, 3) := by decide +kernel
theorem dX2_findLineStop_22 : decode cX2_findLineStop 22 = .ok (.bipush 13, 2) := by decide +kernel
theorem dX2_findLineStop_24 : decode cX2_findLineStop 24 = .ok (.if_icmp .ne 20, 3) := by decide +kernel
theorem dX2_findLineStop_27 : decode cX2_findLineStop 27 = .ok (.aload_n 0, 1) := by decide +kernel
theorem dX2_findLineStop_28 : decode cX2_findLineStop 28 = .ok (.getfield 19, 3) := by decide +kernel
theorem dX2_findLineStop_31 : decode cX2_findLineStop 31 = .ok (.iload_n 2, 1) := by decide +kernel
theorem dX2_findLineStop_32 : decode cX2_findLineStop 32 = .ok (.iconst 1, 1) := by decide +kernel
theorem dX2_findLineStop_33 : decode cX2_findLineStop 33 = .ok (.iadd, 1) := by decide +kernel
theorem dX2_findLineStop_34 : decode cX2_findLineStop 34 = .ok (.invokevirtual 58, 3) := by decide +kernel
theorem dX2_findLineStop_37 : decode cX2_findLineStop 37 = .ok (.bipush 10, 2) := by decide +kernel
theorem dX2_findLineStop_39 : decode cX2_findLineStop 39 = .ok (.if_icmp .ne 5, 3) := by decide +kernel
theorem dX2_findLineStop_42 : decode cX2_findLineStop 42 = .ok (.iload_n 2, 1) := by decide +kernel
theorem dX2_findLineStop_43 : decode cX2_findLineStop 43 = .ok (.ireturn, 1) := by decide +kernel
theorem dX2_findLineStop_44 : decode cX2_findLineStop 44 = .ok (.iinc 2 1, 3) := by decide +kernel
theorem dX2_findLineStop_47 : decode cX2_findLineStop 47 = .ok (.goto (-43), 3) := by decide +kernel
theorem dX2_findLineStop_50 : decode cX2_findLineStop 50 = .ok (.iconst (-1), 1) := by decide +kernel
theorem dX2_findLineStop_51 : decode cX2_findLineStop 51 = .ok (.ireturn, 1) := by decide +kernel
theorem dX2_tell_0 : decode cX2_tell 0 = .ok (.aload_n 0, 1) := by decide +kernel
theorem dX2_tell_1 : decode cX2_tell 1 = .ok (.iload_n 1, 1) := by decide +kernel
theorem dX2_tell_2 : decode cX2_tell 2 = .ok (.putfield 29, 3) := by decide +kernel
theorem dX2_tell_5 : decode cX2_tell 5 = .ok (.bipush (-2), 2) := by decide +kernel
theorem dX2_tell_7 : decode cX2_tell 7 = .ok (.ireturn, 1) := by decide +kernel
theorem dX2_readNumber_0 : decode cX2_readNumber 0 = .ok (.aload_n 0, 1) := by decide +kernel
theorem dX2_readNumber_1 : decode cX2_readNumber 1 = .ok (.getfield 19, 3) := by decide +kernel
theorem dX2_readNumber_4 : decode cX2_readNumber 4 = .ok (.iload_n 1, 1) := by decide +kernel
theorem dX2_readNumber_5 : decode cX2_readNumber 5 = .ok (.invokevirtual 58, 3) := by decide +kernel
theorem dX2_readNumber_8 : decode cX2_readNumber 8 = .ok (.bipush 45, 2) := by decide +kernel
theorem dX2_readNumber_10 : decode cX2_readNumber 10 = .ok (.if_icmp .ne 7, 3) := by decide +kernel
theorem dX2_readNumber_13 : decode cX2_readNumber 13 = .ok (.iconst 1, 1) := by decide +kernel
theorem dX2_readNumber_14 : decode cX2_readNumber 14 = .ok (.goto 4, 3) := by decide +kernel
theorem dX2_readNumber_17 : decode cX2_readNumber 17 = .ok (.iconst 0, 1) := by decide +kernel
theorem dX2_readNumber_18 : decode cX2_readNumber 18 = .ok (.istore_n 3, 1) := by decide +kernel
theorem dX2_readNumber_19 : decode cX2_readNumber 19 = .ok (.iload_n 3, 1) := by decide +kernel
theorem dX2_readNumber_20 : decode cX2_readNumber 20 = .ok (.ifCond .eq 9, 3) := by decide +kernel
theorem dX2_readNumber_23 : decode cX2_readNumber 23 = .ok (.iload_n 1, 1) := by decide +kernel
theorem dX2_readNumber_24 : decode cX2_readNumber 24 = .ok (.iconst 1, 1) := by decide +kernel
theorem dX2_readNumber_25 : decode cX2_readNumber 25 = .ok (.iadd, 1) := by decide +kernel
theorem dX2_readNumber_26 : decode cX2_readNumber 26 = .ok (.goto 4, 3) := by decide +kernel
theorem dX2_readNumber_29 : decode cX2_readNumber 29 = .ok (.iload_n 1, 1) := by decide +kernel
theorem dX2_readNumber_30 : decode cX2_readNumber 30 = .ok (.istore 4, 2) := by decide +kernel
theorem dX2_readNumber_32 : decode cX2_readNumber 32 = .ok (.iload_n 2, 1) := by decide +kernel
theorem dX2_readNumber_33 : decode cX2_readNumber 33 = .ok (.iload 4, 2) := by decide +kernel
theorem dX2_readNumber_35 : decode cX2_readNumber 35 = .ok (.if_icmp .le 12, 3) := by decide +kernel
theorem dX2_readNumber_38 : decode cX2_readNumber 38 = .ok (.iload_n 2, 1) := by decide +kernel
theorem dX2_readNumber_39 : decode cX2_readNumber 39 = .ok (.iload 4, 2) := by decide +kernel
theorem dX2_readNumber_41 : decode cX2_readNumber 41 = .ok (.isub, 1) := by decide +kernel
theorem dX2_readNumber_42 : decode cX2_readNumber 42 = .ok (.bipush 6, 2) := by decide +kernel
theorem dX2_readNumber_44 : decode cX2_readNumber 44 = .ok (.if_icmp .le 5, 3) := by decide +kernel
theorem dX2_readNumber_47 : decode cX2_readNumber 47 = .ok (.iconst 0, 1) := by decide +kernel
theorem dX2_readNumber_48 : decode cX2_readNumber 48 = .ok (.ireturn, 1) := by decide +kernel
theorem dX2_readNumber_49 : decode cX2_readNumber 49 = .ok (.iconst 0, 1) := by decide +kernel
theorem dX2_readNumber_50 : decode cX2_readNumber 50 = .ok (.istore 5, 2) := by decide +kernel
theorem dX2_readNumber_52 : decode cX2_readNumber 52 = .ok (.iload 4, 2) := by decide +kernel
theorem dX2_readNumber_54 : decode cX2_readNumber 54 = .ok (.istore 6, 2) := by decide +kernel
theorem dX2_readNumber_56 : decode cX2_readNumber 56 = .ok (.iload 6, 2) := by decide +kernel
theorem dX2_readNumber_58 : decode cX2_readNumber 58 = .ok (.iload_n 2, 1) := by decide +kernel
theorem dX2_readNumber_59 : decode cX2_readNumber 59 = .ok (.if_icmp .ge 49, 3) := by decide +kernel
theorem dX2_readNumber_62 : decode cX2_readNumber 62 = .ok (.aload_n 0, 1) := by decide +kernel
theorem dX2_readNumber_63 : decode cX2_readNumber 63 = .ok (.getfield 19, 3) := by decide +kernel
theorem dX2_readNumber_66 : decode cX2_readNumber 66 = .ok (.iload 6, 2) := by decide +kernel
theorem dX2_readNumber_68 : decode cX2_readNumber 68 = .ok (.invokevirtual 58, 3) := by decide +kernel
theorem dX2_readNumber_71 : decode cX2_readNumber 71 = .ok (.istore 7, 2) := by decide +kernel
theorem dX2_readNumber_73 : decode cX2_readNumber 73 = .ok (.iload 7, 2) := by decide +kernel
theorem dX2_readNumber_75 : decode cX2_readNumber 75 = .ok (.bipush 48, 2) := by decide +kernel
theorem dX2_readNumber_77 : decode cX2_readNumber 77 = .ok (.if_icmp .lt 10, 3) := by decide +kernel
theorem dX2_readNumber_80 : decode cX2_readNumber 80 = .ok (.iload 7, 2) := by decide +kernel
theorem dX2_readNumber_82 : decode cX2_readNumber 82 = .ok (.bipush 57, 2) := by decide +kernel
theorem dX2_readNumber_84 : decode cX2_readNumber 84 = .ok (.if_icmp .le 5, 3) := by decide +kernel
theorem dX2_readNumber_87 : decode cX2_readNumber 87 = .ok (.iconst 0, 1) := by decide +kernel
theorem dX2_readNumber_88 : decode cX2_readNumber 88 = .ok (.ireturn, 1) := by decide +kernel
theorem dX2_readNumber_89 : decode cX2_readNumber 89 = .ok (.iload 5, 2) := by decide +kernel
theorem dX2_readNumber_91 : decode cX2_readNumber 91 = .ok (.bipush 10, 2) := by decide +kernel
theorem dX2_readNumber_93 : decode cX2_readNumber 93 = .ok (.imul, 1) := by decide +kernel
theorem dX2_readNumber_94 : decode cX2_readNumber 94 = .ok (.iload 7, 2) := by decide +kernel
theorem dX2_readNumber_96 : decode cX2_readNumber 96 = .ok (.bipush 48, 2) := by decide +kernel
theorem dX2_readNumber_98 : decode cX2_readNumber 98 = .ok (.isub, 1) := by decide +kernel
theorem dX2_readNumber_99 : decode cX2_readNumber 99 = .ok (.iadd, 1) := by decide +kernel
theorem dX2_readNumber_100 : decode cX2_readNumber 100 = .ok (.istore 5, 2) := by decide +kernel
theorem dX2_readNumber_102 : decode cX2_readNumber 102 = .ok (.iinc 6 1, 3) := by decide +kernel
theorem dX2_readNumber_105 : decode cX2_readNumber 105 = .ok (.goto (-49), 3) := by decide +kernel
theorem dX2_readNumber_108 : decode cX2_readNumber 108 = .ok (.aload_n 0, 1) := by decide +kernel
theorem dX2_readNumber_109 : decode cX2_readNumber 109 = .ok (.iload_n 3, 1) := by decide +kernel
theorem dX2_readNumber_110 : decode cX2_readNumber 110 = .ok (.ifCond .eq 9, 3) := by decide +kernel
theorem dX2_readNumber_113 : decode cX2_readNumber 113 = .ok (.iload 5, 2) := by decide +kernel
theorem dX2_readNumber_115 : decode cX2_readNumber 115 = .ok (.ineg, 1) := by decide +kernel
theorem dX2_readNumber_116 : decode cX2_readNumber 116 = .ok (.goto 5, 3) := by decide +kernel
theorem dX2_readNumber_119 : decode cX2_readNumber 119 = .ok (.iload 5, 2) := by decide +kernel
theorem dX2_readNumber_121 : decode cX2_readNumber 121 = .ok (.putfield 33, 3) := by decide +kernel
theorem dX2_readNumber_124 : decode cX2_readNumber 124 = .ok (.iconst 1, 1) := by decide +kernel
theorem dX2_readNumber_125 : decode cX2_readNumber 125 = .ok (.ireturn, 1) := by decide +kernel
theorem dX2_scanWord_0 : decode cX2_scanWord 0 = .ok (.aload_n 0, 1) := by decide +kernel
theorem dX2_scanWord_1 : decode cX2_scanWord 1 = .ok (.getfield 19, 3) := by decide +kernel
theorem dX2_scanWord_4 : decode cX2_scanWord 4 = .ok (.iload_n 1, 1) := by decide +kernel
theorem dX2_scanWord_5 : decode cX2_scanWord 5 = .ok (.invokevirtual 58, 3) := by decide +kernel
theorem dX2_scanWord_8 : decode cX2_scanWord 8 = .ok (.istore_n 2, 1) := by decide +kernel
theorem dX2_scanWord_9 : decode cX2_scanWord 9 = .ok (.iload_n 2, 1) := by decide +kernel
theorem dX2_scanWord_10 : decode cX2_scanWord 10 = .ok (.iconst (-1), 1) := by decide +kernel
theorem dX2_scanWord_11 : decode cX2_scanWord 11 = .ok (.if_icmp .ne 5, 3) := by decide +kernel
theorem dX2_scanWord_14 : decode cX2_scanWord 14 = .ok (.iconst (-1), 1) := by decide +kernel
theorem dX2_scanWord_15 : decode cX2_scanWord 15 = .ok (.ireturn, 1) := by decide +kernel
theorem dX2_scanWord_16 : decode cX2_scanWord 16 = .ok (.iload_n 2, 1) := by decide +kernel
theorem dX2_scanWord_17 : decode cX2_scanWord 17 = .ok (.bipush 36, 2) := by decide +kernel
theorem dX2_scanWord_19 : decode cX2_scanWord 19 = .ok (.if_icmp .eq 9, 3) := by decide +kernel
theorem dX2_scanWord_22 : decode cX2_scanWord 22 = .ok (.aload_n 0, 1) := by decide +kernel
theorem dX2_scanWord_23 : decode cX2_scanWord 23 = .ok (.iconst 2, 1) := by decide +kernel
theorem dX2_scanWord_24 : decode cX2_scanWord 24 = .ok (.invokevirtual 91, 3) := by decide +kernel
theorem dX2_scanWord_27 : decode cX2_scanWord 27 = .ok (.ireturn, 1) := by decide +kernel
theorem dX2_scanWord_28 : decode cX2_scanWord 28 = .ok (.aload_n 0, 1) := by decide +kernel
theorem dX2_scanWord_29 : decode cX2_scanWord 29 = .ok (.iload_n 1, 1) := by decide +kernel
theorem dX2_scanWord_30 : decode cX2_scanWord 30 = .ok (.iconst 0, 1) := by decide +kernel
theorem dX2_scanWord_31 : decode cX2_scanWord 31 = .ok (.sipush 16384, 3) := by decide +kernel
theorem dX2_scanWord_34 : decode cX2_scanWord 34 = .ok (.iconst 3, 1) := by decide +kernel
theorem dX2_scanWord_35 : decode cX2_scanWord 35 = .ok (.invokevirtual 84, 3) := by decide +kernel
theorem dX2_scanWord_38 : decode cX2_scanWord 38 = .ok (.istore_n 3, 1) := by decide +kernel
theorem dX2_scanWord_39 : decode cX2_scanWord 39 = .ok (.iload_n 3, 1) := by decide +kernel
theorem dX2_scanWord_40 : decode cX2_scanWord 40 = .ok (.ifCond .ge 5, 3) := by decide +kernel
theorem dX2_scanWord_43 : decode cX2_scanWord 43 = .ok (.iload_n 3, 1) := by decide +kernel
theorem dX2_scanWord_44 : decode cX2_scanWord 44 = .ok (.ireturn, 1) := by decide +kernel
theorem dX2_scanWord_45 : decode cX2_scanWord 45 = .ok (.aload_n 0, 1) := by decide +kernel
theorem dX2_scanWord_46 : decode cX2_scanWord 46 = .ok (.getfield 25, 3) := by decide +kernel
theorem dX2_scanWord_49 : decode cX2_scanWord 49 = .ok (.iload_n 3, 1) := by decide +kernel
theorem dX2_scanWord_50 : decode cX2_scanWord 50 = .ok (.aload_n 0, 1) := by decide +kernel
theorem dX2_scanWord_51 : decode cX2_scanWord 51 = .ok (.getfield 33, 3) := by decide +kernel
theorem dX2_scanWord_54 : decode cX2_scanWord 54 = .ok (.invokevirtual 94, 3) := by decide +kernel
theorem dX2_scanWord_57 : decode cX2_scanWord 57 = .ok (.aload_n 0, 1) := by decide +kernel
theorem dX2_scanWord_58 : decode cX2_scanWord 58 = .ok (.iload_n 3, 1) := by decide +kernel
theorem dX2_scanWord_59 : decode cX2_scanWord 59 = .ok (.aload_n 0, 1) := by decide +kernel
theorem dX2_scanWord_60 : decode cX2_scanWord 60 = .ok (.getfield 33, 3) := by decide +kernel
theorem dX2_scanWord_63 : decode cX2_scanWord 63 = .ok (.iadd, 1) := by decide +kernel
theorem dX2_scanWord_64 : decode cX2_scanWord 64 = .ok (.invokevirtual 98, 3) := by decide +kernel
theorem dX2_scanWord_67 : decode cX2_scanWord 67 = .ok (.ireturn, 1) := by decide +kernel
theorem dX2_scanWordEnd_0 : decode cX2_scanWordEnd 0 = .ok (.aload_n 0, 1) := by decide +kernel
theorem dX2_scanWordEnd_1 : decode cX2_scanWordEnd 1 = .ok (.getfield 19, 3) := by decide +kernel
theorem dX2_scanWordEnd_4 : decode cX2_scanWordEnd 4 = .ok (.iload_n 1, 1) := by decide +kernel
theorem dX2_scanWordEnd_5 : decode cX2_scanWordEnd 5 = .ok (.invokevirtual 58, 3) := by decide +kernel
theorem dX2_scanWordEnd_8 : decode cX2_scanWordEnd 8 = .ok (.istore_n 2, 1) := by decide +kernel
theorem dX2_scanWordEnd_9 : decode cX2_scanWordEnd 9 = .ok (.aload_n 0, 1) := by decide +kernel
theorem dX2_scanWordEnd_10 : decode cX2_scanWordEnd 10 = .ok (.getfield 19, 3) := by decide +kernel
theorem dX2_scanWordEnd_13 : decode cX2_scanWordEnd 13 = .ok (.iload_n 1, 1) := by decide +kernel
theorem dX2_scanWordEnd_14 : decode cX2_scanWordEnd 14 = .ok (.iconst 1, 1) := by decide +kernel
theorem dX2_scanWordEnd_15 : decode cX2_scanWordEnd 15 = .ok (.iadd, 1) := by decide +kernel
theorem dX2_scanWordEnd_16 : decode cX2_scanWordEnd 16 = .ok (.invokevirtual 58, 3) := by decide +kernel
theorem dX2_scanWordEnd_19 : decode cX2_scanWordEnd 19 = .ok (.istore_n 3, 1) := by decide +kernel
theorem dX2_scanWordEnd_20 : decode cX2_scanWordEnd 20 = .ok (.iload_n 2, 1) := by decide +kernel
theorem dX2_scanWordEnd_21 : decode cX2_scanWordEnd 21 = .ok (.iconst (-1), 1) := by decide +kernel
theorem dX2_scanWordEnd_22 : decode cX2_scanWordEnd 22 = .ok (.if_icmp .ne 5, 3) := by decide +kernel
theorem dX2_scanWordEnd_25 : decode cX2_scanWordEnd 25 = .ok (.iconst (-1), 1) := by decide +kernel
theorem dX2_scanWordEnd_26 : decode cX2_scanWordEnd 26 = .ok (.ireturn, 1) := by decide +kernel
theorem dX2_scanWordEnd_27 : decode cX2_scanWordEnd 27 = .ok (.iload_n 2, 1) := by decide +kernel
theorem dX2_scanWordEnd_28 : decode cX2_scanWordEnd 28 = .ok (.bipush 13, 2) := by decide +kernel
theorem dX2_scanWordEnd_30 : decode cX2_scanWordEnd 30 = .ok (.if_icmp .eq 9, 3) := by decide +kernel
theorem dX2_scanWordEnd_33 : decode cX2_scanWordEnd 33 = .ok (.aload_n 0, 1) := by decide +kernel
theorem dX2_scanWordEnd_34 : decode cX2_scanWordEnd 34 = .ok (.iconst 4, 1) := by decide +kernel
theorem dX2_scanWordEnd_35 : decode cX2_scanWordEnd 35 = .ok (.invokevirtual 91, 3) := by decide +kernel
theorem dX2_scanWordEnd_38 : decode cX2_scanWordEnd 38 = .ok (.ireturn, 1) := by decide +kernel
theorem dX2_scanWordEnd_39 : decode cX2_scanWordEnd 39 = .ok (.iload_n 3, 1) := by decide +kernel
theorem dX2_scanWordEnd_40 : decode cX2_scanWordEnd 40 = .ok (.iconst (-1), 1) := by decide +kernel
theorem dX2_scanWordEnd_41 : decode cX2_scanWordEnd 41 = .ok (.if_icmp .ne 5, 3) := by decide +kernel
theorem dX2_scanWordEnd_44 : decode cX2_scanWordEnd 44 = .ok (.iconst (-1), 1) := by decide +kernel
theorem dX2_scanWordEnd_45 : decode cX2_scanWordEnd 45 = .ok (.ireturn, 1) := by decide +kernel
theorem dX2_scanWordEnd_46 : decode cX2_scanWordEnd 46 = .ok (.iload_n 3, 1) := by decide +kernel
theorem dX2_scanWordEnd_47 : decode cX2_scanWordEnd 47 = .ok (.bipush 10, 2) := by decide +kernel
theorem dX2_scanWordEnd_49 : decode cX2_scanWordEnd 49 = .ok (.if_icmp .ne 9, 3) := by decide +kernel
theorem dX2_scanWordEnd_52 : decode cX2_scanWordEnd 52 = .ok (.iload_n 1, 1) := by decide +kernel
theorem dX2_scanWordEnd_53 : decode cX2_scanWordEnd 53 = .ok (.iconst 2, 1) := by decide +kernel
theorem dX2_scanWordEnd_54 : decode cX2_scanWordEnd 54 = .ok (.iadd, 1) := by decide +kernel
theorem dX2_scanWordEnd_55 : decode cX2_scanWordEnd 55 = .ok (.goto 8, 3) := by decide +kernel
theorem dX2_scanWordEnd_58 : decode cX2_scanWordEnd 58 = .ok (.aload_n 0, 1) := by decide +kernel
theorem dX2_scanWordEnd_59 : decode cX2_scanWordEnd 59 = .ok (.iconst 4, 1) := by decide +kernel
theorem dX2_scanWordEnd_60 : decode cX2_scanWordEnd 60 = .ok (.invokevirtual 91, 3) := by decide +kernel
theorem dX2_scanWordEnd_63 : decode cX2_scanWordEnd 63 = .ok (.ireturn, 1) := by decide +kernel
theorem dX2_scanPlain_0 : decode cX2_scanPlain 0 = .ok (.aload_n 0, 1) := by decide +kernel
theorem dX2_scanPlain_1 : decode cX2_scanPlain 1 = .ok (.invokevirtual 108, 3) := by decide +kernel
theorem dX2_scanPlain_4 : decode cX2_scanPlain 4 = .ok (.istore_n 1, 1) := by decide +kernel
theorem dX2_scanPlain_5 : decode cX2_scanPlain 5 = .ok (.iload_n 1, 1) := by decide +kernel
theorem dX2_scanPlain_6 : decode cX2_scanPlain 6 = .ok (.iconst (-1), 1) := by decide +kernel
theorem dX2_scanPlain_7 : decode cX2_scanPlain 7 = .ok (.if_icmp .ne 26, 3) := by decide +kernel
theorem dX2_scanPlain_10 : decode cX2_scanPlain 10 = .ok (.aload_n 0, 1) := by decide +kernel
theorem dX2_scanPlain_11 : decode cX2_scanPlain 11 = .ok (.getfield 19, 3) := by decide +kernel
theorem dX2_scanPlain_14 : decode cX2_scanPlain 14 = .ok (.invokevirtual 46, 3) := by decide +kernel
theorem dX2_scanPlain_17 : decode cX2_scanPlain 17 = .ok (.sipush 2048, 3) := by decide +kernel
theorem dX2_scanPlain_20 : decode cX2_scanPlain 20 = .ok (.if_icmp .lt 11, 3) := by decide +kernel
theorem dX2_scanPlain_23 : decode cX2_scanPlain 23 = .ok (.aload_n 0, 1) := by decide +kernel
theorem dX2_scanPlain_24 : decode cX2_scanPlain 24 = .ok (.iconst 5, 1) := by decide +kernel
theorem dX2_scanPlain_25 : decode cX2_scanPlain 25 = .ok (.invokevirtual 91, 3) := by decide +kernel
theorem dX2_scanPlain_28 : decode cX2_scanPlain 28 = .ok (.goto 4, 3) := by decide +kernel
theorem dX2_scanPlain_31 : decode cX2_scanPlain 31 = .ok (.iconst (-1), 1) := by decide +kernel
theorem dX2_scanPlain_32 : decode cX2_scanPlain 32 = .ok (.ireturn, 1) := by decide +kernel
theorem dX2_scanPlain_33 : decode cX2_scanPlain 33 = .ok (.aload_n 0, 1) := by decide +kernel
theorem dX2_scanPlain_34 : decode cX2_scanPlain 34 = .ok (.getfield 19, 3) := by decide +kernel
theorem dX2_scanPlain_37 : decode cX2_scanPlain 37 = .ok (.iload_n 1, 1) := by decide +kernel
theorem dX2_scanPlain_38 : decode cX2_scanPlain 38 = .ok (.iconst 1, 1) := by decide +kernel
theorem dX2_scanPlain_39 : decode cX2_scanPlain 39 = .ok (.isub, 1) := by decide +kernel
theorem dX2_scanPlain_40 : decode cX2_scanPlain 40 = .ok (.invokevirtual 58, 3) := by decide +kernel
theorem dX2_scanPlain_43 : decode cX2_scanPlain 43 = .ok (.bipush 13, 2) := by decide +kernel
theorem dX2_scanPlain_45 : decode cX2_scanPlain 45 = .ok (.if_icmp .ne 7, 3) := by decide +kernel
theorem dX2_scanPlain_48 : decode cX2_scanPlain 48 = .ok (.iconst 1, 1) := by decide +kernel
theorem dX2_scanPlain_49 : decode cX2_scanPlain 49 = .ok (.goto 4, 3) := by decide +kernel
theorem dX2_scanPlain_52 : decode cX2_scanPlain 52 = .ok (.iconst 0, 1) := by decide +kernel
theorem dX2_scanPlain_53 : decode cX2_scanPlain 53 = .ok (.istore_n 2, 1) := by decide +kernel
theorem dX2_scanPlain_54 : decode cX2_scanPlain 54 = .ok (.aload_n 0, 1) := by decide +kernel
theorem dX2_scanPlain_55 : decode cX2_scanPlain 55 = .ok (.iload_n 2, 1) := by decide +kernel
theorem dX2_scanPlain_56 : decode cX2_scanPlain 56 = .ok (.ifCond .eq 9, 3) := by decide +kernel
theorem dX2_scanPlain_59 : decode cX2_scanPlain 59 = .ok (.iload_n 1, 1) := by decide +kernel
theorem dX2_scanPlain_60 : decode cX2_scanPlain 60 = .ok (.iconst 1, 1) := by decide +kernel
theorem dX2_scanPlain_61 : decode cX2_scanPlain 61 = .ok (.isub, 1) := by decide +kernel
theorem dX2_scanPlain_62 : decode cX2_scanPlain 62 = .ok (.goto 4, 3) := by decide +kernel
theorem dX2_scanPlain_65 : decode cX2_scanPlain 65 = .ok (.iload_n 1, 1) := by decide +kernel
theorem dX2_scanPlain_66 : decode cX2_scanPlain 66 = .ok (.invokevirtual 111, 3) := by decide +kernel
theorem dX2_scanPlain_69 : decode cX2_scanPlain 69 = .ok (.iload_n 1, 1) := by decide +kernel
theorem dX2_scanPlain_70 : decode cX2_scanPlain 70 = .ok (.iconst 1, 1) := by decide +kernel
theorem dX2_scanPlain_71 : decode cX2_scanPlain 71 = .ok (.iadd, 1) := by decide +kernel
theorem dX2_scanPlain_72 : decode cX2_scanPlain 72 = .ok (.ireturn, 1) := by decide +kernel
theorem dX2_findLineFeed_0 : decode cX2_findLineFeed 0 = .ok (.aload_n 0, 1) := by decide +kernel
theorem dX2_findLineFeed_1 : decode cX2_findLineFeed 1 = .ok (.getfield 19, 3) := by decide +kernel
theorem dX2_findLineFeed_4 : decode cX2_findLineFeed 4 = .ok (.invokevirtual 46, 3) := by decide +kernel
theorem dX2_findLineFeed_7 : decode cX2_findLineFeed 7 = .ok (.sipush 2048, 3) := by decide +kernel
theorem dX2_findLineFeed_10 : decode cX2_findLineFeed 10 = .ok (.invokestatic 114, 3) := by decide +kernel
theorem dX2_findLineFeed_13 : decode cX2_findLineFeed 13 = .ok (.istore_n 1, 1) := by decide +kernel
theorem dX2_findLineFeed_14 : decode cX2_findLineFeed 14 = .ok (.iconst 0, 1) := by decide +kernel
theorem dX2_findLineFeed_15 : decode cX2_findLineFeed 15 = .ok (.istore_n 2, 1) := by decide +kernel
theorem dX2_findLineFeed_16 : decode cX2_findLineFeed 16 = .ok (.iload_n 2, 1) := by decide +kernel
theorem dX2_findLineFeed_17 : decode cX2_findLineFeed 17 = .ok (.iload_n 1, 1) := by decide +kernel
theorem dX2_findLineFeed_18 : decode cX2_findLineFeed 18 = .ok (.if_icmp .ge 24, 3) := by decide +kernel
theorem dX2_findLineFeed_21 : decode cX2_findLineFeed 21 = .ok (.aload_n 0, 1) := by decide +kernel
theorem dX2_findLineFeed_22 : decode cX2_findLineFeed 22 = .ok (.getfield 19, 3) := by decide +kernel
theorem dX2_findLineFeed_25 : decode cX2_findLineFeed 25 = .ok (.iload_n 2, 1) := by decide +kernel
theorem dX2_findLineFeed_26 : decode cX2_findLineFeed 26 = .ok (.invokevirtual 58, 3) := by decide +kernel
theorem dX2_findLineFeed_29 : decode cX2_findLineFeed 29 = .ok (.bipush 10, 2) := by decide +kernel
theorem dX2_findLineFeed_31 : decode cX2_findLineFeed 31 = .ok (.if_icmp .ne 5, 3) := by decide +kernel
theorem dX2_findLineFeed_34 : decode cX2_findLineFeed 34 = .ok (.iload_n 2, 1) := by decide +kernel
theorem dX2_findLineFeed_35 : decode cX2_findLineFeed 35 = .ok (.ireturn, 1) := by decide +kernel
theorem dX2_findLineFeed_36 : decode cX2_findLineFeed 36 = .ok (.iinc 2 1, 3) := by decide +kernel
theorem dX2_findLineFeed_39 : decode cX2_findLineFeed 39 = .ok (.goto (-23), 3) := by decide +kernel
theorem dX2_findLineFeed_42 : decode cX2_findLineFeed 42 = .ok (.iconst (-1), 1) := by decide +kernel
theorem dX2_findLineFeed_43 : decode cX2_findLineFeed 43 = .ok (.ireturn, 1) := by decide +kernel
theorem dX2_addPlainWords_0 : decode cX2_addPlainWords 0 = .ok (.iconst 0, 1) := by decide +kernel
theorem dX2_addPlainWords_1 : decode cX2_addPlainWords 1 = .ok (.istore_n 2, 1) := by decide +kernel
theorem dX2_addPlainWords_2 : decode cX2_addPlainWords 2 = .ok (.iconst 0, 1) := by decide +kernel
theorem dX2_addPlainWords_3 : decode cX2_addPlainWords 3 = .ok (.istore_n 3, 1) := by decide +kernel
theorem dX2_addPlainWords_4 : decode cX2_addPlainWords 4 = .ok (.iload_n 3, 1) := by decide +kernel
theorem dX2_addPlainWords_5 : decode cX2_addPlainWords 5 = .ok (.iload_n 1, 1) := by decide +kernel
theorem dX2_addPlainWords_6 : decode cX2_addPlainWords 6 = .ok (.if_icmp .gt 47, 3) := by decide +kernel
theorem dX2_addPlainWords_9 : decode cX2_addPlainWords 9 = .ok (.iload_n 3, 1) := by decide +kernel
theorem dX2_addPlainWords_10 : decode cX2_addPlainWords 10 = .ok (.iload_n 1, 1) := by decide +kernel
theorem dX2_addPlainWords_11 : decode cX2_addPlainWords 11 = .ok (.if_icmp .eq 16, 3) := by decide +kernel
theorem dX2_addPlainWords_14 : decode cX2_addPlainWords 14 = .ok (.aload_n 0, 1) := by decide +kernel
theorem dX2_addPlainWords_15 : decode cX2_addPlainWords 15 = .ok (.getfield 19, 3) := by decide +kernel
theorem dX2_addPlainWords_18 : decode cX2_addPlainWords 18 = .ok (.iload_n 3, 1) := by decide +kernel
theorem dX2_addPlainWords_19 : decode cX2_addPlainWords 19 = .ok (.invokevirtual 58, 3) := by decide +kernel
theorem dX2_addPlainWords_22 : decode cX2_addPlainWords 22 = .ok (.bipush 32, 2) := by decide +kernel
theorem dX2_addPlainWords_24 : decode cX2_addPlainWords 24 = .ok (.if_icmp .ne 23, 3) := by decide +kernel
theorem dX2_addPlainWords_27 : decode cX2_addPlainWords 27 = .ok (.iload_n 3, 1) := by decide +kernel
theorem dX2_addPlainWords_28 : decode cX2_addPlainWords 28 = .ok (.iload_n 2, 1) := by decide +kernel
theorem dX2_addPlainWords_29 : decode cX2_addPlainWords 29 = .ok (.if_icmp .le 14, 3) := by decide +kernel
theorem dX2_addPlainWords_32 : decode cX2_addPlainWords 32 = .ok (.aload_n 0, 1) := by decide +kernel
theorem dX2_addPlainWords_33 : decode cX2_addPlainWords 33 = .ok (.getfield 25, 3) := by decide +kernel
theorem dX2_addPlainWords_36 : decode cX2_addPlainWords 36 = .ok (.iload_n 2, 1) := by decide +kernel
theorem dX2_addPlainWords_37 : decode cX2_addPlainWords 37 = .ok (.iload_n 3, 1) := by decide +kernel
theorem dX2_addPlainWords_38 : decode cX2_addPlainWords 38 = .ok (.iload_n 2, 1) := by decide +kernel
theorem dX2_addPlainWords_39 : decode cX2_addPlainWords 39 = .ok (.isub, 1) := by decide +kernel
theorem dX2_addPlainWords_40 : decode cX2_addPlainWords 40 = .ok (.invokevirtual 94, 3) := by decide +kernel
theorem dX2_addPlainWords_43 : decode cX2_addPlainWords 43 = .ok (.iload_n 3, 1) := by decide +kernel
theorem dX2_addPlainWords_44 : decode cX2_addPlainWords 44 = .ok (.iconst 1, 1) := by decide +kernel
theorem dX2_addPlainWords_45 : decode cX2_addPlainWords 45 = .ok (.iadd, 1) := by decide +kernel
theorem dX2_addPlainWords_46 : decode cX2_addPlainWords 46 = .ok (.istore_n 2, 1) := by decide +kernel
theorem dX2_addPlainWords_47 : decode cX2_addPlainWords 47 = .ok (.iinc 3 1, 3) := by decide +kernel
theorem dX2_addPlainWords_50 : decode cX2_addPlainWords 50 = .ok (.goto (-46), 3) := by decide +kernel
theorem dX2_addPlainWords_53 : decode cX2_addPlainWords 53 = .ok (.return_, 1) := by decide +kernel
theorem dX2_fault_0 : decode cX2_fault 0 = .ok (.aload_n 0, 1) := by decide +kernel
theorem dX2_fault_1 : decode cX2_fault 1 = .ok (.getfield 29, 3) := by decide +kernel
theorem dX2_fault_4 : decode cX2_fault 4 = .ok (.ireturn, 1) := by decide +kernel
theorem dX2_size_0 : decode cX2_size 0 = .ok (.aload_n 0, 1) := by decide +kernel
theorem dX2_size_1 : decode cX2_size 1 = .ok (.getfield 25, 3) := by decide +kernel
theorem dX2_size_4 : decode cX2_size 4 = .ok (.iload_n 1, 1) := by decide +kernel
theorem dX2_size_5 : decode cX2_size 5 = .ok (.invokevirtual 76, 3) := by decide +kernel
theorem dX2_size_8 : decode cX2_size 8 = .ok (.ireturn, 1) := by decide +kernel
theorem dX2_byteOf_0 : decode cX2_byteOf 0 = .ok (.aload_n 0, 1) := by decide +kernel
theorem dX2_byteOf_1 : decode cX2_byteOf 1 = .ok (.getfield 25, 3) := by decide +kernel
theorem dX2_byteOf_4 : decode cX2_byteOf 4 = .ok (.iload_n 1, 1) := by decide +kernel
theorem dX2_byteOf_5 : decode cX2_byteOf 5 = .ok (.iload_n 2, 1) := by decide +kernel
theorem dX2_byteOf_6 : decode cX2_byteOf 6 = .ok (.invokevirtual 79, 3) := by decide +kernel
theorem dX2_byteOf_9 : decode cX2_byteOf 9 = .ok (.ireturn, 1) := by decide +kernel
theorem dX2_drop_0 : decode cX2_drop 0 = .ok (.aload_n 0, 1) := by decide +kernel
theorem dX2_drop_1 : decode cX2_drop 1 = .ok (.getfield 19, 3) := by decide +kernel
theorem dX2_drop_4 : decode cX2_drop 4 = .ok (.iload_n 1, 1) := by decide +kernel
theorem dX2_drop_5 : decode cX2_drop 5 = .ok (.invokevirtual 72, 3) := by decide +kernel
theorem dX2_drop_8 : decode cX2_drop 8 = .ok (.ireturn, 1) := by decide +kernel
theorem dX2_waiting_0 : decode cX2_waiting 0 = .ok (.aload_n 0, 1) := by decide +kernel
theorem dX2_waiting_1 : decode cX2_waiting 1 = .ok (.getfield 19, 3) := by decide +kernel
theorem dX2_waiting_4 : decode cX2_waiting 4 = .ok (.invokevirtual 46, 3) := by decide +kernel
theorem dX2_waiting_7 : decode cX2_waiting 7 = .ok (.ireturn, 1) := by decide +kernel
