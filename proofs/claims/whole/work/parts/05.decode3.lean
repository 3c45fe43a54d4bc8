theorem dX3_init_0 : decode cX3_init 0 = .ok (.aload_n 0, 1) := by decide +kernel
theorem dX3_init_1 : decode cX3_init 1 = .ok (.invokespecial 1, 3) := by decide +kernel
theorem dX3_init_4 : decode cX3_init 4 = .ok (.aload_n 0, 1) := by decide +kernel
theorem dX3_init_5 : decode cX3_init 5 = .ok (.sipush 10240, 3) := by decide +kernel
theorem dX3_init_8 : decode cX3_init 8 = .ok (.newarray .byte, 2) := by decide +kernel
theorem dX3_init_10 : decode cX3_init 10 = .ok (.putfield 7, 3) := by decide +kernel
theorem dX3_init_13 : decode cX3_init 13 = .ok (.aload_n 0, 1) := by decide +kernel
theorem dX3_init_14 : decode cX3_init 14 = .ok (.ldc 13, 2) := by decide +kernel
theorem dX3_init_16 : decode cX3_init 16 = .ok (.newarray .byte, 2) := by decide +kernel
theorem dX3_init_18 : decode cX3_init 18 = .ok (.putfield 14, 3) := by decide +kernel
theorem dX3_init_21 : decode cX3_init 21 = .ok (.aload_n 0, 1) := by decide +kernel
theorem dX3_init_22 : decode cX3_init 22 = .ok (.ldc 13, 2) := by decide +kernel
theorem dX3_init_24 : decode cX3_init 24 = .ok (.newarray .byte, 2) := by decide +kernel
theorem dX3_init_26 : decode cX3_init 26 = .ok (.putfield 17, 3) := by decide +kernel
theorem dX3_init_29 : decode cX3_init 29 = .ok (.aload_n 0, 1) := by decide +kernel
theorem dX3_init_30 : decode cX3_init 30 = .ok (.sipush 1025, 3) := by decide +kernel
theorem dX3_init_33 : decode cX3_init 33 = .ok (.newarray .int, 2) := by decide +kernel
theorem dX3_init_35 : decode cX3_init 35 = .ok (.putfield 20, 3) := by decide +kernel
theorem dX3_init_38 : decode cX3_init 38 = .ok (.aload_n 0, 1) := by decide +kernel
theorem dX3_init_39 : decode cX3_init 39 = .ok (.sipush 1025, 3) := by decide +kernel
theorem dX3_init_42 : decode cX3_init 42 = .ok (.newarray .int, 2) := by decide +kernel
theorem dX3_init_44 : decode cX3_init 44 = .ok (.putfield 24, 3) := by decide +kernel
theorem dX3_init_47 : decode cX3_init 47 = .ok (.return_, 1) := by decide +kernel
theorem dX3_feed_0 : decode cX3_feed 0 = .ok (.aload_n 0, 1) := by decide +kernel
theorem dX3_feed_1 : decode cX3_feed 1 = .ok (.getfield 27, 3) := by decide +kernel
theorem dX3_feed_4 : decode cX3_feed 4 = .ok (.bipush 20, 2) := by decide +kernel
theorem dX3_feed_6 : decode cX3_feed 6 = .ok (.iadd, 1) := by decide +kernel
theorem dX3_feed_7 : decode cX3_feed 7 = .ok (.sipush 10240, 3) := by decide +kernel
theorem dX3_feed_10 : decode cX3_feed 10 = .ok (.if_icmp .le 5, 3) := by decide +kernel
theorem dX3_feed_13 : decode cX3_feed 13 = .ok (.iconst 0, 1) := by decide +kernel
theorem dX3_feed_14 : decode cX3_feed 14 = .ok (.ireturn, 1) := by decide +kernel
theorem dX3_feed_15 : decode cX3_feed 15 = .ok (.aload_n 0, 1) := by decide +kernel
theorem dX3_feed_16 : decode cX3_feed 16 = .ok (.iload_n 1, 1) := by decide +kernel
theorem dX3_feed_17 : decode cX3_feed 17 = .ok (.invokevirtual 31, 3) := by decide +kernel
theorem dX3_feed_20 : decode cX3_feed 20 = .ok (.aload_n 0, 1) := by decide +kernel
theorem dX3_feed_21 : decode cX3_feed 21 = .ok (.iload_n 2, 1) := by decide +kernel
theorem dX3_feed_22 : decode cX3_feed 22 = .ok (.invokevirtual 31, 3) := by decide +kernel
theorem dX3_feed_25 : decode cX3_feed 25 = .ok (.aload_n 0, 1) := by decide +kernel
theorem dX3_feed_26 : decode cX3_feed 26 = .ok (.iload_n 3, 1) := by decide +kernel
theorem dX3_feed_27 : decode cX3_feed 27 = .ok (.invokevirtual 31, 3) := by decide +kernel
theorem dX3_feed_30 : decode cX3_feed 30 = .ok (.aload_n 0, 1) := by decide +kernel
theorem dX3_feed_31 : decode cX3_feed 31 = .ok (.iload 4, 2) := by decide +kernel
theorem dX3_feed_33 : decode cX3_feed 33 = .ok (.invokevirtual 31, 3) := by decide +kernel
theorem dX3_feed_36 : decode cX3_feed 36 = .ok (.aload_n 0, 1) := by decide +kernel
theorem dX3_feed_37 : decode cX3_feed 37 = .ok (.iload 5, 2) := by decide +kernel
theorem dX3_feed_39 : decode cX3_feed 39 = .ok (.invokevirtual 31, 3) := by decide +kernel
theorem dX3_feed_42 : decode cX3_feed 42 = .ok (.iconst 1, 1) := by decide +kernel
theorem dX3_feed_43 : decode cX3_feed 43 = .ok (.ireturn, 1) := by decide +kernel
theorem dX3_lay_0 : decode cX3_lay 0 = .ok (.bipush 24, 2) := by decide +kernel
theorem dX3_lay_2 : decode cX3_lay 2 = .ok (.istore_n 2, 1) := by decide +kernel
theorem dX3_lay_3 : decode cX3_lay 3 = .ok (.iload_n 2, 1) := by decide +kernel
theorem dX3_lay_4 : decode cX3_lay 4 = .ok (.ifCond .lt 32, 3) := by decide +kernel
theorem dX3_lay_7 : decode cX3_lay 7 = .ok (.aload_n 0, 1) := by decide +kernel
theorem dX3_lay_8 : decode cX3_lay 8 = .ok (.getfield 7, 3) := by decide +kernel
theorem dX3_lay_11 : decode cX3_lay 11 = .ok (.aload_n 0, 1) := by decide +kernel
theorem dX3_lay_12 : decode cX3_lay 12 = .ok (.getfield 27, 3) := by decide +kernel
theorem dX3_lay_15 : decode cX3_lay 15 = .ok (.iload_n 1, 1) := by decide +kernel
theorem dX3_lay_16 : decode cX3_lay 16 = .ok (.iload_n 2, 1) := by decide +kernel
theorem dX3_lay_17 : decode cX3_lay 17 = .ok (.ishr, 1) := by decide +kernel
theorem dX3_lay_18 : decode cX3_lay 18 = .ok (.i2b, 1) := by decide +kernel
theorem dX3_lay_19 : decode cX3_lay 19 = .ok (.bastore, 1) := by decide +kernel
theorem dX3_lay_20 : decode cX3_lay 20 = .ok (.aload_n 0, 1) := by decide +kernel
theorem dX3_lay_21 : decode cX3_lay 21 = .ok (.dup, 1) := by decide +kernel
theorem dX3_lay_22 : decode cX3_lay 22 = .ok (.getfield 27, 3) := by decide +kernel
theorem dX3_lay_25 : decode cX3_lay 25 = .ok (.iconst 1, 1) := by decide +kernel
theorem dX3_lay_26 : decode cX3_lay 26 = .ok (.iadd, 1) := by decide +kernel
theorem dX3_lay_27 : decode cX3_lay 27 = .ok (.putfield 27, 3) := by decide +kernel
theorem dX3_lay_30 : decode cX3_lay 30 = .ok (.iinc 2 (-8), 3) := by decide +kernel
theorem dX3_lay_33 : decode cX3_lay 33 = .ok (.goto (-30), 3) := by decide +kernel
theorem dX3_lay_36 : decode cX3_lay 36 = .ok (.return_, 1) := by decide +kernel
theorem dX3_end_0 : decode cX3_end 0 = .ok (.iload_n 1, 1) := by decide +kernel
theorem dX3_end_1 : decode cX3_end 1 = .ok (.ifCond .lt 11, 3) := by decide +kernel
theorem dX3_end_4 : decode cX3_end 4 = .ok (.iload_n 1, 1) := by decide +kernel
theorem dX3_end_5 : decode cX3_end 5 = .ok (.aload_n 0, 1) := by decide +kernel
theorem dX3_end_6 : decode cX3_end 6 = .ok (.getfield 27, 3) := by decide +kernel
theorem dX3_end_9 : decode cX3_end 9 = .ok (.if_icmp .le 5, 3) := by decide +kernel
theorem dX3_end_12 : decode cX3_end 12 = .ok (.iconst 0, 1) := by decide +kernel
theorem dX3_end_13 : decode cX3_end 13 = .ok (.ireturn, 1) := by decide +kernel
theorem dX3_end_14 : decode cX3_end 14 = .ok (.aload_n 0, 1) := by decide +kernel
theorem dX3_end_15 : decode cX3_end 15 = .ok (.iload_n 1, 1) := by decide +kernel
theorem dX3_end_16 : decode cX3_end 16 = .ok (.putfield 27, 3) := by decide +kernel
theorem dX3_end_19 : decode cX3_end 19 = .ok (.iconst 1, 1) := by decide +kernel
theorem dX3_end_20 : decode cX3_end 20 = .ok (.ireturn, 1) := by decide +kernel
theorem dX3_arrive_0 : decode cX3_arrive 0 = .ok (.aload_n 0, 1) := by decide +kernel
theorem dX3_arrive_1 : decode cX3_arrive 1 = .ok (.getfield 27, 3) := by decide +kernel
theorem dX3_arrive_4 : decode cX3_arrive 4 = .ok (.istore_n 1, 1) := by decide +kernel
theorem dX3_arrive_5 : decode cX3_arrive 5 = .ok (.aload_n 0, 1) := by decide +kernel
theorem dX3_arrive_6 : decode cX3_arrive 6 = .ok (.iconst 0, 1) := by decide +kernel
theorem dX3_arrive_7 : decode cX3_arrive 7 = .ok (.putfield 27, 3) := by decide +kernel
theorem dX3_arrive_10 : decode cX3_arrive 10 = .ok (.aload_n 0, 1) := by decide +kernel
theorem dX3_arrive_11 : decode cX3_arrive 11 = .ok (.getfield 35, 3) := by decide +kernel
theorem dX3_arrive_14 : decode cX3_arrive 14 = .ok (.iload_n 1, 1) := by decide +kernel
theorem dX3_arrive_15 : decode cX3_arrive 15 = .ok (.iadd, 1) := by decide +kernel
theorem dX3_arrive_16 : decode cX3_arrive 16 = .ok (.ldc 13, 2) := by decide +kernel
theorem dX3_arrive_18 : decode cX3_arrive 18 = .ok (.if_icmp .le 5, 3) := by decide +kernel
theorem dX3_arrive_21 : decode cX3_arrive 21 = .ok (.iconst (-1), 1) := by decide +kernel
theorem dX3_arrive_22 : decode cX3_arrive 22 = .ok (.ireturn, 1) := by decide +kernel
theorem dX3_arrive_23 : decode cX3_arrive 23 = .ok (.iconst 0, 1) := by decide +kernel
theorem dX3_arrive_24 : decode cX3_arrive 24 = .ok (.istore_n 2, 1) := by decide +kernel
theorem dX3_arrive_25 : decode cX3_arrive 25 = .ok (.iload_n 2, 1) := by decide +kernel
theorem dX3_arrive_26 : decode cX3_arrive 26 = .ok (.iload_n 1, 1) := by decide +kernel
theorem dX3_arrive_27 : decode cX3_arrive 27 = .ok (.if_icmp .ge 26, 3) := by decide +kernel
theorem dX3_arrive_30 : decode cX3_arrive 30 = .ok (.aload_n 0, 1) := by decide +kernel
theorem dX3_arrive_31 : decode cX3_arrive 31 = .ok (.getfield 14, 3) := by decide +kernel
theorem dX3_arrive_34 : decode cX3_arrive 34 = .ok (.aload_n 0, 1) := by decide +kernel
theorem dX3_arrive_35 : decode cX3_arrive 35 = .ok (.getfield 35, 3) := by decide +kernel
theorem dX3_arrive_38 : decode cX3_arrive 38 = .ok (.iload_n 2, 1) := by decide +kernel
theorem dX3_arrive_39 : decode cX3_arrive 39 = .ok (.iadd, 1) := by decide +kernel
theorem dX3_arrive_40 : decode cX3_arrive 40 = .ok (.aload_n 0, 1) := by decide +kernel
theorem dX3_arrive_41 : decode cX3_arrive 41 = .ok (.getfield 7, 3) := by decide +kernel
theorem dX3_arrive_44 : decode cX3_arrive 44 = .ok (.iload_n 2, 1) := by decide +kernel
theorem dX3_arrive_45 : decode cX3_arrive 45 = .ok (.baload, 1) := by decide +kernel
theorem dX3_arrive_46 : decode cX3_arrive 46 = .ok (.bastore, 1) := by decide +kernel
theorem dX3_arrive_47 : decode cX3_arrive 47 = .ok (.iinc 2 1, 3) := by decide +kernel
theorem dX3_arrive_50 : decode cX3_arrive 50 = .ok (.goto (-25), 3) := by decide +kernel
theorem dX3_arrive_53 : decode cX3_arrive 53 = .ok (.aload_n 0, 1) := by decide +kernel
theorem dX3_arrive_54 : decode cX3_arrive 54 = .ok (.dup, 1) := by decide +kernel
theorem dX3_arrive_55 : decode cX3_arrive 55 = .ok (.getfield 35, 3) := by decide +kernel
theorem dX3_arrive_58 : decode cX3_arrive 58 = .ok (.iload_n 1, 1) := by decide +kernel
theorem dX3_arrive_59 : decode cX3_arrive 59 = .ok (.iadd, 1) := by decide +kernel
theorem dX3_arrive_60 : decode cX3_arrive 60 = .ok (.putfield 35, 3) := by decide +kernel
theorem dX3_arrive_63 : decode cX3_arrive 63 = .ok (.aload_n 0, 1) := by decide +kernel
theorem dX3_arrive_64 : decode cX3_arrive 64 = .ok (.getfield 35, 3) := by decide +kernel
theorem dX3_arrive_67 : decode cX3_arrive 67 = .ok (.ireturn, 1) := by decide +kernel
theorem dX3_drop_0 : decode cX3_drop 0 = .ok (.iload_n 1, 1) := by decide +kernel
theorem dX3_drop_1 : decode cX3_drop 1 = .ok (.ifCond .lt 11, 3) := by decide +kernel
theorem dX3_drop_4 : decode cX3_drop 4 = .ok (.iload_n 1, 1) := by decide +kernel
theorem dX3_drop_5 : decode cX3_drop 5 = .ok (.aload_n 0, 1) := by decide +kernel
theorem dX3_drop_6 : decode cX3_drop 6 = .ok (.getfield 35, 3) := by decide +kernel
theorem dX3_drop_9 : decode cX3_drop 9 = .ok (.if_icmp .le 5, 3) := by decide +kernel
theorem dX3_drop_12 : decode cX3_drop 12 = .ok (.iconst 0, 1) := by decide +kernel
theorem dX3_drop_13 : decode cX3_drop 13 = .ok (.ireturn, 1) := by decide +kernel
theorem dX3_drop_14 : decode cX3_drop 14 = .ok (.aload_n 0, 1) := by decide +kernel
theorem dX3_drop_15 : decode cX3_drop 15 = .ok (.iload_n 1, 1) := by decide +kernel
theorem dX3_drop_16 : decode cX3_drop 16 = .ok (.invokevirtual 38, 3) := by decide +kernel
theorem dX3_drop_19 : decode cX3_drop 19 = .ok (.iconst 1, 1) := by decide +kernel
theorem dX3_drop_20 : decode cX3_drop 20 = .ok (.ireturn, 1) := by decide +kernel
theorem dX3_go_0 : decode cX3_go 0 = .ok (.iload_n 1, 1) := by decide +kernel
theorem dX3_go_1 : decode cX3_go 1 = .ok (.istore_n 2, 1) := by decide +kernel
theorem dX3_go_2 : decode cX3_go 2 = .ok (.iload_n 2, 1) := by decide +kernel
theorem dX3_go_3 : decode cX3_go 3 = .ok (.aload_n 0, 1) := by decide +kernel
theorem dX3_go_4 : decode cX3_go 4 = .ok (.getfield 35, 3) := by decide +kernel
theorem dX3_go_7 : decode cX3_go 7 = .ok (.if_icmp .ge 23, 3) := by decide +kernel
theorem dX3_go_10 : decode cX3_go 10 = .ok (.aload_n 0, 1) := by decide +kernel
theorem dX3_go_11 : decode cX3_go 11 = .ok (.getfield 14, 3) := by decide +kernel
theorem dX3_go_14 : decode cX3_go 14 = .ok (.iload_n 2, 1) := by decide +kernel
theorem dX3_go_15 : decode cX3_go 15 = .ok (.iload_n 1, 1) := by decide +kernel
theorem dX3_go_16 : decode cX3_go 16 = .ok (.isub, 1) := by decide +kernel
theorem dX3_go_17 : decode cX3_go 17 = .ok (.aload_n 0, 1) := by decide +kernel
theorem dX3_go_18 : decode cX3_go 18 = .ok (.getfield 14, 3) := by decide +kernel
theorem dX3_go_21 : decode cX3_go 21 = .ok (.iload_n 2, 1) := by decide +kernel
theorem dX3_go_22 : decode cX3_go 22 = .ok (.baload, 1) := by decide +kernel
theorem dX3_go_23 : decode cX3_go 23 = .ok (.bastore, 1) := by decide +kernel
theorem dX3_go_24 : decode cX3_go 24 = .ok (.iinc 2 1, 3) := by decide +kernel
theorem dX3_go_27 : decode cX3_go 27 = .ok (.goto (-25), 3) := by decide +kernel
theorem dX3_go_30 : decode cX3_go 30 = .ok (.aload_n 0, 1) := by decide +kernel
theorem dX3_go_31 : decode cX3_go 31 = .ok (.dup, 1) := by decide +kernel
theorem dX3_go_32 : decode cX3_go 32 = .ok (.getfield 35, 3) := by decide +kernel
theorem dX3_go_35 : decode cX3_go 35 = .ok (.iload_n 1, 1) := by decide +kernel
theorem dX3_go_36 : decode cX3_go 36 = .ok (.isub, 1) := by decide +kernel
theorem dX3_go_37 : decode cX3_go 37 = .ok (.putfield 35, 3) := by decide +kernel
theorem dX3_go_40 : decode cX3_go 40 = .ok (.return_, 1) := by decide +kernel
theorem dX3_cut_0 : decode cX3_cut 0 = .ok (.aload_n 0, 1) := by decide +kernel
theorem dX3_cut_1 : decode cX3_cut 1 = .ok (.iconst 0, 1) := by decide +kernel
theorem dX3_cut_2 : decode cX3_cut 2 = .ok (.putfield 46, 3) := by decide +kernel
theorem dX3_cut_5 : decode cX3_cut 5 = .ok (.aload_n 0, 1) := by decide +kernel
theorem dX3_cut_6 : decode cX3_cut 6 = .ok (.iconst 0, 1) := by decide +kernel
theorem dX3_cut_7 : decode cX3_cut 7 = .ok (.putfield 49, 3) := by decide +kernel
theorem dX3_cut_10 : decode cX3_cut 10 = .ok (.aload_n 0, 1) := by decide +kernel
theorem dX3_cut_11 : decode cX3_cut 11 = .ok (.iconst 0, 1) := by decide +kernel
theorem dX3_cut_12 : decode cX3_cut 12 = .ok (.putfield 56, 3) := by decide +kernel
theorem dX3_cut_15 : decode cX3_cut 15 = .ok (.aload_n 0, 1) := by decide +kernel
theorem dX3_cut_16 : decode cX3_cut 16 = .ok (.iconst 0, 1) := by decide +kernel
theorem dX3_cut_17 : decode cX3_cut 17 = .ok (.putfield 41, 3) := by decide +kernel
theorem dX3_cut_20 : decode cX3_cut 20 = .ok (.aload_n 0, 1) := by decide +kernel
theorem dX3_cut_21 : decode cX3_cut 21 = .ok (.getfield 35, 3) := by decide +kernel
theorem dX3_cut_24 : decode cX3_cut 24 = .ok (.ifCond .le 35, 3) := by decide +kernel
theorem dX3_cut_27 : decode cX3_cut 27 = .ok (.aload_n 0, 1) := by decide +kernel
theorem dX3_cut_28 : decode cX3_cut 28 = .ok (.getfield 14, 3) := by decide +kernel
theorem dX3_cut_31 : decode cX3_cut 31 = .ok (.iconst 0, 1) := by decide +kernel
theorem dX3_cut_32 : decode cX3_cut 32 = .ok (.baload, 1) := by decide +kernel
theorem dX3_cut_33 : decode cX3_cut 33 = .ok (.bipush 42, 2) := by decide +kernel
theorem dX3_cut_35 : decode cX3_cut 35 = .ok (.if_icmp .ne 13, 3) := by decide +kernel
theorem dX3_cut_38 : decode cX3_cut 38 = .ok (.aload_n 0, 1) := by decide +kernel
theorem dX3_cut_39 : decode cX3_cut 39 = .ok (.invokevirtual 71, 3) := by decide +kernel
theorem dX3_cut_42 : decode cX3_cut 42 = .ok (.ifCond .eq 17, 3) := by decide +kernel
theorem dX3_cut_45 : decode cX3_cut 45 = .ok (.goto 10, 3) := by decide +kernel
theorem dX3_cut_48 : decode cX3_cut 48 = .ok (.aload_n 0, 1) := by decide +kernel
theorem dX3_cut_49 : decode cX3_cut 49 = .ok (.invokevirtual 74, 3) := by decide +kernel
theorem dX3_cut_52 : decode cX3_cut 52 = .ok (.ifCond .eq 7, 3) := by decide +kernel
theorem dX3_cut_55 : decode cX3_cut 55 = .ok (.iconst 1, 1) := by decide +kernel
theorem dX3_cut_56 : decode cX3_cut 56 = .ok (.goto 4, 3) := by decide +kernel
theorem dX3_cut_59 : decode cX3_cut 59 = .ok (.iconst 0, 1) := by decide +kernel
theorem dX3_cut_60 : decode cX3_cut 60 = .ok (.istore_n 1, 1) := by decide +kernel
theorem dX3_cut_61 : decode cX3_cut 61 = .ok (.iload_n 1, 1) := by decide +kernel
theorem dX3_cut_62 : decode cX3_cut 62 = .ok (.ifCond .ne 22, 3) := by decide +kernel
theorem dX3_cut_65 : decode cX3_cut 65 = .ok (.aload_n 0, 1) := by decide +kernel
theorem dX3_cut_66 : decode cX3_cut 66 = .ok (.iconst 0, 1) := by decide +kernel
theorem dX3_cut_67 : decode cX3_cut 67 = .ok (.putfield 46, 3) := by decide +kernel
theorem dX3_cut_70 : decode cX3_cut 70 = .ok (.aload_n 0, 1) := by decide +kernel
theorem dX3_cut_71 : decode cX3_cut 71 = .ok (.getfield 56, 3) := by decide +kernel
theorem dX3_cut_74 : decode cX3_cut 74 = .ok (.ifCond .le 8, 3) := by decide +kernel
theorem dX3_cut_77 : decode cX3_cut 77 = .ok (.bipush (-2), 2) := by decide +kernel
theorem dX3_cut_79 : decode cX3_cut 79 = .ok (.goto 4, 3) := by decide +kernel
theorem dX3_cut_82 : decode cX3_cut 82 = .ok (.iconst (-1), 1) := by decide +kernel
theorem dX3_cut_83 : decode cX3_cut 83 = .ok (.ireturn, 1) := by decide +kernel
theorem dX3_cut_84 : decode cX3_cut 84 = .ok (.aload_n 0, 1) := by decide +kernel
theorem dX3_cut_85 : decode cX3_cut 85 = .ok (.aload_n 0, 1) := by decide +kernel
theorem dX3_cut_86 : decode cX3_cut 86 = .ok (.getfield 41, 3) := by decide +kernel
theorem dX3_cut_89 : decode cX3_cut 89 = .ok (.invokevirtual 38, 3) := by decide +kernel
theorem dX3_cut_92 : decode cX3_cut 92 = .ok (.aload_n 0, 1) := by decide +kernel
theorem dX3_cut_93 : decode cX3_cut 93 = .ok (.getfield 46, 3) := by decide +kernel
theorem dX3_cut_96 : decode cX3_cut 96 = .ok (.ireturn, 1) := by decide +kernel
theorem dX3_cutTold_0 : decode cX3_cutTold 0 = .ok (.aload_n 0, 1) := by decide +kernel
theorem dX3_cutTold_1 : decode cX3_cutTold 1 = .ok (.invokevirtual 59, 3) := by decide +kernel
theorem dX3_cutTold_4 : decode cX3_cutTold 4 = .ok (.istore_n 1, 1) := by decide +kernel
theorem dX3_cutTold_5 : decode cX3_cutTold 5 = .ok (.aload_n 0, 1) := by decide +kernel
theorem dX3_cutTold_6 : decode cX3_cutTold 6 = .ok (.iload_n 1, 1) := by decide +kernel
theorem dX3_cutTold_7 : decode cX3_cutTold 7 = .ok (.ldc 44, 2) := by decide +kernel
theorem dX3_cutTold_9 : decode cX3_cutTold 9 = .ok (.if_icmp .eq 10, 3) := by decide +kernel
theorem dX3_cutTold_12 : decode cX3_cutTold 12 = .ok (.iload_n 1, 1) := by decide +kernel
theorem dX3_cutTold_13 : decode cX3_cutTold 13 = .ok (.sipush 1024, 3) := by decide +kernel
theorem dX3_cutTold_16 : decode cX3_cutTold 16 = .ok (.if_icmp .le 7, 3) := by decide +kernel
theorem dX3_cutTold_19 : decode cX3_cutTold 19 = .ok (.iconst 1, 1) := by decide +kernel
theorem dX3_cutTold_20 : decode cX3_cutTold 20 = .ok (.goto 4, 3) := by decide +kernel
theorem dX3_cutTold_23 : decode cX3_cutTold 23 = .ok (.iconst 0, 1) := by decide +kernel
theorem dX3_cutTold_24 : decode cX3_cutTold 24 = .ok (.putfield 56, 3) := by decide +kernel
theorem dX3_cutTold_27 : decode cX3_cutTold 27 = .ok (.iload_n 1, 1) := by decide +kernel
theorem dX3_cutTold_28 : decode cX3_cutTold 28 = .ok (.ldc 45, 2) := by decide +kernel
theorem dX3_cutTold_30 : decode cX3_cutTold 30 = .ok (.if_icmp .eq 14, 3) := by decide +kernel
theorem dX3_cutTold_33 : decode cX3_cutTold 33 = .ok (.aload_n 0, 1) := by decide +kernel
theorem dX3_cutTold_34 : decode cX3_cutTold 34 = .ok (.getfield 56, 3) := by decide +kernel
theorem dX3_cutTold_37 : decode cX3_cutTold 37 = .ok (.ifCond .ne 7, 3) := by decide +kernel
theorem dX3_cutTold_40 : decode cX3_cutTold 40 = .ok (.iconst 1, 1) := by decide +kernel
theorem dX3_cutTold_41 : decode cX3_cutTold 41 = .ok (.goto 4, 3) := by decide +kernel
theorem dX3_cutTold_44 : decode cX3_cutTold 44 = .ok (.iconst 0, 1) := by decide +kernel
theorem dX3_cutTold_45 : decode cX3_cutTold 45 = .ok (.istore_n 2, 1) := by decide +kernel
theorem dX3_cutTold_46 : decode cX3_cutTold 46 = .ok (.iconst 0, 1) := by decide +kernel
theorem dX3_cutTold_47 : decode cX3_cutTold 47 = .ok (.istore_n 3, 1) := by decide +kernel
theorem dX3_cutTold_48 : decode cX3_cutTold 48 = .ok (.iload_n 3, 1) := by decide +kernel
theorem dX3_cutTold_49 : decode cX3_cutTold 49 = .ok (.iload_n 1, 1) := by decide +kernel
theorem dX3_cutTold_50 : decode cX3_cutTold 50 = .ok (.if_icmp .ge 18, 3) := by decide +kernel
theorem dX3_cutTold_53 : decode cX3_cutTold 53 = .ok (.iload_n 2, 1) := by decide +kernel
theorem dX3_cutTold_54 : decode cX3_cutTold 54 = .ok (.ifCond .eq 14, 3) := by decide +kernel
theorem dX3_cutTold_57 : decode cX3_cutTold 57 = .ok (.aload_n 0, 1) := by decide +kernel
theorem dX3_cutTold_58 : decode cX3_cutTold 58 = .ok (.invokevirtual 67, 3) := by decide +kernel
theorem dX3_cutTold_61 : decode cX3_cutTold 61 = .ok (.istore_n 2, 1) := by decide +kernel
theorem dX3_cutTold_62 : decode cX3_cutTold 62 = .ok (.iinc 3 1, 3) := by decide +kernel
theorem dX3_cutTold_65 : decode cX3_cutTold 65 = .ok (.goto (-17), 3) := by decide +kernel
theorem dX3_cutTold_68 : decode cX3_cutTold 68 = .ok (.iload_n 2, 1) := by decide +kernel
theorem dX3_cutTold_69 : decode cX3_cutTold 69 = .ok (.ireturn, 1) := by decide +kernel
theorem dX3_line_0 : decode cX3_line 0 = .ok (.aload_n 0, 1) := by decide +kernel
theorem dX3_line_1 : decode cX3_line 1 = .ok (.getfield 41, 3) := by decide +kernel
theorem dX3_line_4 : decode cX3_line 4 = .ok (.iconst 1, 1) := by decide +kernel
theorem dX3_line_5 : decode cX3_line 5 = .ok (.iadd, 1) := by decide +kernel
theorem dX3_line_6 : decode cX3_line 6 = .ok (.istore_n 1, 1) := by decide +kernel
theorem dX3_line_7 : decode cX3_line 7 = .ok (.iload_n 1, 1) := by decide +kernel
theorem dX3_line_8 : decode cX3_line 8 = .ok (.iconst 1, 1) := by decide +kernel
theorem dX3_line_9 : decode cX3_line 9 = .ok (.iadd, 1) := by decide +kernel
theorem dX3_line_10 : decode cX3_line 10 = .ok (.aload_n 0, 1) := by decide +kernel
theorem dX3_line_11 : decode cX3_line 11 = .ok (.getfield 35, 3) := by decide +kernel
theorem dX3_line_14 : decode cX3_line 14 = .ok (.if_icmp .ge 46, 3) := by decide +kernel
theorem dX3_line_17 : decode cX3_line 17 = .ok (.iload_n 1, 1) := by decide +kernel
theorem dX3_line_18 : decode cX3_line 18 = .ok (.iconst 1, 1) := by decide +kernel
theorem dX3_line_19 : decode cX3_line 19 = .ok (.iadd, 1) := by decide +kernel
theorem dX3_line_20 : decode cX3_line 20 = .ok (.aload_n 0, 1) := by decide +kernel
theorem dX3_line_21 : decode cX3_line 21 = .ok (.getfield 41, 3) := by decide +kernel
theorem dX3_line_24 : decode cX3_line 24 = .ok (.bipush 16, 2) := by decide +kernel
theorem dX3_line_26 : decode cX3_line 26 = .ok (.iadd, 1) := by decide +kernel
theorem dX3_line_27 : decode cX3_line 27 = .ok (.if_icmp .ge 33, 3) := by decide +kernel
theorem dX3_line_30 : decode cX3_line 30 = .ok (.aload_n 0, 1) := by decide +kernel
theorem dX3_line_31 : decode cX3_line 31 = .ok (.getfield 14, 3) := by decide +kernel
theorem dX3_line_34 : decode cX3_line 34 = .ok (.iload_n 1, 1) := by decide +kernel
theorem dX3_line_35 : decode cX3_line 35 = .ok (.baload, 1) := by decide +kernel
theorem dX3_line_36 : decode cX3_line 36 = .ok (.bipush 13, 2) := by decide +kernel
theorem dX3_line_38 : decode cX3_line 38 = .ok (.if_icmp .ne 16, 3) := by decide +kernel
theorem dX3_line_41 : decode cX3_line 41 = .ok (.aload_n 0, 1) := by decide +kernel
theorem dX3_line_42 : decode cX3_line 42 = .ok (.getfield 14, 3) := by decide +kernel
theorem dX3_line_45 : decode cX3_line 45 = .ok (.iload_n 1, 1) := by decide +kernel
theorem dX3_line_46 : decode cX3_line 46 = .ok (.iconst 1, 1) := by decide +kernel
theorem dX3_line_47 : decode cX3_line 47 = .ok (.iadd, 1) := by decide +kernel
theorem dX3_line_48 : decode cX3_line 48 = .ok (.baload, 1) := by decide +kernel
theorem dX3_line_49 : decode cX3_line 49 = .ok (.bipush 10, 2) := by decide +kernel
theorem dX3_line_51 : decode cX3_line 51 = .ok (.if_icmp .eq 9, 3) := by decide +kernel
theorem dX3_line_54 : decode cX3_line 54 = .ok (.iinc 1 1, 3) := by decide +kernel
theorem dX3_line_57 : decode cX3_line 57 = .ok (.goto (-50), 3) := by decide +kernel
theorem dX3_line_60 : decode cX3_line 60 = .ok (.iload_n 1, 1) := by decide +kernel
theorem dX3_line_61 : decode cX3_line 61 = .ok (.iconst 1, 1) := by decide +kernel
theorem dX3_line_62 : decode cX3_line 62 = .ok (.iadd, 1) := by decide +kernel
theorem dX3_line_63 : decode cX3_line 63 = .ok (.aload_n 0, 1) := by decide +kernel
theorem dX3_line_64 : decode cX3_line 64 = .ok (.getfield 35, 3) := by decide +kernel
theorem dX3_line_67 : decode cX3_line 67 = .ok (.if_icmp .ge 20, 3) := by decide +kernel
theorem dX3_line_70 : decode cX3_line 70 = .ok (.iload_n 1, 1) := by decide +kernel
theorem dX3_line_71 : decode cX3_line 71 = .ok (.iconst 1, 1) := by decide +kernel
theorem dX3_line_72 : decode cX3_line 72 = .ok (.iadd, 1) := by decide +kernel
theorem dX3_line_73 : decode cX3_line 73 = .ok (.aload_n 0, 1) := by decide +kernel
theorem dX3_line_74 : decode cX3_line 74 = .ok (.getfield 41, 3) := by decide +kernel
theorem dX3_line_77 : decode cX3_line 77 = .ok (.bipush 16, 2) := by decide +kernel
theorem dX3_line_79 : decode cX3_line 79 = .ok (.iadd, 1) := by decide +kernel
theorem dX3_line_80 : decode cX3_line 80 = .ok (.if_icmp .ge 7, 3) := by decide +kernel
theorem dX3_line_83 : decode cX3_line 83 = .ok (.iconst 1, 1) := by decide +kernel
theorem dX3_line_84 : decode cX3_line 84 = .ok (.goto 4, 3) := by decide +kernel
theorem dX3_line_87 : decode cX3_line 87 = .ok (.iconst 0, 1) := by decide +kernel
theorem dX3_line_88 : decode cX3_line 88 = .ok (.istore_n 2, 1) := by decide +kernel
theorem dX3_line_89 : decode cX3_line 89 = .ok (.iload_n 2, 1) := by decide +kernel
theorem dX3_line_90 : decode cX3_line 90 = .ok (.ifCond .ne 25, 3) := by decide +kernel
theorem dX3_line_93 : decode cX3_line 93 = .ok (.aload_n 0, 1) := by decide +kernel
theorem dX3_line_94 : decode cX3_line 94 = .ok (.getfield 35, 3) := by decide +kernel
theorem dX3_line_97 : decode cX3_line 97 = .ok (.aload_n 0, 1) := by decide +kernel
theorem dX3_line_98 : decode cX3_line 98 = .ok (.getfield 41, 3) := by decide +kernel
theorem dX3_line_101 : decode cX3_line 101 = .ok (.isub, 1) := by decide +kernel
theorem dX3_line_102 : decode cX3_line 102 = .ok (.bipush 16, 2) := by decide +kernel
theorem dX3_line_104 : decode cX3_line 104 = .ok (.if_icmp .lt 8, 3) := by decide +kernel
theorem dX3_line_107 : decode cX3_line 107 = .ok (.ldc 44, 2) := by decide +kernel
theorem dX3_line_109 : decode cX3_line 109 = .ok (.goto 5, 3) := by decide +kernel
theorem dX3_line_112 : decode cX3_line 112 = .ok (.ldc 45, 2) := by decide +kernel
theorem dX3_line_114 : decode cX3_line 114 = .ok (.ireturn, 1) := by decide +kernel
theorem dX3_line_115 : decode cX3_line 115 = .ok (.aload_n 0, 1) := by decide +kernel
theorem dX3_line_116 : decode cX3_line 116 = .ok (.getfield 41, 3) := by decide +kernel
theorem dX3_line_119 : decode cX3_line 119 = .ok (.iconst 1, 1) := by decide +kernel
theorem dX3_line_120 : decode cX3_line 120 = .ok (.iadd, 1) := by decide +kernel
theorem dX3_line_121 : decode cX3_line 121 = .ok (.istore_n 3, 1) := by decide +kernel
theorem dX3_line_122 : decode cX3_line 122 = .ok (.aload_n 0, 1) := by decide +kernel
theorem dX3_line_123 : decode cX3_line 123 = .ok (.getfield 14, 3) := by decide +kernel
theorem dX3_line_126 : decode cX3_line 126 = .ok (.iload_n 3, 1) := by decide +kernel
theorem dX3_line_127 : decode cX3_line 127 = .ok (.baload, 1) := by decide +kernel
theorem dX3_line_128 : decode cX3_line 128 = .ok (.bipush 45, 2) := by decide +kernel
theorem dX3_line_130 : decode cX3_line 130 = .ok (.if_icmp .ne 7, 3) := by decide +kernel
theorem dX3_line_133 : decode cX3_line 133 = .ok (.iconst 1, 1) := by decide +kernel
theorem dX3_line_134 : decode cX3_line 134 = .ok (.goto 4, 3) := by decide +kernel
theorem dX3_line_137 : decode cX3_line 137 = .ok (.iconst 0, 1) := by decide +kernel
theorem dX3_line_138 : decode cX3_line 138 = .ok (.istore 4, 2) := by decide +kernel
theorem dX3_line_140 : decode cX3_line 140 = .ok (.iload 4, 2) := by decide +kernel
theorem dX3_line_142 : decode cX3_line 142 = .ok (.ifCond .eq 9, 3) := by decide +kernel
theorem dX3_line_145 : decode cX3_line 145 = .ok (.iload_n 3, 1) := by decide +kernel
theorem dX3_line_146 : decode cX3_line 146 = .ok (.iconst 1, 1) := by decide +kernel
theorem dX3_line_147 : decode cX3_line 147 = .ok (.iadd, 1) := by decide +kernel
theorem dX3_line_148 : decode cX3_line 148 = .ok (.goto 4, 3) := by decide +kernel
theorem dX3_line_151 : decode cX3_line 151 = .ok (.iload_n 3, 1) := by decide +kernel
theorem dX3_line_152 : decode cX3_line 152 = .ok (.istore_n 3, 1) := by decide +kernel
theorem dX3_line_153 : decode cX3_line 153 = .ok (.iconst 0, 1) := by decide +kernel
theorem dX3_line_154 : decode cX3_line 154 = .ok (.istore 5, 2) := by decide +kernel
theorem dX3_line_156 : decode cX3_line 156 = .ok (.iload_n 1, 1) := by decide +kernel
theorem dX3_line_157 : decode cX3_line 157 = .ok (.iload_n 3, 1) := by decide +kernel
theorem dX3_line_158 : decode cX3_line 158 = .ok (.if_icmp .le 15, 3) := by decide +kernel
theorem dX3_line_161 : decode cX3_line 161 = .ok (.iload_n 1, 1) := by decide +kernel
theorem dX3_line_162 : decode cX3_line 162 = .ok (.iload_n 3, 1) := by decide +kernel
theorem dX3_line_163 : decode cX3_line 163 = .ok (.bipush 6, 2) := by decide +kernel
theorem dX3_line_165 : decode cX3_line 165 = .ok (.iadd, 1) := by decide +kernel
theorem dX3_line_166 : decode cX3_line 166 = .ok (.if_icmp .gt 7, 3) := by decide +kernel
theorem dX3_line_169 : decode cX3_line 169 = .ok (.iconst 1, 1) := by decide +kernel
theorem dX3_line_170 : decode cX3_line 170 = .ok (.goto 4, 3) := by decide +kernel
theorem dX3_line_173 : decode cX3_line 173 = .ok (.iconst 0, 1) := by decide +kernel
theorem dX3_line_174 : decode cX3_line 174 = .ok (.istore 6, 2) := by decide +kernel
theorem dX3_line_176 : decode cX3_line 176 = .ok (.iload_n 3, 1) := by decide +kernel
theorem dX3_line_177 : decode cX3_line 177 = .ok (.istore 7, 2) := by decide +kernel
theorem dX3_line_179 : decode cX3_line 179 = .ok (.iload 7, 2) := by decide +kernel
theorem dX3_line_181 : decode cX3_line 181 = .ok (.iload_n 1, 1) := by decide +kernel
theorem dX3_line_182 : decode cX3_line 182 = .ok (.if_icmp .ge 72, 3) := by decide +kernel
theorem dX3_line_185 : decode cX3_line 185 = .ok (.iload 6, 2) := by decide +kernel
theorem dX3_line_187 : decode cX3_line 187 = .ok (.ifCond .eq 31, 3) := by decide +kernel
theorem dX3_line_190 : decode cX3_line 190 = .ok (.aload_n 0, 1) := by decide +kernel
theorem dX3_line_191 : decode cX3_line 191 = .ok (.getfield 14, 3) := by decide +kernel
theorem dX3_line_194 : decode cX3_line 194 = .ok (.iload 7, 2) := by decide +kernel
theorem dX3_line_196 : decode cX3_line 196 = .ok (.baload, 1) := by decide +kernel
theorem dX3_line_197 : decode cX3_line 197 = .ok (.bipush 48, 2) := by decide +kernel
theorem dX3_line_199 : decode cX3_line 199 = .ok (.if_icmp .lt 19, 3) := by decide +kernel
theorem dX3_line_202 : decode cX3_line 202 = .ok (.aload_n 0, 1) := by decide +kernel
theorem dX3_line_203 : decode cX3_line 203 = .ok (.getfield 14, 3) := by decide +kernel
theorem dX3_line_206 : decode cX3_line 206 = .ok (.iload 7, 2) := by decide +kernel
theorem dX3_line_208 : decode cX3_line 208 = .ok (.baload, 1) := by decide +kernel
theorem dX3_line_209 : decode cX3_line 209 = .ok (.bipush 57, 2) := by decide +kernel
theorem dX3_line_211 : decode cX3_line 211 = .ok (.if_icmp .gt 7, 3) := by decide +kernel
theorem dX3_line_214 : decode cX3_line 214 = .ok (.iconst 1, 1) := by decide +kernel
theorem dX3_line_215 : decode cX3_line 215 = .ok (.goto 4, 3) := by decide +kernel
theorem dX3_line_218 : decode cX3_line 218 = .ok (.iconst 0, 1) := by decide +kernel
theorem dX3_line_219 : decode cX3_line 219 = .ok (.istore 6, 2) := by decide +kernel
theorem dX3_line_221 : decode cX3_line 221 = .ok (.iload 6, 2) := by decide +kernel
theorem dX3_line_223 : decode cX3_line 223 = .ok (.ifCond .eq 22, 3) := by decide +kernel
theorem dX3_line_226 : decode cX3_line 226 = .ok (.bipush 10, 2) := by decide +kernel
theorem dX3_line_228 : decode cX3_line 228 = .ok (.iload 5, 2) := by decide +kernel
theorem dX3_line_230 : decode cX3_line 230 = .ok (.imul, 1) := by decide +kernel
theorem dX3_line_231 : decode cX3_line 231 = .ok (.aload_n 0, 1) := by decide +kernel
theorem dX3_line_232 : decode cX3_line 232 = .ok (.getfield 14, 3) := by decide +kernel
theorem dX3_line_235 : decode cX3_line 235 = .ok (.iload 7, 2) := by decide +kernel
theorem dX3_line_237 : decode cX3_line 237 = .ok (.baload, 1) := by decide +kernel
theorem dX3_line_238 : decode cX3_line 238 = .ok (.iadd, 1) := by decide +kernel
theorem dX3_line_239 : decode cX3_line 239 = .ok (.bipush 48, 2) := by decide +kernel
theorem dX3_line_241 : decode cX3_line 241 = .ok (.isub, 1) := by decide +kernel
theorem dX3_line_242 : decode cX3_line 242 = .ok (.goto 4, 3) := by decide +kernel
theorem dX3_line_245 : decode cX3_line 245 = .ok (.iconst 0, 1) := by decide +kernel
theorem dX3_line_246 : decode cX3_line 246 = .ok (.istore 5, 2) := by decide +kernel
theorem dX3_line_248 : decode cX3_line 248 = .ok (.iinc 7 1, 3) := by decide +kernel
theorem dX3_line_251 : decode cX3_line 251 = .ok (.goto (-72), 3) := by decide +kernel
theorem dX3_line_254 : decode cX3_line 254 = .ok (.aload_n 0, 1) := by decide +kernel
theorem dX3_line_255 : decode cX3_line 255 = .ok (.iload_n 1, 1) := by decide +kernel
theorem dX3_line_256 : decode cX3_line 256 = .ok (.iconst 2, 1) := by decide +kernel
theorem dX3_line_257 : decode cX3_line 257 = .ok (.iadd, 1) := by decide +kernel
theorem dX3_line_258 : decode cX3_line 258 = .ok (.putfield 41, 3) := by decide +kernel
theorem dX3_line_261 : decode cX3_line 261 = .ok (.iload 6, 2) := by decide +kernel
theorem dX3_line_263 : decode cX3_line 263 = .ok (.ifCond .ne 8, 3) := by decide +kernel
theorem dX3_line_266 : decode cX3_line 266 = .ok (.ldc 44, 2) := by decide +kernel
theorem dX3_line_268 : decode cX3_line 268 = .ok (.goto 16, 3) := by decide +kernel
theorem dX3_line_271 : decode cX3_line 271 = .ok (.iload 4, 2) := by decide +kernel
theorem dX3_line_273 : decode cX3_line 273 = .ok (.ifCond .eq 9, 3) := by decide +kernel
theorem dX3_line_276 : decode cX3_line 276 = .ok (.iload 5, 2) := by decide +kernel
theorem dX3_line_278 : decode cX3_line 278 = .ok (.ineg, 1) := by decide +kernel
theorem dX3_line_279 : decode cX3_line 279 = .ok (.goto 5, 3) := by decide +kernel
theorem dX3_line_282 : decode cX3_line 282 = .ok (.iload 5, 2) := by decide +kernel
theorem dX3_line_284 : decode cX3_line 284 = .ok (.ireturn, 1) := by decide +kernel
theorem dX3_told_0 : decode cX3_told 0 = .ok (.aload_n 0, 1) := by decide +kernel
theorem dX3_told_1 : decode cX3_told 1 = .ok (.bipush 36, 2) := by decide +kernel
theorem dX3_told_3 : decode cX3_told 3 = .ok (.invokevirtual 52, 3) := by decide +kernel
theorem dX3_told_6 : decode cX3_told 6 = .ok (.istore_n 1, 1) := by decide +kernel
theorem dX3_told_7 : decode cX3_told 7 = .ok (.aload_n 0, 1) := by decide +kernel
theorem dX3_told_8 : decode cX3_told 8 = .ok (.iload_n 1, 1) := by decide +kernel
theorem dX3_told_9 : decode cX3_told 9 = .ok (.ifCond .ge 7, 3) := by decide +kernel
theorem dX3_told_12 : decode cX3_told 12 = .ok (.iconst 2, 1) := by decide +kernel
theorem dX3_told_13 : decode cX3_told 13 = .ok (.goto 4, 3) := by decide +kernel
theorem dX3_told_16 : decode cX3_told 16 = .ok (.iconst 0, 1) := by decide +kernel
theorem dX3_told_17 : decode cX3_told 17 = .ok (.putfield 56, 3) := by decide +kernel
theorem dX3_told_20 : decode cX3_told 20 = .ok (.iload_n 1, 1) := by decide +kernel
theorem dX3_told_21 : decode cX3_told 21 = .ok (.iconst 1, 1) := by decide +kernel
theorem dX3_told_22 : decode cX3_told 22 = .ok (.if_icmp .ge 5, 3) := by decide +kernel
theorem dX3_told_25 : decode cX3_told 25 = .ok (.iconst 0, 1) := by decide +kernel
theorem dX3_told_26 : decode cX3_told 26 = .ok (.ireturn, 1) := by decide +kernel
theorem dX3_told_27 : decode cX3_told 27 = .ok (.aload_n 0, 1) := by decide +kernel
theorem dX3_told_28 : decode cX3_told 28 = .ok (.dup, 1) := by decide +kernel
theorem dX3_told_29 : decode cX3_told 29 = .ok (.getfield 41, 3) := by decide +kernel
theorem dX3_told_32 : decode cX3_told 32 = .ok (.iconst 1, 1) := by decide +kernel
theorem dX3_told_33 : decode cX3_told 33 = .ok (.isub, 1) := by decide +kernel
theorem dX3_told_34 : decode cX3_told 34 = .ok (.putfield 41, 3) := by decide +kernel
theorem dX3_told_37 : decode cX3_told 37 = .ok (.aload_n 0, 1) := by decide +kernel
theorem dX3_told_38 : decode cX3_told 38 = .ok (.invokevirtual 59, 3) := by decide +kernel
theorem dX3_told_41 : decode cX3_told 41 = .ok (.istore_n 2, 1) := by decide +kernel
theorem dX3_told_42 : decode cX3_told 42 = .ok (.aload_n 0, 1) := by decide +kernel
theorem dX3_told_43 : decode cX3_told 43 = .ok (.iload_n 2, 1) := by decide +kernel
theorem dX3_told_44 : decode cX3_told 44 = .ok (.ldc 44, 2) := by decide +kernel
theorem dX3_told_46 : decode cX3_told 46 = .ok (.if_icmp .eq 20, 3) := by decide +kernel
theorem dX3_told_49 : decode cX3_told 49 = .ok (.iload_n 2, 1) := by decide +kernel
theorem dX3_told_50 : decode cX3_told 50 = .ok (.ldc 45, 2) := by decide +kernel
theorem dX3_told_52 : decode cX3_told 52 = .ok (.if_icmp .eq 18, 3) := by decide +kernel
theorem dX3_told_55 : decode cX3_told 55 = .ok (.iload_n 2, 1) := by decide +kernel
theorem dX3_told_56 : decode cX3_told 56 = .ok (.ifCond .lt 10, 3) := by decide +kernel
theorem dX3_told_59 : decode cX3_told 59 = .ok (.iload_n 2, 1) := by decide +kernel
theorem dX3_told_60 : decode cX3_told 60 = .ok (.sipush 16384, 3) := by decide +kernel
theorem dX3_told_63 : decode cX3_told 63 = .ok (.if_icmp .le 7, 3) := by decide +kernel
theorem dX3_told_66 : decode cX3_told 66 = .ok (.iconst 3, 1) := by decide +kernel
theorem dX3_told_67 : decode cX3_told 67 = .ok (.goto 4, 3) := by decide +kernel
theorem dX3_told_70 : decode cX3_told 70 = .ok (.iconst 0, 1) := by decide +kernel
theorem dX3_told_71 : decode cX3_told 71 = .ok (.putfield 56, 3) := by decide +kernel
theorem dX3_told_74 : decode cX3_told 74 = .ok (.iload_n 2, 1) := by decide +kernel
theorem dX3_told_75 : decode cX3_told 75 = .ok (.ifCond .lt 10, 3) := by decide +kernel
theorem dX3_told_78 : decode cX3_told 78 = .ok (.aload_n 0, 1) := by decide +kernel
theorem dX3_told_79 : decode cX3_told 79 = .ok (.getfield 56, 3) := by decide +kernel
theorem dX3_told_82 : decode cX3_told 82 = .ok (.ifCond .le 5, 3) := by decide +kernel
theorem dX3_told_85 : decode cX3_told 85 = .ok (.iconst 0, 1) := by decide +kernel
theorem dX3_told_86 : decode cX3_told 86 = .ok (.ireturn, 1) := by decide +kernel
theorem dX3_told_87 : decode cX3_told 87 = .ok (.aload_n 0, 1) := by decide +kernel
theorem dX3_told_88 : decode cX3_told 88 = .ok (.getfield 41, 3) := by decide +kernel
theorem dX3_told_91 : decode cX3_told 91 = .ok (.istore_n 3, 1) := by decide +kernel
theorem dX3_told_92 : decode cX3_told 92 = .ok (.aload_n 0, 1) := by decide +kernel
theorem dX3_told_93 : decode cX3_told 93 = .ok (.dup, 1) := by decide +kernel
theorem dX3_told_94 : decode cX3_told 94 = .ok (.getfield 41, 3) := by decide +kernel
theorem dX3_told_97 : decode cX3_told 97 = .ok (.iload_n 2, 1) := by decide +kernel
theorem dX3_told_98 : decode cX3_told 98 = .ok (.iadd, 1) := by decide +kernel
theorem dX3_told_99 : decode cX3_told 99 = .ok (.putfield 41, 3) := by decide +kernel
theorem dX3_told_102 : decode cX3_told 102 = .ok (.aload_n 0, 1) := by decide +kernel
theorem dX3_told_103 : decode cX3_told 103 = .ok (.bipush 13, 2) := by decide +kernel
theorem dX3_told_105 : decode cX3_told 105 = .ok (.invokevirtual 52, 3) := by decide +kernel
theorem dX3_told_108 : decode cX3_told 108 = .ok (.istore 4, 2) := by decide +kernel
theorem dX3_told_110 : decode cX3_told 110 = .ok (.iload 4, 2) := by decide +kernel
theorem dX3_told_112 : decode cX3_told 112 = .ok (.ifCond .le 12, 3) := by decide +kernel
theorem dX3_told_115 : decode cX3_told 115 = .ok (.aload_n 0, 1) := by decide +kernel
theorem dX3_told_116 : decode cX3_told 116 = .ok (.bipush 10, 2) := by decide +kernel
theorem dX3_told_118 : decode cX3_told 118 = .ok (.invokevirtual 52, 3) := by decide +kernel
theorem dX3_told_121 : decode cX3_told 121 = .ok (.goto 4, 3) := by decide +kernel
theorem dX3_told_124 : decode cX3_told 124 = .ok (.iconst 0, 1) := by decide +kernel
theorem dX3_told_125 : decode cX3_told 125 = .ok (.istore 5, 2) := by decide +kernel
theorem dX3_told_127 : decode cX3_told 127 = .ok (.aload_n 0, 1) := by decide +kernel
theorem dX3_told_128 : decode cX3_told 128 = .ok (.iload 4, 2) := by decide +kernel
theorem dX3_told_130 : decode cX3_told 130 = .ok (.ifCond .lt 8, 3) := by decide +kernel
theorem dX3_told_133 : decode cX3_told 133 = .ok (.iload 5, 2) := by decide +kernel
theorem dX3_told_135 : decode cX3_told 135 = .ok (.ifCond .ge 7, 3) := by decide +kernel
theorem dX3_told_138 : decode cX3_told 138 = .ok (.iconst 4, 1) := by decide +kernel
theorem dX3_told_139 : decode cX3_told 139 = .ok (.goto 4, 3) := by decide +kernel
theorem dX3_told_142 : decode cX3_told 142 = .ok (.iconst 0, 1) := by decide +kernel
theorem dX3_told_143 : decode cX3_told 143 = .ok (.putfield 56, 3) := by decide +kernel
theorem dX3_told_146 : decode cX3_told 146 = .ok (.iload 5, 2) := by decide +kernel
theorem dX3_told_148 : decode cX3_told 148 = .ok (.iconst 1, 1) := by decide +kernel
theorem dX3_told_149 : decode cX3_told 149 = .ok (.if_icmp .ge 5, 3) := by decide +kernel
theorem dX3_told_152 : decode cX3_told 152 = .ok (.iconst 0, 1) := by decide +kernel
theorem dX3_told_153 : decode cX3_told 153 = .ok (.ireturn, 1) := by decide +kernel
theorem dX3_told_154 : decode cX3_told 154 = .ok (.aload_n 0, 1) := by decide +kernel
theorem dX3_told_155 : decode cX3_told 155 = .ok (.iload_n 3, 1) := by decide +kernel
theorem dX3_told_156 : decode cX3_told 156 = .ok (.iload_n 2, 1) := by decide +kernel
theorem dX3_told_157 : decode cX3_told 157 = .ok (.invokevirtual 63, 3) := by decide +kernel
theorem dX3_told_160 : decode cX3_told 160 = .ok (.iconst 1, 1) := by decide +kernel
theorem dX3_told_161 : decode cX3_told 161 = .ok (.ireturn, 1) := by decide +kernel
theorem dX3_must_0 : decode cX3_must 0 = .ok (.aload_n 0, 1) := by decide +kernel
theorem dX3_must_1 : decode cX3_must 1 = .ok (.getfield 41, 3) := by decide +kernel
theorem dX3_must_4 : decode cX3_must 4 = .ok (.aload_n 0, 1) := by decide +kernel
theorem dX3_must_5 : decode cX3_must 5 = .ok (.getfield 35, 3) := by decide +kernel
theorem dX3_must_8 : decode cX3_must 8 = .ok (.if_icmp .lt 5, 3) := by decide +kernel
theorem dX3_must_11 : decode cX3_must 11 = .ok (.iconst 0, 1) := by decide +kernel
theorem dX3_must_12 : decode cX3_must 12 = .ok (.ireturn, 1) := by decide +kernel
theorem dX3_must_13 : decode cX3_must 13 = .ok (.aload_n 0, 1) := by decide +kernel
theorem dX3_must_14 : decode cX3_must 14 = .ok (.getfield 14, 3) := by decide +kernel
theorem dX3_must_17 : decode cX3_must 17 = .ok (.aload_n 0, 1) := by decide +kernel
theorem dX3_must_18 : decode cX3_must 18 = .ok (.getfield 41, 3) := by decide +kernel
theorem dX3_must_21 : decode cX3_must 21 = .ok (.baload, 1) := by decide +kernel
theorem dX3_must_22 : decode cX3_must 22 = .ok (.iload_n 1, 1) := by decide +kernel
theorem dX3_must_23 : decode cX3_must 23 = .ok (.if_icmp .ne 7, 3) := by decide +kernel
theorem dX3_must_26 : decode cX3_must 26 = .ok (.iconst 1, 1) := by decide +kernel
theorem dX3_must_27 : decode cX3_must 27 = .ok (.goto 4, 3) := by decide +kernel
theorem dX3_must_30 : decode cX3_must 30 = .ok (.iconst 0, 1) := by decide +kernel
theorem dX3_must_31 : decode cX3_must 31 = .ok (.istore_n 2, 1) := by decide +kernel
theorem dX3_must_32 : decode cX3_must 32 = .ok (.aload_n 0, 1) := by decide +kernel
theorem dX3_must_33 : decode cX3_must 33 = .ok (.dup, 1) := by decide +kernel
theorem dX3_must_34 : decode cX3_must 34 = .ok (.getfield 41, 3) := by decide +kernel
theorem dX3_must_37 : decode cX3_must 37 = .ok (.iconst 1, 1) := by decide +kernel
theorem dX3_must_38 : decode cX3_must 38 = .ok (.iadd, 1) := by decide +kernel
theorem dX3_must_39 : decode cX3_must 39 = .ok (.putfield 41, 3) := by decide +kernel
theorem dX3_must_42 : decode cX3_must 42 = .ok (.iload_n 2, 1) := by decide +kernel
theorem dX3_must_43 : decode cX3_must 43 = .ok (.ifCond .eq 7, 3) := by decide +kernel
theorem dX3_must_46 : decode cX3_must 46 = .ok (.iconst 1, 1) := by decide +kernel
theorem dX3_must_47 : decode cX3_must 47 = .ok (.goto 4, 3) := by decide +kernel
theorem dX3_must_50 : decode cX3_must 50 = .ok (.iconst (-1), 1) := by decide +kernel
theorem dX3_must_51 : decode cX3_must 51 = .ok (.ireturn, 1) := by decide +kernel
theorem dX3_word_0 : decode cX3_word 0 = .ok (.aload_n 0, 1) := by decide +kernel
theorem dX3_word_1 : decode cX3_word 1 = .ok (.getfield 20, 3) := by decide +kernel
theorem dX3_word_4 : decode cX3_word 4 = .ok (.aload_n 0, 1) := by decide +kernel
theorem dX3_word_5 : decode cX3_word 5 = .ok (.getfield 46, 3) := by decide +kernel
theorem dX3_word_8 : decode cX3_word 8 = .ok (.aload_n 0, 1) := by decide +kernel
theorem dX3_word_9 : decode cX3_word 9 = .ok (.getfield 49, 3) := by decide +kernel
theorem dX3_word_12 : decode cX3_word 12 = .ok (.iastore, 1) := by decide +kernel
theorem dX3_word_13 : decode cX3_word 13 = .ok (.aload_n 0, 1) := by decide +kernel
theorem dX3_word_14 : decode cX3_word 14 = .ok (.getfield 24, 3) := by decide +kernel
theorem dX3_word_17 : decode cX3_word 17 = .ok (.aload_n 0, 1) := by decide +kernel
theorem dX3_word_18 : decode cX3_word 18 = .ok (.getfield 46, 3) := by decide +kernel
theorem dX3_word_21 : decode cX3_word 21 = .ok (.iload_n 2, 1) := by decide +kernel
theorem dX3_word_22 : decode cX3_word 22 = .ok (.iastore, 1) := by decide +kernel
theorem dX3_word_23 : decode cX3_word 23 = .ok (.iconst 0, 1) := by decide +kernel
theorem dX3_word_24 : decode cX3_word 24 = .ok (.istore_n 3, 1) := by decide +kernel
theorem dX3_word_25 : decode cX3_word 25 = .ok (.iload_n 3, 1) := by decide +kernel
theorem dX3_word_26 : decode cX3_word 26 = .ok (.iload_n 2, 1) := by decide +kernel
theorem dX3_word_27 : decode cX3_word 27 = .ok (.if_icmp .ge 28, 3) := by decide +kernel
theorem dX3_word_30 : decode cX3_word 30 = .ok (.aload_n 0, 1) := by decide +kernel
theorem dX3_word_31 : decode cX3_word 31 = .ok (.getfield 17, 3) := by decide +kernel
theorem dX3_word_34 : decode cX3_word 34 = .ok (.aload_n 0, 1) := by decide +kernel
theorem dX3_word_35 : decode cX3_word 35 = .ok (.getfield 49, 3) := by decide +kernel
theorem dX3_word_38 : decode cX3_word 38 = .ok (.iload_n 3, 1) := by decide +kernel
theorem dX3_word_39 : decode cX3_word 39 = .ok (.iadd, 1) := by decide +kernel
theorem dX3_word_40 : decode cX3_word 40 = .ok (.aload_n 0, 1) := by decide +kernel
theorem dX3_word_41 : decode cX3_word 41 = .ok (.getfield 14, 3) := by decide +kernel
theorem dX3_word_44 : decode cX3_word 44 = .ok (.iload_n 1, 1) := by decide +kernel
theorem dX3_word_45 : decode cX3_word 45 = .ok (.iload_n 3, 1) := by decide +kernel
theorem dX3_word_46 : decode cX3_word 46 = .ok (.iadd, 1) := by decide +kernel
theorem dX3_word_47 : decode cX3_word 47 = .ok (.baload, 1) := by decide +kernel
theorem dX3_word_48 : decode cX3_word 48 = .ok (.bastore, 1) := by decide +kernel
theorem dX3_word_49 : decode cX3_word 49 = .ok (.iinc 3 1, 3) := by decide +kernel
theorem dX3_word_52 : decode cX3_word 52 = .ok (.goto (-27), 3) := by decide +kernel
theorem dX3_word_55 : decode cX3_word 55 = .ok (.aload_n 0, 1) := by decide +kernel
theorem dX3_word_56 : decode cX3_word 56 = .ok (.dup, 1) := by decide +kernel
theorem dX3_word_57 : decode cX3_word 57 = .ok (.getfield 49, 3) := by decide +kernel
theorem dX3_word_60 : decode cX3_word 60 = .ok (.iload_n 2, 1) := by decide +kernel
theorem dX3_word_61 : decode cX3_word 61 = .ok (.iadd, 1) := by decide +kernel
theorem dX3_word_62 : decode cX3_word 62 = .ok (.putfield 49, 3) := by decide +kernel
theorem dX3_word_65 : decode cX3_word 65 = .ok (.aload_n 0, 1) := by decide +kernel
theorem dX3_word_66 : decode cX3_word 66 = .ok (.dup, 1) := by decide +kernel
theorem dX3_word_67 : decode cX3_word 67 = .ok (.getfield 46, 3) := by decide +kernel
theorem dX3_word_70 : decode cX3_word 70 = .ok (.iconst 1, 1) := by decide +kernel
theorem dX3_word_71 : decode cX3_word 71 = .ok (.iadd, 1) := by decide +kernel
theorem dX3_word_72 : decode cX3_word 72 = .ok (.putfield 46, 3) := by decide +kernel
theorem dX3_word_75 : decode cX3_word 75 = .ok (.return_, 1) := by decide +kernel
theorem dX3_cutLine_0 : decode cX3_cutLine 0 = .ok (.iconst 0, 1) := by decide +kernel
theorem dX3_cutLine_1 : decode cX3_cutLine 1 = .ok (.istore_n 1, 1) := by decide +kernel
theorem dX3_cutLine_2 : decode cX3_cutLine 2 = .ok (.iload_n 1, 1) := by decide +kernel
theorem dX3_cutLine_3 : decode cX3_cutLine 3 = .ok (.aload_n 0, 1) := by decide +kernel
theorem dX3_cutLine_4 : decode cX3_cutLine 4 = .ok (.getfield 35, 3) := by decide +kernel
theorem dX3_cutLine_7 : decode cX3_cutLine 7 = .ok (.if_icmp .ge 27, 3) := by decide +kernel
theorem dX3_cutLine_10 : decode cX3_cutLine 10 = .ok (.iload_n 1, 1) := by decide +kernel
theorem dX3_cutLine_11 : decode cX3_cutLine 11 = .ok (.sipush 2048, 3) := by decide +kernel
theorem dX3_cutLine_14 : decode cX3_cutLine 14 = .ok (.if_icmp .ge 20, 3) := by decide +kernel
theorem dX3_cutLine_17 : decode cX3_cutLine 17 = .ok (.aload_n 0, 1) := by decide +kernel
theorem dX3_cutLine_18 : decode cX3_cutLine 18 = .ok (.getfield 14, 3) := by decide +kernel
theorem dX3_cutLine_21 : decode cX3_cutLine 21 = .ok (.iload_n 1, 1) := by decide +kernel
theorem dX3_cutLine_22 : decode cX3_cutLine 22 = .ok (.baload, 1) := by decide +kernel
theorem dX3_cutLine_23 : decode cX3_cutLine 23 = .ok (.bipush 10, 2) := by decide +kernel
theorem dX3_cutLine_25 : decode cX3_cutLine 25 = .ok (.if_icmp .eq 9, 3) := by decide +kernel
theorem dX3_cutLine_28 : decode cX3_cutLine 28 = .ok (.iinc 1 1, 3) := by decide +kernel
theorem dX3_cutLine_31 : decode cX3_cutLine 31 = .ok (.goto (-29), 3) := by decide +kernel
theorem dX3_cutLine_34 : decode cX3_cutLine 34 = .ok (.aload_n 0, 1) := by decide +kernel
theorem dX3_cutLine_35 : decode cX3_cutLine 35 = .ok (.iload_n 1, 1) := by decide +kernel
theorem dX3_cutLine_36 : decode cX3_cutLine 36 = .ok (.sipush 2048, 3) := by decide +kernel
theorem dX3_cutLine_39 : decode cX3_cutLine 39 = .ok (.if_icmp .ne 7, 3) := by decide +kernel
theorem dX3_cutLine_42 : decode cX3_cutLine 42 = .ok (.iconst 5, 1) := by decide +kernel
theorem dX3_cutLine_43 : decode cX3_cutLine 43 = .ok (.goto 4, 3) := by decide +kernel
theorem dX3_cutLine_46 : decode cX3_cutLine 46 = .ok (.iconst 0, 1) := by decide +kernel
theorem dX3_cutLine_47 : decode cX3_cutLine 47 = .ok (.putfield 56, 3) := by decide +kernel
theorem dX3_cutLine_50 : decode cX3_cutLine 50 = .ok (.iload_n 1, 1) := by decide +kernel
theorem dX3_cutLine_51 : decode cX3_cutLine 51 = .ok (.sipush 2048, 3) := by decide +kernel
theorem dX3_cutLine_54 : decode cX3_cutLine 54 = .ok (.if_icmp .eq 11, 3) := by decide +kernel
theorem dX3_cutLine_57 : decode cX3_cutLine 57 = .ok (.iload_n 1, 1) := by decide +kernel
theorem dX3_cutLine_58 : decode cX3_cutLine 58 = .ok (.aload_n 0, 1) := by decide +kernel
theorem dX3_cutLine_59 : decode cX3_cutLine 59 = .ok (.getfield 35, 3) := by decide +kernel
theorem dX3_cutLine_62 : decode cX3_cutLine 62 = .ok (.if_icmp .ne 5, 3) := by decide +kernel
theorem dX3_cutLine_65 : decode cX3_cutLine 65 = .ok (.iconst 0, 1) := by decide +kernel
theorem dX3_cutLine_66 : decode cX3_cutLine 66 = .ok (.ireturn, 1) := by decide +kernel
theorem dX3_cutLine_67 : decode cX3_cutLine 67 = .ok (.aload_n 0, 1) := by decide +kernel
theorem dX3_cutLine_68 : decode cX3_cutLine 68 = .ok (.iload_n 1, 1) := by decide +kernel
theorem dX3_cutLine_69 : decode cX3_cutLine 69 = .ok (.iconst 1, 1) := by decide +kernel
theorem dX3_cutLine_70 : decode cX3_cutLine 70 = .ok (.iadd, 1) := by decide +kernel
theorem dX3_cutLine_71 : decode cX3_cutLine 71 = .ok (.putfield 41, 3) := by decide +kernel
theorem dX3_cutLine_74 : decode cX3_cutLine 74 = .ok (.iload_n 1, 1) := by decide +kernel
theorem dX3_cutLine_75 : decode cX3_cutLine 75 = .ok (.ifCond .le 22, 3) := by decide +kernel
theorem dX3_cutLine_78 : decode cX3_cutLine 78 = .ok (.aload_n 0, 1) := by decide +kernel
theorem dX3_cutLine_79 : decode cX3_cutLine 79 = .ok (.getfield 14, 3) := by decide +kernel
theorem dX3_cutLine_82 : decode cX3_cutLine 82 = .ok (.iload_n 1, 1) := by decide +kernel
theorem dX3_cutLine_83 : decode cX3_cutLine 83 = .ok (.iconst 1, 1) := by decide +kernel
theorem dX3_cutLine_84 : decode cX3_cutLine 84 = .ok (.isub, 1) := by decide +kernel
theorem dX3_cutLine_85 : decode cX3_cutLine 85 = .ok (.baload, 1) := by decide +kernel
theorem dX3_cutLine_86 : decode cX3_cutLine 86 = .ok (.bipush 13, 2) := by decide +kernel
theorem dX3_cutLine_88 : decode cX3_cutLine 88 = .ok (.if_icmp .ne 9, 3) := by decide +kernel
theorem dX3_cutLine_91 : decode cX3_cutLine 91 = .ok (.iload_n 1, 1) := by decide +kernel
theorem dX3_cutLine_92 : decode cX3_cutLine 92 = .ok (.iconst 1, 1) := by decide +kernel
theorem dX3_cutLine_93 : decode cX3_cutLine 93 = .ok (.isub, 1) := by decide +kernel
theorem dX3_cutLine_94 : decode cX3_cutLine 94 = .ok (.goto 4, 3) := by decide +kernel
theorem dX3_cutLine_97 : decode cX3_cutLine 97 = .ok (.iload_n 1, 1) := by decide +kernel
theorem dX3_cutLine_98 : decode cX3_cutLine 98 = .ok (.istore_n 2, 1) := by decide +kernel
theorem dX3_cutLine_99 : decode cX3_cutLine 99 = .ok (.iconst 0, 1) := by decide +kernel
theorem dX3_cutLine_100 : decode cX3_cutLine 100 = .ok (.istore_n 3, 1) := by decide +kernel
theorem dX3_cutLine_101 : decode cX3_cutLine 101 = .ok (.iload_n 3, 1) := by decide +kernel
theorem dX3_cutLine_102 : decode cX3_cutLine 102 = .ok (.iload_n 2, 1) := by decide +kernel
theorem dX3_cutLine_103 : decode cX3_cutLine 103 = .ok (.if_icmp .ge 53, 3) := by decide +kernel
theorem dX3_cutLine_106 : decode cX3_cutLine 106 = .ok (.iload_n 3, 1) := by decide +kernel
theorem dX3_cutLine_107 : decode cX3_cutLine 107 = .ok (.istore 4, 2) := by decide +kernel
theorem dX3_cutLine_109 : decode cX3_cutLine 109 = .ok (.iload 4, 2) := by decide +kernel
theorem dX3_cutLine_111 : decode cX3_cutLine 111 = .ok (.iload_n 2, 1) := by decide +kernel
theorem dX3_cutLine_112 : decode cX3_cutLine 112 = .ok (.if_icmp .ge 21, 3) := by decide +kernel
theorem dX3_cutLine_115 : decode cX3_cutLine 115 = .ok (.aload_n 0, 1) := by decide +kernel
theorem dX3_cutLine_116 : decode cX3_cutLine 116 = .ok (.getfield 14, 3) := by decide +kernel
theorem dX3_cutLine_119 : decode cX3_cutLine 119 = .ok (.iload 4, 2) := by decide +kernel
theorem dX3_cutLine_121 : decode cX3_cutLine 121 = .ok (.baload, 1) := by decide +kernel
theorem dX3_cutLine_122 : decode cX3_cutLine 122 = .ok (.bipush 32, 2) := by decide +kernel
theorem dX3_cutLine_124 : decode cX3_cutLine 124 = .ok (.if_icmp .eq 9, 3) := by decide +kernel
theorem dX3_cutLine_127 : decode cX3_cutLine 127 = .ok (.iinc 4 1, 3) := by decide +kernel
theorem dX3_cutLine_130 : decode cX3_cutLine 130 = .ok (.goto (-21), 3) := by decide +kernel
theorem dX3_cutLine_133 : decode cX3_cutLine 133 = .ok (.iload 4, 2) := by decide +kernel
theorem dX3_cutLine_135 : decode cX3_cutLine 135 = .ok (.iload_n 3, 1) := by decide +kernel
theorem dX3_cutLine_136 : decode cX3_cutLine 136 = .ok (.if_icmp .le 12, 3) := by decide +kernel
theorem dX3_cutLine_139 : decode cX3_cutLine 139 = .ok (.aload_n 0, 1) := by decide +kernel
theorem dX3_cutLine_140 : decode cX3_cutLine 140 = .ok (.iload_n 3, 1) := by decide +kernel
theorem dX3_cutLine_141 : decode cX3_cutLine 141 = .ok (.iload 4, 2) := by decide +kernel
theorem dX3_cutLine_143 : decode cX3_cutLine 143 = .ok (.iload_n 3, 1) := by decide +kernel
theorem dX3_cutLine_144 : decode cX3_cutLine 144 = .ok (.isub, 1) := by decide +kernel
theorem dX3_cutLine_145 : decode cX3_cutLine 145 = .ok (.invokevirtual 63, 3) := by decide +kernel
theorem dX3_cutLine_148 : decode cX3_cutLine 148 = .ok (.iload 4, 2) := by decide +kernel
theorem dX3_cutLine_150 : decode cX3_cutLine 150 = .ok (.iconst 1, 1) := by decide +kernel
theorem dX3_cutLine_151 : decode cX3_cutLine 151 = .ok (.iadd, 1) := by decide +kernel
theorem dX3_cutLine_152 : decode cX3_cutLine 152 = .ok (.istore_n 3, 1) := by decide +kernel
theorem dX3_cutLine_153 : decode cX3_cutLine 153 = .ok (.goto (-52), 3) := by decide +kernel
theorem dX3_cutLine_156 : decode cX3_cutLine 156 = .ok (.iconst 1, 1) := by decide +kernel
theorem dX3_cutLine_157 : decode cX3_cutLine 157 = .ok (.ireturn, 1) := by decide +kernel
theorem dX3_fault_0 : decode cX3_fault 0 = .ok (.aload_n 0, 1) := by decide +kernel
theorem dX3_fault_1 : decode cX3_fault 1 = .ok (.getfield 56, 3) := by decide +kernel
theorem dX3_fault_4 : decode cX3_fault 4 = .ok (.ireturn, 1) := by decide +kernel
theorem dX3_size_0 : decode cX3_size 0 = .ok (.iload_n 1, 1) := by decide +kernel
theorem dX3_size_1 : decode cX3_size 1 = .ok (.ifCond .lt 20, 3) := by decide +kernel
theorem dX3_size_4 : decode cX3_size 4 = .ok (.iload_n 1, 1) := by decide +kernel
theorem dX3_size_5 : decode cX3_size 5 = .ok (.aload_n 0, 1) := by decide +kernel
theorem dX3_size_6 : decode cX3_size 6 = .ok (.getfield 46, 3) := by decide +kernel
theorem dX3_size_9 : decode cX3_size 9 = .ok (.if_icmp .ge 12, 3) := by decide +kernel
theorem dX3_size_12 : decode cX3_size 12 = .ok (.aload_n 0, 1) := by decide +kernel
theorem dX3_size_13 : decode cX3_size 13 = .ok (.getfield 24, 3) := by decide +kernel
theorem dX3_size_16 : decode cX3_size 16 = .ok (.iload_n 1, 1) := by decide +kernel
theorem dX3_size_17 : decode cX3_size 17 = .ok (.iaload, 1) := by decide +kernel
theorem dX3_size_18 : decode cX3_size 18 = .ok (.goto 4, 3) := by decide +kernel
theorem dX3_size_21 : decode cX3_size 21 = .ok (.iconst (-1), 1) := by decide +kernel
theorem dX3_size_22 : decode cX3_size 22 = .ok (.ireturn, 1) := by decide +kernel
theorem dX3_byteOf_0 : decode cX3_byteOf 0 = .ok (.iload_n 2, 1) := by decide +kernel
theorem dX3_byteOf_1 : decode cX3_byteOf 1 = .ok (.ifCond .lt 32, 3) := by decide +kernel
theorem dX3_byteOf_4 : decode cX3_byteOf 4 = .ok (.iload_n 2, 1) := by decide +kernel
theorem dX3_byteOf_5 : decode cX3_byteOf 5 = .ok (.aload_n 0, 1) := by decide +kernel
theorem dX3_byteOf_6 : decode cX3_byteOf 6 = .ok (.iload_n 1, 1) := by decide +kernel
theorem dX3_byteOf_7 : decode cX3_byteOf 7 = .ok (.invokevirtual 77, 3) := by decide +kernel
theorem dX3_byteOf_10 : decode cX3_byteOf 10 = .ok (.if_icmp .ge 23, 3) := by decide +kernel
theorem dX3_byteOf_13 : decode cX3_byteOf 13 = .ok (.aload_n 0, 1) := by decide +kernel
theorem dX3_byteOf_14 : decode cX3_byteOf 14 = .ok (.getfield 17, 3) := by decide +kernel
theorem dX3_byteOf_17 : decode cX3_byteOf 17 = .ok (.aload_n 0, 1) := by decide +kernel
theorem dX3_byteOf_18 : decode cX3_byteOf 18 = .ok (.getfield 20, 3) := by decide +kernel
theorem dX3_byteOf_21 : decode cX3_byteOf 21 = .ok (.iload_n 1, 1) := by decide +kernel
theorem dX3_byteOf_22 : decode cX3_byteOf 22 = .ok (.iaload, 1) := by decide +kernel
theorem dX3_byteOf_23 : decode cX3_byteOf 23 = .ok (.iload_n 2, 1) := by decide +kernel
theorem dX3_byteOf_24 : decode cX3_byteOf 24 = .ok (.iadd, 1) := by decide +kernel
theorem dX3_byteOf_25 : decode cX3_byteOf 25 = .ok (.baload, 1) := by decide +kernel
theorem dX3_byteOf_26 : decode cX3_byteOf 26 = .ok (.sipush 255, 3) := by decide +kernel
theorem dX3_byteOf_29 : decode cX3_byteOf 29 = .ok (.iand, 1) := by decide +kernel
theorem dX3_byteOf_30 : decode cX3_byteOf 30 = .ok (.goto 4, 3) := by decide +kernel
theorem dX3_byteOf_33 : decode cX3_byteOf 33 = .ok (.iconst (-1), 1) := by decide +kernel
theorem dX3_byteOf_34 : decode cX3_byteOf 34 = .ok (.ireturn, 1) := by decide +kernel
theorem dX3_waiting_0 : decode cX3_waiting 0 = .ok (.aload_n 0, 1) := by decide +kernel
theorem dX3_waiting_1 : decode cX3_waiting 1 = .ok (.getfield 35, 3) := by decide +kernel
theorem dX3_waiting_4 : decode cX3_waiting 4 = .ok (.ireturn, 1) := by decide +kernel
