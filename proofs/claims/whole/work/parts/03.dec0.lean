theorem dX0_init_0 : decode cX0_init 0 = .ok (.aload_n 0, 1) := by decide +kernel
theorem dX0_init_1 : decode cX0_init 1 = .ok (.invokespecial 3, 3) := by decide +kernel
theorem dX0_init_4 : decode cX0_init 4 = .ok (.aload_n 0, 1) := by decide +kernel
theorem dX0_init_5 : decode cX0_init 5 = .ok (.bipush 24, 2) := by decide +kernel
theorem dX0_init_7 : decode cX0_init 7 = .ok (.newarray .boolean, 2) := by decide +kernel
theorem dX0_init_9 : decode cX0_init 9 = .ok (.putfield 9, 3) := by decide +kernel
theorem dX0_init_12 : decode cX0_init 12 = .ok (.aload_n 0, 1) := by decide +kernel
theorem dX0_init_13 : decode cX0_init 13 = .ok (.bipush 24, 2) := by decide +kernel
theorem dX0_init_15 : decode cX0_init 15 = .ok (.newarray .boolean, 2) := by decide +kernel
theorem dX0_init_17 : decode cX0_init 17 = .ok (.putfield 15, 3) := by decide +kernel
theorem dX0_init_20 : decode cX0_init 20 = .ok (.aload_n 0, 1) := by decide +kernel
theorem dX0_init_21 : decode cX0_init 21 = .ok (.bipush 24, 2) := by decide +kernel
theorem dX0_init_23 : decode cX0_init 23 = .ok (.newarray .int, 2) := by decide +kernel
theorem dX0_init_25 : decode cX0_init 25 = .ok (.putfield 18, 3) := by decide +kernel
theorem dX0_init_28 : decode cX0_init 28 = .ok (.aload_n 0, 1) := by decide +kernel
theorem dX0_init_29 : decode cX0_init 29 = .ok (.bipush 24, 2) := by decide +kernel
theorem dX0_init_31 : decode cX0_init 31 = .ok (.newarray .int, 2) := by decide +kernel
theorem dX0_init_33 : decode cX0_init 33 = .ok (.putfield 22, 3) := by decide +kernel
theorem dX0_init_36 : decode cX0_init 36 = .ok (.aload_n 0, 1) := by decide +kernel
theorem dX0_init_37 : decode cX0_init 37 = .ok (.bipush 24, 2) := by decide +kernel
theorem dX0_init_39 : decode cX0_init 39 = .ok (.newarray .int, 2) := by decide +kernel
theorem dX0_init_41 : decode cX0_init 41 = .ok (.putfield 25, 3) := by decide +kernel
theorem dX0_init_44 : decode cX0_init 44 = .ok (.aload_n 0, 1) := by decide +kernel
theorem dX0_init_45 : decode cX0_init 45 = .ok (.aload_n 1, 1) := by decide +kernel
theorem dX0_init_46 : decode cX0_init 46 = .ok (.putfield 28, 3) := by decide +kernel
theorem dX0_init_49 : decode cX0_init 49 = .ok (.return_, 1) := by decide +kernel
theorem dX0_forgetOrder_0 : decode cX0_forgetOrder 0 = .ok (.aload_n 0, 1) := by decide +kernel
theorem dX0_forgetOrder_1 : decode cX0_forgetOrder 1 = .ok (.iconst 0, 1) := by decide +kernel
theorem dX0_forgetOrder_2 : decode cX0_forgetOrder 2 = .ok (.putfield 32, 3) := by decide +kernel
theorem dX0_forgetOrder_5 : decode cX0_forgetOrder 5 = .ok (.return_, 1) := by decide +kernel
theorem dX0_worstByRank_0 : decode cX0_worstByRank 0 = .ok (.iconst 0, 1) := by decide +kernel
theorem dX0_worstByRank_1 : decode cX0_worstByRank 1 = .ok (.istore_n 2, 1) := by decide +kernel
theorem dX0_worstByRank_2 : decode cX0_worstByRank 2 = .ok (.iload_n 2, 1) := by decide +kernel
theorem dX0_worstByRank_3 : decode cX0_worstByRank 3 = .ok (.aload_n 0, 1) := by decide +kernel
theorem dX0_worstByRank_4 : decode cX0_worstByRank 4 = .ok (.getfield 28, 3) := by decide +kernel
theorem dX0_worstByRank_7 : decode cX0_worstByRank 7 = .ok (.getfield 36, 3) := by decide +kernel
theorem dX0_worstByRank_10 : decode cX0_worstByRank 10 = .ok (.if_icmp .ge 28, 3) := by decide +kernel
theorem dX0_worstByRank_13 : decode cX0_worstByRank 13 = .ok (.aload_n 0, 1) := by decide +kernel
theorem dX0_worstByRank_14 : decode cX0_worstByRank 14 = .ok (.getfield 9, 3) := by decide +kernel
theorem dX0_worstByRank_17 : decode cX0_worstByRank 17 = .ok (.iload_n 2, 1) := by decide +kernel
theorem dX0_worstByRank_18 : decode cX0_worstByRank 18 = .ok (.aload_n 0, 1) := by decide +kernel
theorem dX0_worstByRank_19 : decode cX0_worstByRank 19 = .ok (.getfield 28, 3) := by decide +kernel
theorem dX0_worstByRank_22 : decode cX0_worstByRank 22 = .ok (.getfield 42, 3) := by decide +kernel
theorem dX0_worstByRank_25 : decode cX0_worstByRank 25 = .ok (.iload_n 2, 1) := by decide +kernel
theorem dX0_worstByRank_26 : decode cX0_worstByRank 26 = .ok (.aaload, 1) := by decide +kernel
theorem dX0_worstByRank_27 : decode cX0_worstByRank 27 = .ok (.aload_n 1, 1) := by decide +kernel
theorem dX0_worstByRank_28 : decode cX0_worstByRank 28 = .ok (.invokevirtual 46, 3) := by decide +kernel
theorem dX0_worstByRank_31 : decode cX0_worstByRank 31 = .ok (.bastore, 1) := by decide +kernel
theorem dX0_worstByRank_32 : decode cX0_worstByRank 32 = .ok (.iinc 2 1, 3) := by decide +kernel
theorem dX0_worstByRank_35 : decode cX0_worstByRank 35 = .ok (.goto (-33), 3) := by decide +kernel
theorem dX0_worstByRank_38 : decode cX0_worstByRank 38 = .ok (.aload_n 0, 1) := by decide +kernel
theorem dX0_worstByRank_39 : decode cX0_worstByRank 39 = .ok (.aload_n 1, 1) := by decide +kernel
theorem dX0_worstByRank_40 : decode cX0_worstByRank 40 = .ok (.invokevirtual 52, 3) := by decide +kernel
theorem dX0_worstByRank_43 : decode cX0_worstByRank 43 = .ok (.ireturn, 1) := by decide +kernel
theorem dX0_putBehindOthersLeft_0 : decode cX0_putBehindOthersLeft 0 = .ok (.iconst 0, 1) := by decide +kernel
theorem dX0_putBehindOthersLeft_1 : decode cX0_putBehindOthersLeft 1 = .ok (.istore_n 2, 1) := by decide +kernel
theorem dX0_putBehindOthersLeft_2 : decode cX0_putBehindOthersLeft 2 = .ok (.iload_n 2, 1) := by decide +kernel
theorem dX0_putBehindOthersLeft_3 : decode cX0_putBehindOthersLeft 3 = .ok (.aload_n 0, 1) := by decide +kernel
theorem dX0_putBehindOthersLeft_4 : decode cX0_putBehindOthersLeft 4 = .ok (.getfield 28, 3) := by decide +kernel
theorem dX0_putBehindOthersLeft_7 : decode cX0_putBehindOthersLeft 7 = .ok (.getfield 36, 3) := by decide +kernel
theorem dX0_putBehindOthersLeft_10 : decode cX0_putBehindOthersLeft 10 = .ok (.if_icmp .ge 37, 3) := by decide +kernel
theorem dX0_putBehindOthersLeft_13 : decode cX0_putBehindOthersLeft 13 = .ok (.aload_n 0, 1) := by decide +kernel
theorem dX0_putBehindOthersLeft_14 : decode cX0_putBehindOthersLeft 14 = .ok (.getfield 9, 3) := by decide +kernel
theorem dX0_putBehindOthersLeft_17 : decode cX0_putBehindOthersLeft 17 = .ok (.iload_n 2, 1) := by decide +kernel
theorem dX0_putBehindOthersLeft_18 : decode cX0_putBehindOthersLeft 18 = .ok (.aload_n 0, 1) := by decide +kernel
theorem dX0_putBehindOthersLeft_19 : decode cX0_putBehindOthersLeft 19 = .ok (.getfield 15, 3) := by decide +kernel
theorem dX0_putBehindOthersLeft_22 : decode cX0_putBehindOthersLeft 22 = .ok (.iload_n 2, 1) := by decide +kernel
theorem dX0_putBehindOthersLeft_23 : decode cX0_putBehindOthersLeft 23 = .ok (.baload, 1) := by decide +kernel
theorem dX0_putBehindOthersLeft_24 : decode cX0_putBehindOthersLeft 24 = .ok (.ifCond .eq 15, 3) := by decide +kernel
theorem dX0_putBehindOthersLeft_27 : decode cX0_putBehindOthersLeft 27 = .ok (.iload_n 2, 1) := by decide +kernel
theorem dX0_putBehindOthersLeft_28 : decode cX0_putBehindOthersLeft 28 = .ok (.aload_n 1, 1) := by decide +kernel
theorem dX0_putBehindOthersLeft_29 : decode cX0_putBehindOthersLeft 29 = .ok (.getfield 56, 3) := by decide +kernel
theorem dX0_putBehindOthersLeft_32 : decode cX0_putBehindOthersLeft 32 = .ok (.if_icmp .eq 7, 3) := by decide +kernel
theorem dX0_putBehindOthersLeft_35 : decode cX0_putBehindOthersLeft 35 = .ok (.iconst 1, 1) := by decide +kernel
theorem dX0_putBehindOthersLeft_36 : decode cX0_putBehindOthersLeft 36 = .ok (.goto 4, 3) := by decide +kernel
theorem dX0_putBehindOthersLeft_39 : decode cX0_putBehindOthersLeft 39 = .ok (.iconst 0, 1) := by decide +kernel
theorem dX0_putBehindOthersLeft_40 : decode cX0_putBehindOthersLeft 40 = .ok (.bastore, 1) := by decide +kernel
theorem dX0_putBehindOthersLeft_41 : decode cX0_putBehindOthersLeft 41 = .ok (.iinc 2 1, 3) := by decide +kernel
theorem dX0_putBehindOthersLeft_44 : decode cX0_putBehindOthersLeft 44 = .ok (.goto (-42), 3) := by decide +kernel
theorem dX0_putBehindOthersLeft_47 : decode cX0_putBehindOthersLeft 47 = .ok (.return_, 1) := by decide +kernel
theorem dX0_worstBelowHigher_0 : decode cX0_worstBelowHigher 0 = .ok (.aload_n 0, 1) := by decide +kernel
theorem dX0_worstBelowHigher_1 : decode cX0_worstBelowHigher 1 = .ok (.aload_n 1, 1) := by decide +kernel
theorem dX0_worstBelowHigher_2 : decode cX0_worstBelowHigher 2 = .ok (.invokevirtual 59, 3) := by decide +kernel
theorem dX0_worstBelowHigher_5 : decode cX0_worstBelowHigher 5 = .ok (.aload_n 0, 1) := by decide +kernel
theorem dX0_worstBelowHigher_6 : decode cX0_worstBelowHigher 6 = .ok (.iconst 1, 1) := by decide +kernel
theorem dX0_worstBelowHigher_7 : decode cX0_worstBelowHigher 7 = .ok (.aload_n 1, 1) := by decide +kernel
theorem dX0_worstBelowHigher_8 : decode cX0_worstBelowHigher 8 = .ok (.iconst (-1), 1) := by decide +kernel
theorem dX0_worstBelowHigher_9 : decode cX0_worstBelowHigher 9 = .ok (.invokevirtual 63, 3) := by decide +kernel
theorem dX0_worstBelowHigher_12 : decode cX0_worstBelowHigher 12 = .ok (.istore_n 2, 1) := by decide +kernel
theorem dX0_worstBelowHigher_13 : decode cX0_worstBelowHigher 13 = .ok (.iload_n 2, 1) := by decide +kernel
theorem dX0_worstBelowHigher_14 : decode cX0_worstBelowHigher 14 = .ok (.iconst (-1), 1) := by decide +kernel
theorem dX0_worstBelowHigher_15 : decode cX0_worstBelowHigher 15 = .ok (.if_icmp .ne 5, 3) := by decide +kernel
theorem dX0_worstBelowHigher_18 : decode cX0_worstBelowHigher 18 = .ok (.iconst (-1), 1) := by decide +kernel
theorem dX0_worstBelowHigher_19 : decode cX0_worstBelowHigher 19 = .ok (.ireturn, 1) := by decide +kernel
theorem dX0_worstBelowHigher_20 : decode cX0_worstBelowHigher 20 = .ok (.iconst 0, 1) := by decide +kernel
theorem dX0_worstBelowHigher_21 : decode cX0_worstBelowHigher 21 = .ok (.istore_n 3, 1) := by decide +kernel
theorem dX0_worstBelowHigher_22 : decode cX0_worstBelowHigher 22 = .ok (.iconst 0, 1) := by decide +kernel
theorem dX0_worstBelowHigher_23 : decode cX0_worstBelowHigher 23 = .ok (.istore 4, 2) := by decide +kernel
theorem dX0_worstBelowHigher_25 : decode cX0_worstBelowHigher 25 = .ok (.iconst 0, 1) := by decide +kernel
theorem dX0_worstBelowHigher_26 : decode cX0_worstBelowHigher 26 = .ok (.istore 5, 2) := by decide +kernel
theorem dX0_worstBelowHigher_28 : decode cX0_worstBelowHigher 28 = .ok (.iload 5, 2) := by decide +kernel
theorem dX0_worstBelowHigher_30 : decode cX0_worstBelowHigher 30 = .ok (.sipush 30000, 3) := by decide +kernel
theorem dX0_worstBelowHigher_33 : decode cX0_worstBelowHigher 33 = .ok (.if_icmp .gt 69, 3) := by decide +kernel
theorem dX0_worstBelowHigher_36 : decode cX0_worstBelowHigher 36 = .ok (.iload 5, 2) := by decide +kernel
theorem dX0_worstBelowHigher_38 : decode cX0_worstBelowHigher 38 = .ok (.aload_n 1, 1) := by decide +kernel
theorem dX0_worstBelowHigher_39 : decode cX0_worstBelowHigher 39 = .ok (.getfield 67, 3) := by decide +kernel
theorem dX0_worstBelowHigher_42 : decode cX0_worstBelowHigher 42 = .ok (.imul, 1) := by decide +kernel
theorem dX0_worstBelowHigher_43 : decode cX0_worstBelowHigher 43 = .ok (.iload_n 2, 1) := by decide +kernel
theorem dX0_worstBelowHigher_44 : decode cX0_worstBelowHigher 44 = .ok (.aload_n 1, 1) := by decide +kernel
theorem dX0_worstBelowHigher_45 : decode cX0_worstBelowHigher 45 = .ok (.getfield 70, 3) := by decide +kernel
theorem dX0_worstBelowHigher_48 : decode cX0_worstBelowHigher 48 = .ok (.iadd, 1) := by decide +kernel
theorem dX0_worstBelowHigher_49 : decode cX0_worstBelowHigher 49 = .ok (.if_icmp .ge 53, 3) := by decide +kernel
theorem dX0_worstBelowHigher_52 : decode cX0_worstBelowHigher 52 = .ok (.aload_n 0, 1) := by decide +kernel
theorem dX0_worstBelowHigher_53 : decode cX0_worstBelowHigher 53 = .ok (.iload 4, 2) := by decide +kernel
theorem dX0_worstBelowHigher_55 : decode cX0_worstBelowHigher 55 = .ok (.aload_n 1, 1) := by decide +kernel
theorem dX0_worstBelowHigher_56 : decode cX0_worstBelowHigher 56 = .ok (.iload 5, 2) := by decide +kernel
theorem dX0_worstBelowHigher_58 : decode cX0_worstBelowHigher 58 = .ok (.invokevirtual 63, 3) := by decide +kernel
theorem dX0_worstBelowHigher_61 : decode cX0_worstBelowHigher 61 = .ok (.istore 4, 2) := by decide +kernel
theorem dX0_worstBelowHigher_63 : decode cX0_worstBelowHigher 63 = .ok (.iload 4, 2) := by decide +kernel
theorem dX0_worstBelowHigher_65 : decode cX0_worstBelowHigher 65 = .ok (.iconst (-1), 1) := by decide +kernel
theorem dX0_worstBelowHigher_66 : decode cX0_worstBelowHigher 66 = .ok (.if_icmp .ne 5, 3) := by decide +kernel
theorem dX0_worstBelowHigher_69 : decode cX0_worstBelowHigher 69 = .ok (.iconst (-1), 1) := by decide +kernel
theorem dX0_worstBelowHigher_70 : decode cX0_worstBelowHigher 70 = .ok (.ireturn, 1) := by decide +kernel
theorem dX0_worstBelowHigher_71 : decode cX0_worstBelowHigher 71 = .ok (.iload_n 3, 1) := by decide +kernel
theorem dX0_worstBelowHigher_72 : decode cX0_worstBelowHigher 72 = .ok (.aload_n 1, 1) := by decide +kernel
theorem dX0_worstBelowHigher_73 : decode cX0_worstBelowHigher 73 = .ok (.getfield 70, 3) := by decide +kernel
theorem dX0_worstBelowHigher_76 : decode cX0_worstBelowHigher 76 = .ok (.iload 4, 2) := by decide +kernel
theorem dX0_worstBelowHigher_78 : decode cX0_worstBelowHigher 78 = .ok (.iadd, 1) := by decide +kernel
theorem dX0_worstBelowHigher_79 : decode cX0_worstBelowHigher 79 = .ok (.iload 5, 2) := by decide +kernel
theorem dX0_worstBelowHigher_81 : decode cX0_worstBelowHigher 81 = .ok (.aload_n 1, 1) := by decide +kernel
theorem dX0_worstBelowHigher_82 : decode cX0_worstBelowHigher 82 = .ok (.getfield 67, 3) := by decide +kernel
theorem dX0_worstBelowHigher_85 : decode cX0_worstBelowHigher 85 = .ok (.imul, 1) := by decide +kernel
theorem dX0_worstBelowHigher_86 : decode cX0_worstBelowHigher 86 = .ok (.isub, 1) := by decide +kernel
theorem dX0_worstBelowHigher_87 : decode cX0_worstBelowHigher 87 = .ok (.aload_n 1, 1) := by decide +kernel
theorem dX0_worstBelowHigher_88 : decode cX0_worstBelowHigher 88 = .ok (.invokevirtual 73, 3) := by decide +kernel
theorem dX0_worstBelowHigher_91 : decode cX0_worstBelowHigher 91 = .ok (.iadd, 1) := by decide +kernel
theorem dX0_worstBelowHigher_92 : decode cX0_worstBelowHigher 92 = .ok (.invokestatic 77, 3) := by decide +kernel
theorem dX0_worstBelowHigher_95 : decode cX0_worstBelowHigher 95 = .ok (.istore_n 3, 1) := by decide +kernel
theorem dX0_worstBelowHigher_96 : decode cX0_worstBelowHigher 96 = .ok (.iinc 5 1, 3) := by decide +kernel
theorem dX0_worstBelowHigher_99 : decode cX0_worstBelowHigher 99 = .ok (.goto (-71), 3) := by decide +kernel
theorem dX0_worstBelowHigher_102 : decode cX0_worstBelowHigher 102 = .ok (.iload_n 3, 1) := by decide +kernel
theorem dX0_worstBelowHigher_103 : decode cX0_worstBelowHigher 103 = .ok (.ireturn, 1) := by decide +kernel
theorem dX0_weigh_0 : decode cX0_weigh 0 = .ok (.iconst 0, 1) := by decide +kernel
theorem dX0_weigh_1 : decode cX0_weigh 1 = .ok (.istore_n 2, 1) := by decide +kernel
theorem dX0_weigh_2 : decode cX0_weigh 2 = .ok (.aload_n 1, 1) := by decide +kernel
theorem dX0_weigh_3 : decode cX0_weigh 3 = .ok (.invokevirtual 73, 3) := by decide +kernel
theorem dX0_weigh_6 : decode cX0_weigh 6 = .ok (.istore_n 3, 1) := by decide +kernel
theorem dX0_weigh_7 : decode cX0_weigh 7 = .ok (.iconst 0, 1) := by decide +kernel
theorem dX0_weigh_8 : decode cX0_weigh 8 = .ok (.istore 4, 2) := by decide +kernel
theorem dX0_weigh_10 : decode cX0_weigh 10 = .ok (.iload 4, 2) := by decide +kernel
theorem dX0_weigh_12 : decode cX0_weigh 12 = .ok (.aload_n 0, 1) := by decide +kernel
theorem dX0_weigh_13 : decode cX0_weigh 13 = .ok (.getfield 28, 3) := by decide +kernel
theorem dX0_weigh_16 : decode cX0_weigh 16 = .ok (.getfield 36, 3) := by decide +kernel
theorem dX0_weigh_19 : decode cX0_weigh 19 = .ok (.if_icmp .ge 75, 3) := by decide +kernel
theorem dX0_weigh_22 : decode cX0_weigh 22 = .ok (.aload_n 0, 1) := by decide +kernel
theorem dX0_weigh_23 : decode cX0_weigh 23 = .ok (.getfield 18, 3) := by decide +kernel
theorem dX0_weigh_26 : decode cX0_weigh 26 = .ok (.iload 4, 2) := by decide +kernel
theorem dX0_weigh_28 : decode cX0_weigh 28 = .ok (.aload_n 0, 1) := by decide +kernel
theorem dX0_weigh_29 : decode cX0_weigh 29 = .ok (.getfield 28, 3) := by decide +kernel
theorem dX0_weigh_32 : decode cX0_weigh 32 = .ok (.getfield 42, 3) := by decide +kernel
theorem dX0_weigh_35 : decode cX0_weigh 35 = .ok (.iload 4, 2) := by decide +kernel
theorem dX0_weigh_37 : decode cX0_weigh 37 = .ok (.aaload, 1) := by decide +kernel
theorem dX0_weigh_38 : decode cX0_weigh 38 = .ok (.invokevirtual 73, 3) := by decide +kernel
theorem dX0_weigh_41 : decode cX0_weigh 41 = .ok (.iastore, 1) := by decide +kernel
theorem dX0_weigh_42 : decode cX0_weigh 42 = .ok (.aload_n 0, 1) := by decide +kernel
theorem dX0_weigh_43 : decode cX0_weigh 43 = .ok (.getfield 9, 3) := by decide +kernel
theorem dX0_weigh_46 : decode cX0_weigh 46 = .ok (.iload 4, 2) := by decide +kernel
theorem dX0_weigh_48 : decode cX0_weigh 48 = .ok (.baload, 1) := by decide +kernel
theorem dX0_weigh_49 : decode cX0_weigh 49 = .ok (.ifCond .eq 18, 3) := by decide +kernel
theorem dX0_weigh_52 : decode cX0_weigh 52 = .ok (.iload_n 3, 1) := by decide +kernel
theorem dX0_weigh_53 : decode cX0_weigh 53 = .ok (.aload_n 0, 1) := by decide +kernel
theorem dX0_weigh_54 : decode cX0_weigh 54 = .ok (.getfield 18, 3) := by decide +kernel
theorem dX0_weigh_57 : decode cX0_weigh 57 = .ok (.iload 4, 2) := by decide +kernel
theorem dX0_weigh_59 : decode cX0_weigh 59 = .ok (.iaload, 1) := by decide +kernel
theorem dX0_weigh_60 : decode cX0_weigh 60 = .ok (.invokestatic 77, 3) := by decide +kernel
theorem dX0_weigh_63 : decode cX0_weigh 63 = .ok (.istore_n 3, 1) := by decide +kernel
theorem dX0_weigh_64 : decode cX0_weigh 64 = .ok (.goto 24, 3) := by decide +kernel
theorem dX0_weigh_67 : decode cX0_weigh 67 = .ok (.iload 4, 2) := by decide +kernel
theorem dX0_weigh_69 : decode cX0_weigh 69 = .ok (.aload_n 1, 1) := by decide +kernel
theorem dX0_weigh_70 : decode cX0_weigh 70 = .ok (.getfield 56, 3) := by decide +kernel
theorem dX0_weigh_73 : decode cX0_weigh 73 = .ok (.if_icmp .eq 15, 3) := by decide +kernel
theorem dX0_weigh_76 : decode cX0_weigh 76 = .ok (.iload_n 2, 1) := by decide +kernel
theorem dX0_weigh_77 : decode cX0_weigh 77 = .ok (.aload_n 0, 1) := by decide +kernel
theorem dX0_weigh_78 : decode cX0_weigh 78 = .ok (.getfield 18, 3) := by decide +kernel
theorem dX0_weigh_81 : decode cX0_weigh 81 = .ok (.iload 4, 2) := by decide +kernel
theorem dX0_weigh_83 : decode cX0_weigh 83 = .ok (.iaload, 1) := by decide +kernel
theorem dX0_weigh_84 : decode cX0_weigh 84 = .ok (.invokestatic 77, 3) := by decide +kernel
theorem dX0_weigh_87 : decode cX0_weigh 87 = .ok (.istore_n 2, 1) := by decide +kernel
theorem dX0_weigh_88 : decode cX0_weigh 88 = .ok (.iinc 4 1, 3) := by decide +kernel
theorem dX0_weigh_91 : decode cX0_weigh 91 = .ok (.goto (-81), 3) := by decide +kernel
theorem dX0_weigh_94 : decode cX0_weigh 94 = .ok (.aload_n 0, 1) := by decide +kernel
theorem dX0_weigh_95 : decode cX0_weigh 95 = .ok (.iload_n 2, 1) := by decide +kernel
theorem dX0_weigh_96 : decode cX0_weigh 96 = .ok (.iconst 1, 1) := by decide +kernel
theorem dX0_weigh_97 : decode cX0_weigh 97 = .ok (.isub, 1) := by decide +kernel
theorem dX0_weigh_98 : decode cX0_weigh 98 = .ok (.iconst 0, 1) := by decide +kernel
theorem dX0_weigh_99 : decode cX0_weigh 99 = .ok (.invokestatic 77, 3) := by decide +kernel
theorem dX0_weigh_102 : decode cX0_weigh 102 = .ok (.putfield 83, 3) := by decide +kernel
theorem dX0_weigh_105 : decode cX0_weigh 105 = .ok (.aload_n 0, 1) := by decide +kernel
theorem dX0_weigh_106 : decode cX0_weigh 106 = .ok (.bipush 18, 2) := by decide +kernel
theorem dX0_weigh_108 : decode cX0_weigh 108 = .ok (.iload_n 3, 1) := by decide +kernel
theorem dX0_weigh_109 : decode cX0_weigh 109 = .ok (.iadd, 1) := by decide +kernel
theorem dX0_weigh_110 : decode cX0_weigh 110 = .ok (.putfield 86, 3) := by decide +kernel
theorem dX0_weigh_113 : decode cX0_weigh 113 = .ok (.return_, 1) := by decide +kernel
theorem dX0_leastFrom_0 : decode cX0_leastFrom 0 = .ok (.iload_n 1, 1) := by decide +kernel
theorem dX0_leastFrom_1 : decode cX0_leastFrom 1 = .ok (.istore 4, 2) := by decide +kernel
theorem dX0_leastFrom_3 : decode cX0_leastFrom 3 = .ok (.iconst 0, 1) := by decide +kernel
theorem dX0_leastFrom_4 : decode cX0_leastFrom 4 = .ok (.istore 5, 2) := by decide +kernel
theorem dX0_leastFrom_6 : decode cX0_leastFrom 6 = .ok (.iload 5, 2) := by decide +kernel
theorem dX0_leastFrom_8 : decode cX0_leastFrom 8 = .ok (.sipush 30000, 3) := by decide +kernel
theorem dX0_leastFrom_11 : decode cX0_leastFrom 11 = .ok (.if_icmp .gt 97, 3) := by decide +kernel
theorem dX0_leastFrom_14 : decode cX0_leastFrom 14 = .ok (.iload_n 3, 1) := by decide +kernel
theorem dX0_leastFrom_15 : decode cX0_leastFrom 15 = .ok (.iconst (-1), 1) := by decide +kernel
theorem dX0_leastFrom_16 : decode cX0_leastFrom 16 = .ok (.if_icmp .ne 15, 3) := by decide +kernel
theorem dX0_leastFrom_19 : decode cX0_leastFrom 19 = .ok (.aload_n 0, 1) := by decide +kernel
theorem dX0_leastFrom_20 : decode cX0_leastFrom 20 = .ok (.iload 4, 2) := by decide +kernel
theorem dX0_leastFrom_22 : decode cX0_leastFrom 22 = .ok (.iconst 1, 1) := by decide +kernel
theorem dX0_leastFrom_23 : decode cX0_leastFrom 23 = .ok (.isub, 1) := by decide +kernel
theorem dX0_leastFrom_24 : decode cX0_leastFrom 24 = .ok (.aload_n 2, 1) := by decide +kernel
theorem dX0_leastFrom_25 : decode cX0_leastFrom 25 = .ok (.invokevirtual 89, 3) := by decide +kernel
theorem dX0_leastFrom_28 : decode cX0_leastFrom 28 = .ok (.goto 4, 3) := by decide +kernel
theorem dX0_leastFrom_31 : decode cX0_leastFrom 31 = .ok (.iload_n 3, 1) := by decide +kernel
theorem dX0_leastFrom_32 : decode cX0_leastFrom 32 = .ok (.istore 6, 2) := by decide +kernel
theorem dX0_leastFrom_34 : decode cX0_leastFrom 34 = .ok (.aload_n 0, 1) := by decide +kernel
theorem dX0_leastFrom_35 : decode cX0_leastFrom 35 = .ok (.iload_n 3, 1) := by decide +kernel
theorem dX0_leastFrom_36 : decode cX0_leastFrom 36 = .ok (.iconst (-1), 1) := by decide +kernel
theorem dX0_leastFrom_37 : decode cX0_leastFrom 37 = .ok (.if_icmp .ne 10, 3) := by decide +kernel
theorem dX0_leastFrom_40 : decode cX0_leastFrom 40 = .ok (.iload 4, 2) := by decide +kernel
theorem dX0_leastFrom_42 : decode cX0_leastFrom 42 = .ok (.iconst 1, 1) := by decide +kernel
theorem dX0_leastFrom_43 : decode cX0_leastFrom 43 = .ok (.isub, 1) := by decide +kernel
theorem dX0_leastFrom_44 : decode cX0_leastFrom 44 = .ok (.goto 5, 3) := by decide +kernel
theorem dX0_leastFrom_47 : decode cX0_leastFrom 47 = .ok (.iload 4, 2) := by decide +kernel
theorem dX0_leastFrom_49 : decode cX0_leastFrom 49 = .ok (.invokevirtual 93, 3) := by decide +kernel
theorem dX0_leastFrom_52 : decode cX0_leastFrom 52 = .ok (.istore 7, 2) := by decide +kernel
theorem dX0_leastFrom_54 : decode cX0_leastFrom 54 = .ok (.aload_n 0, 1) := by decide +kernel
theorem dX0_leastFrom_55 : decode cX0_leastFrom 55 = .ok (.getfield 83, 3) := by decide +kernel
theorem dX0_leastFrom_58 : decode cX0_leastFrom 58 = .ok (.aload_n 0, 1) := by decide +kernel
theorem dX0_leastFrom_59 : decode cX0_leastFrom 59 = .ok (.iload 4, 2) := by decide +kernel
theorem dX0_leastFrom_61 : decode cX0_leastFrom 61 = .ok (.invokevirtual 97, 3) := by decide +kernel
theorem dX0_leastFrom_64 : decode cX0_leastFrom 64 = .ok (.iadd, 1) := by decide +kernel
theorem dX0_leastFrom_65 : decode cX0_leastFrom 65 = .ok (.iload 6, 2) := by decide +kernel
theorem dX0_leastFrom_67 : decode cX0_leastFrom 67 = .ok (.aload_n 2, 1) := by decide +kernel
theorem dX0_leastFrom_68 : decode cX0_leastFrom 68 = .ok (.invokevirtual 73, 3) := by decide +kernel
theorem dX0_leastFrom_71 : decode cX0_leastFrom 71 = .ok (.imul, 1) := by decide +kernel
theorem dX0_leastFrom_72 : decode cX0_leastFrom 72 = .ok (.iadd, 1) := by decide +kernel
theorem dX0_leastFrom_73 : decode cX0_leastFrom 73 = .ok (.iload 7, 2) := by decide +kernel
theorem dX0_leastFrom_75 : decode cX0_leastFrom 75 = .ok (.iadd, 1) := by decide +kernel
theorem dX0_leastFrom_76 : decode cX0_leastFrom 76 = .ok (.istore 8, 2) := by decide +kernel
theorem dX0_leastFrom_78 : decode cX0_leastFrom 78 = .ok (.iload 8, 2) := by decide +kernel
theorem dX0_leastFrom_80 : decode cX0_leastFrom 80 = .ok (.iload 4, 2) := by decide +kernel
theorem dX0_leastFrom_82 : decode cX0_leastFrom 82 = .ok (.if_icmp .ne 6, 3) := by decide +kernel
theorem dX0_leastFrom_85 : decode cX0_leastFrom 85 = .ok (.iload 4, 2) := by decide +kernel
theorem dX0_leastFrom_87 : decode cX0_leastFrom 87 = .ok (.ireturn, 1) := by decide +kernel
theorem dX0_leastFrom_88 : decode cX0_leastFrom 88 = .ok (.iload 8, 2) := by decide +kernel
theorem dX0_leastFrom_90 : decode cX0_leastFrom 90 = .ok (.sipush 30000, 3) := by decide +kernel
theorem dX0_leastFrom_93 : decode cX0_leastFrom 93 = .ok (.if_icmp .le 5, 3) := by decide +kernel
theorem dX0_leastFrom_96 : decode cX0_leastFrom 96 = .ok (.iconst (-1), 1) := by decide +kernel
theorem dX0_leastFrom_97 : decode cX0_leastFrom 97 = .ok (.ireturn, 1) := by decide +kernel
theorem dX0_leastFrom_98 : decode cX0_leastFrom 98 = .ok (.iload 8, 2) := by decide +kernel
theorem dX0_leastFrom_100 : decode cX0_leastFrom 100 = .ok (.istore 4, 2) := by decide +kernel
theorem dX0_leastFrom_102 : decode cX0_leastFrom 102 = .ok (.iinc 5 1, 3) := by decide +kernel
theorem dX0_leastFrom_105 : decode cX0_leastFrom 105 = .ok (.goto (-99), 3) := by decide +kernel
theorem dX0_leastFrom_108 : decode cX0_leastFrom 108 = .ok (.iconst (-1), 1) := by decide +kernel
theorem dX0_leastFrom_109 : decode cX0_leastFrom 109 = .ok (.ireturn, 1) := by decide +kernel
theorem dX0_placesIn_0 : decode cX0_placesIn 0 = .ok (.aload_n 2, 1) := by decide +kernel
theorem dX0_placesIn_1 : decode cX0_placesIn 1 = .ok (.getfield 67, 3) := by decide +kernel
theorem dX0_placesIn_4 : decode cX0_placesIn 4 = .ok (.ifCond .gt 7, 3) := by decide +kernel
theorem dX0_placesIn_7 : decode cX0_placesIn 7 = .ok (.iconst 0, 1) := by decide +kernel
theorem dX0_placesIn_8 : decode cX0_placesIn 8 = .ok (.goto 19, 3) := by decide +kernel
theorem dX0_placesIn_11 : decode cX0_placesIn 11 = .ok (.iload_n 1, 1) := by decide +kernel
theorem dX0_placesIn_12 : decode cX0_placesIn 12 = .ok (.aload_n 2, 1) := by decide +kernel
theorem dX0_placesIn_13 : decode cX0_placesIn 13 = .ok (.getfield 70, 3) := by decide +kernel
theorem dX0_placesIn_16 : decode cX0_placesIn 16 = .ok (.iadd, 1) := by decide +kernel
theorem dX0_placesIn_17 : decode cX0_placesIn 17 = .ok (.aload_n 2, 1) := by decide +kernel
theorem dX0_placesIn_18 : decode cX0_placesIn 18 = .ok (.getfield 67, 3) := by decide +kernel
theorem dX0_placesIn_21 : decode cX0_placesIn 21 = .ok (.iadd, 1) := by decide +kernel
theorem dX0_placesIn_22 : decode cX0_placesIn 22 = .ok (.aload_n 2, 1) := by decide +kernel
theorem dX0_placesIn_23 : decode cX0_placesIn 23 = .ok (.getfield 67, 3) := by decide +kernel
theorem dX0_placesIn_26 : decode cX0_placesIn 26 = .ok (.idiv, 1) := by decide +kernel
theorem dX0_placesIn_27 : decode cX0_placesIn 27 = .ok (.ireturn, 1) := by decide +kernel
theorem dX0_faultsIn_0 : decode cX0_faultsIn 0 = .ok (.aload_n 0, 1) := by decide +kernel
theorem dX0_faultsIn_1 : decode cX0_faultsIn 1 = .ok (.getfield 100, 3) := by decide +kernel
theorem dX0_faultsIn_4 : decode cX0_faultsIn 4 = .ok (.ifCond .ne 7, 3) := by decide +kernel
theorem dX0_faultsIn_7 : decode cX0_faultsIn 7 = .ok (.iconst 0, 1) := by decide +kernel
theorem dX0_faultsIn_8 : decode cX0_faultsIn 8 = .ok (.goto 21, 3) := by decide +kernel
theorem dX0_faultsIn_11 : decode cX0_faultsIn 11 = .ok (.iload_n 1, 1) := by decide +kernel
theorem dX0_faultsIn_12 : decode cX0_faultsIn 12 = .ok (.aload_n 0, 1) := by decide +kernel
theorem dX0_faultsIn_13 : decode cX0_faultsIn 13 = .ok (.getfield 100, 3) := by decide +kernel
theorem dX0_faultsIn_16 : decode cX0_faultsIn 16 = .ok (.iadd, 1) := by decide +kernel
theorem dX0_faultsIn_17 : decode cX0_faultsIn 17 = .ok (.aload_n 0, 1) := by decide +kernel
theorem dX0_faultsIn_18 : decode cX0_faultsIn 18 = .ok (.getfield 100, 3) := by decide +kernel
theorem dX0_faultsIn_21 : decode cX0_faultsIn 21 = .ok (.invokestatic 103, 3) := by decide +kernel
theorem dX0_faultsIn_24 : decode cX0_faultsIn 24 = .ok (.aload_n 0, 1) := by decide +kernel
theorem dX0_faultsIn_25 : decode cX0_faultsIn 25 = .ok (.getfield 86, 3) := by decide +kernel
theorem dX0_faultsIn_28 : decode cX0_faultsIn 28 = .ok (.imul, 1) := by decide +kernel
theorem dX0_faultsIn_29 : decode cX0_faultsIn 29 = .ok (.ireturn, 1) := by decide +kernel
theorem dX0_higherIn_0 : decode cX0_higherIn 0 = .ok (.iconst 0, 1) := by decide +kernel
theorem dX0_higherIn_1 : decode cX0_higherIn 1 = .ok (.istore_n 2, 1) := by decide +kernel
theorem dX0_higherIn_2 : decode cX0_higherIn 2 = .ok (.iconst 0, 1) := by decide +kernel
theorem dX0_higherIn_3 : decode cX0_higherIn 3 = .ok (.istore_n 3, 1) := by decide +kernel
theorem dX0_higherIn_4 : decode cX0_higherIn 4 = .ok (.iload_n 3, 1) := by decide +kernel
theorem dX0_higherIn_5 : decode cX0_higherIn 5 = .ok (.aload_n 0, 1) := by decide +kernel
theorem dX0_higherIn_6 : decode cX0_higherIn 6 = .ok (.getfield 28, 3) := by decide +kernel
theorem dX0_higherIn_9 : decode cX0_higherIn 9 = .ok (.getfield 36, 3) := by decide +kernel
theorem dX0_higherIn_12 : decode cX0_higherIn 12 = .ok (.if_icmp .ge 42, 3) := by decide +kernel
theorem dX0_higherIn_15 : decode cX0_higherIn 15 = .ok (.aload_n 0, 1) := by decide +kernel
theorem dX0_higherIn_16 : decode cX0_higherIn 16 = .ok (.getfield 9, 3) := by decide +kernel
theorem dX0_higherIn_19 : decode cX0_higherIn 19 = .ok (.iload_n 3, 1) := by decide +kernel
theorem dX0_higherIn_20 : decode cX0_higherIn 20 = .ok (.baload, 1) := by decide +kernel
theorem dX0_higherIn_21 : decode cX0_higherIn 21 = .ok (.ifCond .eq 27, 3) := by decide +kernel
theorem dX0_higherIn_24 : decode cX0_higherIn 24 = .ok (.iload_n 2, 1) := by decide +kernel
theorem dX0_higherIn_25 : decode cX0_higherIn 25 = .ok (.aload_n 0, 1) := by decide +kernel
theorem dX0_higherIn_26 : decode cX0_higherIn 26 = .ok (.iload_n 1, 1) := by decide +kernel
theorem dX0_higherIn_27 : decode cX0_higherIn 27 = .ok (.aload_n 0, 1) := by decide +kernel
theorem dX0_higherIn_28 : decode cX0_higherIn 28 = .ok (.getfield 28, 3) := by decide +kernel
theorem dX0_higherIn_31 : decode cX0_higherIn 31 = .ok (.getfield 42, 3) := by decide +kernel
theorem dX0_higherIn_34 : decode cX0_higherIn 34 = .ok (.iload_n 3, 1) := by decide +kernel
theorem dX0_higherIn_35 : decode cX0_higherIn 35 = .ok (.aaload, 1) := by decide +kernel
theorem dX0_higherIn_36 : decode cX0_higherIn 36 = .ok (.invokevirtual 89, 3) := by decide +kernel
theorem dX0_higherIn_39 : decode cX0_higherIn 39 = .ok (.aload_n 0, 1) := by decide +kernel
theorem dX0_higherIn_40 : decode cX0_higherIn 40 = .ok (.getfield 18, 3) := by decide +kernel
theorem dX0_higherIn_43 : decode cX0_higherIn 43 = .ok (.iload_n 3, 1) := by decide +kernel
theorem dX0_higherIn_44 : decode cX0_higherIn 44 = .ok (.iaload, 1) := by decide +kernel
theorem dX0_higherIn_45 : decode cX0_higherIn 45 = .ok (.imul, 1) := by decide +kernel
theorem dX0_higherIn_46 : decode cX0_higherIn 46 = .ok (.iadd, 1) := by decide +kernel
theorem dX0_higherIn_47 : decode cX0_higherIn 47 = .ok (.istore_n 2, 1) := by decide +kernel
theorem dX0_higherIn_48 : decode cX0_higherIn 48 = .ok (.iinc 3 1, 3) := by decide +kernel
theorem dX0_higherIn_51 : decode cX0_higherIn 51 = .ok (.goto (-47), 3) := by decide +kernel
theorem dX0_higherIn_54 : decode cX0_higherIn 54 = .ok (.iload_n 2, 1) := by decide +kernel
theorem dX0_higherIn_55 : decode cX0_higherIn 55 = .ok (.ireturn, 1) := by decide +kernel
theorem dX0_seekOrder_0 : decode cX0_seekOrder 0 = .ok (.aload_n 0, 1) := by decide +kernel
theorem dX0_seekOrder_1 : decode cX0_seekOrder 1 = .ok (.iconst 0, 1) := by decide +kernel
theorem dX0_seekOrder_2 : decode cX0_seekOrder 2 = .ok (.putfield 32, 3) := by decide +kernel
theorem dX0_seekOrder_5 : decode cX0_seekOrder 5 = .ok (.iconst 0, 1) := by decide +kernel
theorem dX0_seekOrder_6 : decode cX0_seekOrder 6 = .ok (.istore_n 1, 1) := by decide +kernel
theorem dX0_seekOrder_7 : decode cX0_seekOrder 7 = .ok (.iload_n 1, 1) := by decide +kernel
theorem dX0_seekOrder_8 : decode cX0_seekOrder 8 = .ok (.aload_n 0, 1) := by decide +kernel
theorem dX0_seekOrder_9 : decode cX0_seekOrder 9 = .ok (.getfield 28, 3) := by decide +kernel
theorem dX0_seekOrder_12 : decode cX0_seekOrder 12 = .ok (.getfield 36, 3) := by decide +kernel
theorem dX0_seekOrder_15 : decode cX0_seekOrder 15 = .ok (.if_icmp .ge 16, 3) := by decide +kernel
theorem dX0_seekOrder_18 : decode cX0_seekOrder 18 = .ok (.aload_n 0, 1) := by decide +kernel
theorem dX0_seekOrder_19 : decode cX0_seekOrder 19 = .ok (.getfield 15, 3) := by decide +kernel
theorem dX0_seekOrder_22 : decode cX0_seekOrder 22 = .ok (.iload_n 1, 1) := by decide +kernel
theorem dX0_seekOrder_23 : decode cX0_seekOrder 23 = .ok (.iconst 1, 1) := by decide +kernel
theorem dX0_seekOrder_24 : decode cX0_seekOrder 24 = .ok (.bastore, 1) := by decide +kernel
theorem dX0_seekOrder_25 : decode cX0_seekOrder 25 = .ok (.iinc 1 1, 3) := by decide +kernel
theorem dX0_seekOrder_28 : decode cX0_seekOrder 28 = .ok (.goto (-21), 3) := by decide +kernel
theorem dX0_seekOrder_31 : decode cX0_seekOrder 31 = .ok (.aload_n 0, 1) := by decide +kernel
theorem dX0_seekOrder_32 : decode cX0_seekOrder 32 = .ok (.getfield 28, 3) := by decide +kernel
theorem dX0_seekOrder_35 : decode cX0_seekOrder 35 = .ok (.getfield 36, 3) := by decide +kernel
theorem dX0_seekOrder_38 : decode cX0_seekOrder 38 = .ok (.iconst 1, 1) := by decide +kernel
theorem dX0_seekOrder_39 : decode cX0_seekOrder 39 = .ok (.isub, 1) := by decide +kernel
theorem dX0_seekOrder_40 : decode cX0_seekOrder 40 = .ok (.istore_n 1, 1) := by decide +kernel
theorem dX0_seekOrder_41 : decode cX0_seekOrder 41 = .ok (.iload_n 1, 1) := by decide +kernel
theorem dX0_seekOrder_42 : decode cX0_seekOrder 42 = .ok (.ifCond .lt 40, 3) := by decide +kernel
theorem dX0_seekOrder_45 : decode cX0_seekOrder 45 = .ok (.aload_n 0, 1) := by decide +kernel
theorem dX0_seekOrder_46 : decode cX0_seekOrder 46 = .ok (.invokevirtual 106, 3) := by decide +kernel
theorem dX0_seekOrder_49 : decode cX0_seekOrder 49 = .ok (.astore_n 2, 1) := by decide +kernel
theorem dX0_seekOrder_50 : decode cX0_seekOrder 50 = .ok (.aload_n 2, 1) := by decide +kernel
theorem dX0_seekOrder_51 : decode cX0_seekOrder 51 = .ok (.ifnonnull 5, 3) := by decide +kernel
theorem dX0_seekOrder_54 : decode cX0_seekOrder 54 = .ok (.iconst 0, 1) := by decide +kernel
theorem dX0_seekOrder_55 : decode cX0_seekOrder 55 = .ok (.ireturn, 1) := by decide +kernel
theorem dX0_seekOrder_56 : decode cX0_seekOrder 56 = .ok (.aload_n 0, 1) := by decide +kernel
theorem dX0_seekOrder_57 : decode cX0_seekOrder 57 = .ok (.getfield 22, 3) := by decide +kernel
theorem dX0_seekOrder_60 : decode cX0_seekOrder 60 = .ok (.iload_n 1, 1) := by decide +kernel
theorem dX0_seekOrder_61 : decode cX0_seekOrder 61 = .ok (.aload_n 2, 1) := by decide +kernel
theorem dX0_seekOrder_62 : decode cX0_seekOrder 62 = .ok (.getfield 56, 3) := by decide +kernel
theorem dX0_seekOrder_65 : decode cX0_seekOrder 65 = .ok (.iastore, 1) := by decide +kernel
theorem dX0_seekOrder_66 : decode cX0_seekOrder 66 = .ok (.aload_n 0, 1) := by decide +kernel
theorem dX0_seekOrder_67 : decode cX0_seekOrder 67 = .ok (.getfield 15, 3) := by decide +kernel
theorem dX0_seekOrder_70 : decode cX0_seekOrder 70 = .ok (.aload_n 2, 1) := by decide +kernel
theorem dX0_seekOrder_71 : decode cX0_seekOrder 71 = .ok (.getfield 56, 3) := by decide +kernel
theorem dX0_seekOrder_74 : decode cX0_seekOrder 74 = .ok (.iconst 0, 1) := by decide +kernel
theorem dX0_seekOrder_75 : decode cX0_seekOrder 75 = .ok (.bastore, 1) := by decide +kernel
theorem dX0_seekOrder_76 : decode cX0_seekOrder 76 = .ok (.iinc 1 (-1), 3) := by decide +kernel
theorem dX0_seekOrder_79 : decode cX0_seekOrder 79 = .ok (.goto (-38), 3) := by decide +kernel
theorem dX0_seekOrder_82 : decode cX0_seekOrder 82 = .ok (.aload_n 0, 1) := by decide +kernel
theorem dX0_seekOrder_83 : decode cX0_seekOrder 83 = .ok (.iconst 1, 1) := by decide +kernel
theorem dX0_seekOrder_84 : decode cX0_seekOrder 84 = .ok (.putfield 32, 3) := by decide +kernel
theorem dX0_seekOrder_87 : decode cX0_seekOrder 87 = .ok (.iconst 1, 1) := by decide +kernel
theorem dX0_seekOrder_88 : decode cX0_seekOrder 88 = .ok (.ireturn, 1) := by decide +kernel
theorem dX0_leastLeftThatFits_0 : decode cX0_leastLeftThatFits 0 = .ok (.iconst 0, 1) := by decide +kernel
theorem dX0_leastLeftThatFits_1 : decode cX0_leastLeftThatFits 1 = .ok (.istore_n 1, 1) := by decide +kernel
theorem dX0_leastLeftThatFits_2 : decode cX0_leastLeftThatFits 2 = .ok (.iload_n 1, 1) := by decide +kernel
theorem dX0_leastLeftThatFits_3 : decode cX0_leastLeftThatFits 3 = .ok (.aload_n 0, 1) := by decide +kernel
theorem dX0_leastLeftThatFits_4 : decode cX0_leastLeftThatFits 4 = .ok (.getfield 28, 3) := by decide +kernel
theorem dX0_leastLeftThatFits_7 : decode cX0_leastLeftThatFits 7 = .ok (.getfield 36, 3) := by decide +kernel
theorem dX0_leastLeftThatFits_10 : decode cX0_leastLeftThatFits 10 = .ok (.if_icmp .ge 47, 3) := by decide +kernel
theorem dX0_leastLeftThatFits_13 : decode cX0_leastLeftThatFits 13 = .ok (.aload_n 0, 1) := by decide +kernel
theorem dX0_leastLeftThatFits_14 : decode cX0_leastLeftThatFits 14 = .ok (.getfield 15, 3) := by decide +kernel
theorem dX0_leastLeftThatFits_17 : decode cX0_leastLeftThatFits 17 = .ok (.iload_n 1, 1) := by decide +kernel
theorem dX0_leastLeftThatFits_18 : decode cX0_leastLeftThatFits 18 = .ok (.baload, 1) := by decide +kernel
theorem dX0_leastLeftThatFits_19 : decode cX0_leastLeftThatFits 19 = .ok (.ifCond .eq 32, 3) := by decide +kernel
theorem dX0_leastLeftThatFits_22 : decode cX0_leastLeftThatFits 22 = .ok (.aload_n 0, 1) := by decide +kernel
theorem dX0_leastLeftThatFits_23 : decode cX0_leastLeftThatFits 23 = .ok (.getfield 28, 3) := by decide +kernel
theorem dX0_leastLeftThatFits_26 : decode cX0_leastLeftThatFits 26 = .ok (.getfield 42, 3) := by decide +kernel
theorem dX0_leastLeftThatFits_29 : decode cX0_leastLeftThatFits 29 = .ok (.iload_n 1, 1) := by decide +kernel
theorem dX0_leastLeftThatFits_30 : decode cX0_leastLeftThatFits 30 = .ok (.aaload, 1) := by decide +kernel
theorem dX0_leastLeftThatFits_31 : decode cX0_leastLeftThatFits 31 = .ok (.astore_n 2, 1) := by decide +kernel
theorem dX0_leastLeftThatFits_32 : decode cX0_leastLeftThatFits 32 = .ok (.aload_n 0, 1) := by decide +kernel
theorem dX0_leastLeftThatFits_33 : decode cX0_leastLeftThatFits 33 = .ok (.aload_n 2, 1) := by decide +kernel
theorem dX0_leastLeftThatFits_34 : decode cX0_leastLeftThatFits 34 = .ok (.invokevirtual 110, 3) := by decide +kernel
theorem dX0_leastLeftThatFits_37 : decode cX0_leastLeftThatFits 37 = .ok (.aload_n 2, 1) := by decide +kernel
theorem dX0_leastLeftThatFits_38 : decode cX0_leastLeftThatFits 38 = .ok (.aload_n 0, 1) := by decide +kernel
theorem dX0_leastLeftThatFits_39 : decode cX0_leastLeftThatFits 39 = .ok (.aload_n 2, 1) := by decide +kernel
theorem dX0_leastLeftThatFits_40 : decode cX0_leastLeftThatFits 40 = .ok (.invokevirtual 52, 3) := by decide +kernel
theorem dX0_leastLeftThatFits_43 : decode cX0_leastLeftThatFits 43 = .ok (.invokevirtual 113, 3) := by decide +kernel
theorem dX0_leastLeftThatFits_46 : decode cX0_leastLeftThatFits 46 = .ok (.ifCond .eq 5, 3) := by decide +kernel
theorem dX0_leastLeftThatFits_49 : decode cX0_leastLeftThatFits 49 = .ok (.aload_n 2, 1) := by decide +kernel
theorem dX0_leastLeftThatFits_50 : decode cX0_leastLeftThatFits 50 = .ok (.areturn, 1) := by decide +kernel
theorem dX0_leastLeftThatFits_51 : decode cX0_leastLeftThatFits 51 = .ok (.iinc 1 1, 3) := by decide +kernel
theorem dX0_leastLeftThatFits_54 : decode cX0_leastLeftThatFits 54 = .ok (.goto (-52), 3) := by decide +kernel
theorem dX0_leastLeftThatFits_57 : decode cX0_leastLeftThatFits 57 = .ok (.aconst_null, 1) := by decide +kernel
theorem dX0_leastLeftThatFits_58 : decode cX0_leastLeftThatFits 58 = .ok (.areturn, 1) := by decide +kernel
theorem dX0_giveRanks_0 : decode cX0_giveRanks 0 = .ok (.aload_n 0, 1) := by decide +kernel
theorem dX0_giveRanks_1 : decode cX0_giveRanks 1 = .ok (.invokevirtual 117, 3) := by decide +kernel
theorem dX0_giveRanks_4 : decode cX0_giveRanks 4 = .ok (.iconst 0, 1) := by decide +kernel
theorem dX0_giveRanks_5 : decode cX0_giveRanks 5 = .ok (.istore_n 1, 1) := by decide +kernel
theorem dX0_giveRanks_6 : decode cX0_giveRanks 6 = .ok (.iload_n 1, 1) := by decide +kernel
theorem dX0_giveRanks_7 : decode cX0_giveRanks 7 = .ok (.aload_n 0, 1) := by decide +kernel
theorem dX0_giveRanks_8 : decode cX0_giveRanks 8 = .ok (.getfield 28, 3) := by decide +kernel
theorem dX0_giveRanks_11 : decode cX0_giveRanks 11 = .ok (.getfield 36, 3) := by decide +kernel
theorem dX0_giveRanks_14 : decode cX0_giveRanks 14 = .ok (.if_icmp .ge 47, 3) := by decide +kernel
theorem dX0_giveRanks_17 : decode cX0_giveRanks 17 = .ok (.aload_n 0, 1) := by decide +kernel
theorem dX0_giveRanks_18 : decode cX0_giveRanks 18 = .ok (.iload_n 1, 1) := by decide +kernel
theorem dX0_giveRanks_19 : decode cX0_giveRanks 19 = .ok (.invokevirtual 120, 3) := by decide +kernel
theorem dX0_giveRanks_22 : decode cX0_giveRanks 22 = .ok (.astore_n 2, 1) := by decide +kernel
theorem dX0_giveRanks_23 : decode cX0_giveRanks 23 = .ok (.aload_n 2, 1) := by decide +kernel
theorem dX0_giveRanks_24 : decode cX0_giveRanks 24 = .ok (.ifnull 31, 3) := by decide +kernel
theorem dX0_giveRanks_27 : decode cX0_giveRanks 27 = .ok (.aload_n 2, 1) := by decide +kernel
theorem dX0_giveRanks_28 : decode cX0_giveRanks 28 = .ok (.getfield 124, 3) := by decide +kernel
theorem dX0_giveRanks_31 : decode cX0_giveRanks 31 = .ok (.aload_n 0, 1) := by decide +kernel
theorem dX0_giveRanks_32 : decode cX0_giveRanks 32 = .ok (.getfield 25, 3) := by decide +kernel
theorem dX0_giveRanks_35 : decode cX0_giveRanks 35 = .ok (.iload_n 1, 1) := by decide +kernel
theorem dX0_giveRanks_36 : decode cX0_giveRanks 36 = .ok (.iaload, 1) := by decide +kernel
theorem dX0_giveRanks_37 : decode cX0_giveRanks 37 = .ok (.if_icmp .eq 18, 3) := by decide +kernel
theorem dX0_giveRanks_40 : decode cX0_giveRanks 40 = .ok (.aload_n 2, 1) := by decide +kernel
theorem dX0_giveRanks_41 : decode cX0_giveRanks 41 = .ok (.aload_n 0, 1) := by decide +kernel
theorem dX0_giveRanks_42 : decode cX0_giveRanks 42 = .ok (.getfield 25, 3) := by decide +kernel
theorem dX0_giveRanks_45 : decode cX0_giveRanks 45 = .ok (.iload_n 1, 1) := by decide +kernel
theorem dX0_giveRanks_46 : decode cX0_giveRanks 46 = .ok (.iaload, 1) := by decide +kernel
theorem dX0_giveRanks_47 : decode cX0_giveRanks 47 = .ok (.putfield 124, 3) := by decide +kernel
theorem dX0_giveRanks_50 : decode cX0_giveRanks 50 = .ok (.aload_n 0, 1) := by decide +kernel
theorem dX0_giveRanks_51 : decode cX0_giveRanks 51 = .ok (.iconst 0, 1) := by decide +kernel
theorem dX0_giveRanks_52 : decode cX0_giveRanks 52 = .ok (.putfield 32, 3) := by decide +kernel
theorem dX0_giveRanks_55 : decode cX0_giveRanks 55 = .ok (.iinc 1 1, 3) := by decide +kernel
theorem dX0_giveRanks_58 : decode cX0_giveRanks 58 = .ok (.goto (-52), 3) := by decide +kernel
theorem dX0_giveRanks_61 : decode cX0_giveRanks 61 = .ok (.return_, 1) := by decide +kernel
theorem dX0_wordAtPlace_0 : decode cX0_wordAtPlace 0 = .ok (.aload_n 0, 1) := by decide +kernel
theorem dX0_wordAtPlace_1 : decode cX0_wordAtPlace 1 = .ok (.getfield 28, 3) := by decide +kernel
theorem dX0_wordAtPlace_4 : decode cX0_wordAtPlace 4 = .ok (.aload_n 0, 1) := by decide +kernel
theorem dX0_wordAtPlace_5 : decode cX0_wordAtPlace 5 = .ok (.getfield 22, 3) := by decide +kernel
theorem dX0_wordAtPlace_8 : decode cX0_wordAtPlace 8 = .ok (.iload_n 1, 1) := by decide +kernel
theorem dX0_wordAtPlace_9 : decode cX0_wordAtPlace 9 = .ok (.iaload, 1) := by decide +kernel
theorem dX0_wordAtPlace_10 : decode cX0_wordAtPlace 10 = .ok (.invokevirtual 127, 3) := by decide +kernel
theorem dX0_wordAtPlace_13 : decode cX0_wordAtPlace 13 = .ok (.ifCond .eq 20, 3) := by decide +kernel
theorem dX0_wordAtPlace_16 : decode cX0_wordAtPlace 16 = .ok (.aload_n 0, 1) := by decide +kernel
theorem dX0_wordAtPlace_17 : decode cX0_wordAtPlace 17 = .ok (.getfield 28, 3) := by decide +kernel
theorem dX0_wordAtPlace_20 : decode cX0_wordAtPlace 20 = .ok (.getfield 42, 3) := by decide +kernel
theorem dX0_wordAtPlace_23 : decode cX0_wordAtPlace 23 = .ok (.aload_n 0, 1) := by decide +kernel
theorem dX0_wordAtPlace_24 : decode cX0_wordAtPlace 24 = .ok (.getfield 22, 3) := by decide +kernel
theorem dX0_wordAtPlace_27 : decode cX0_wordAtPlace 27 = .ok (.iload_n 1, 1) := by decide +kernel
theorem dX0_wordAtPlace_28 : decode cX0_wordAtPlace 28 = .ok (.iaload, 1) := by decide +kernel
theorem dX0_wordAtPlace_29 : decode cX0_wordAtPlace 29 = .ok (.aaload, 1) := by decide +kernel
theorem dX0_wordAtPlace_30 : decode cX0_wordAtPlace 30 = .ok (.goto 4, 3) := by decide +kernel
theorem dX0_wordAtPlace_33 : decode cX0_wordAtPlace 33 = .ok (.aconst_null, 1) := by decide +kernel
theorem dX0_wordAtPlace_34 : decode cX0_wordAtPlace 34 = .ok (.areturn, 1) := by decide +kernel
theorem dX0_sortRanks_0 : decode cX0_sortRanks 0 = .ok (.iconst 0, 1) := by decide +kernel
theorem dX0_sortRanks_1 : decode cX0_sortRanks 1 = .ok (.istore_n 1, 1) := by decide +kernel
theorem dX0_sortRanks_2 : decode cX0_sortRanks 2 = .ok (.iload_n 1, 1) := by decide +kernel
theorem dX0_sortRanks_3 : decode cX0_sortRanks 3 = .ok (.aload_n 0, 1) := by decide +kernel
theorem dX0_sortRanks_4 : decode cX0_sortRanks 4 = .ok (.getfield 28, 3) := by decide +kernel
theorem dX0_sortRanks_7 : decode cX0_sortRanks 7 = .ok (.getfield 36, 3) := by decide +kernel
theorem dX0_sortRanks_10 : decode cX0_sortRanks 10 = .ok (.if_icmp .ge 81, 3) := by decide +kernel
theorem dX0_sortRanks_13 : decode cX0_sortRanks 13 = .ok (.iconst 0, 1) := by decide +kernel
theorem dX0_sortRanks_14 : decode cX0_sortRanks 14 = .ok (.istore_n 2, 1) := by decide +kernel
theorem dX0_sortRanks_15 : decode cX0_sortRanks 15 = .ok (.iconst 0, 1) := by decide +kernel
theorem dX0_sortRanks_16 : decode cX0_sortRanks 16 = .ok (.istore_n 3, 1) := by decide +kernel
theorem dX0_sortRanks_17 : decode cX0_sortRanks 17 = .ok (.iload_n 3, 1) := by decide +kernel
theorem dX0_sortRanks_18 : decode cX0_sortRanks 18 = .ok (.aload_n 0, 1) := by decide +kernel
theorem dX0_sortRanks_19 : decode cX0_sortRanks 19 = .ok (.getfield 28, 3) := by decide +kernel
theorem dX0_sortRanks_22 : decode cX0_sortRanks 22 = .ok (.getfield 36, 3) := by decide +kernel
theorem dX0_sortRanks_25 : decode cX0_sortRanks 25 = .ok (.if_icmp .ge 36, 3) := by decide +kernel
theorem dX0_sortRanks_28 : decode cX0_sortRanks 28 = .ok (.aload_n 0, 1) := by decide +kernel
theorem dX0_sortRanks_29 : decode cX0_sortRanks 29 = .ok (.getfield 28, 3) := by decide +kernel
theorem dX0_sortRanks_32 : decode cX0_sortRanks 32 = .ok (.getfield 42, 3) := by decide +kernel
theorem dX0_sortRanks_35 : decode cX0_sortRanks 35 = .ok (.iload_n 3, 1) := by decide +kernel
theorem dX0_sortRanks_36 : decode cX0_sortRanks 36 = .ok (.aaload, 1) := by decide +kernel
theorem dX0_sortRanks_37 : decode cX0_sortRanks 37 = .ok (.aload_n 0, 1) := by decide +kernel
theorem dX0_sortRanks_38 : decode cX0_sortRanks 38 = .ok (.getfield 28, 3) := by decide +kernel
theorem dX0_sortRanks_41 : decode cX0_sortRanks 41 = .ok (.getfield 42, 3) := by decide +kernel
theorem dX0_sortRanks_44 : decode cX0_sortRanks 44 = .ok (.iload_n 1, 1) := by decide +kernel
theorem dX0_sortRanks_45 : decode cX0_sortRanks 45 = .ok (.aaload, 1) := by decide +kernel
theorem dX0_sortRanks_46 : decode cX0_sortRanks 46 = .ok (.invokevirtual 46, 3) := by decide +kernel
theorem dX0_sortRanks_49 : decode cX0_sortRanks 49 = .ok (.ifCond .eq 6, 3) := by decide +kernel
theorem dX0_sortRanks_52 : decode cX0_sortRanks 52 = .ok (.iinc 2 1, 3) := by decide +kernel
theorem dX0_sortRanks_55 : decode cX0_sortRanks 55 = .ok (.iinc 3 1, 3) := by decide +kernel
theorem dX0_sortRanks_58 : decode cX0_sortRanks 58 = .ok (.goto (-41), 3) := by decide +kernel
theorem dX0_sortRanks_61 : decode cX0_sortRanks 61 = .ok (.iload_n 2, 1) := by decide +kernel
theorem dX0_sortRanks_62 : decode cX0_sortRanks 62 = .ok (.bipush 24, 2) := by decide +kernel
theorem dX0_sortRanks_64 : decode cX0_sortRanks 64 = .ok (.if_icmp .ge 21, 3) := by decide +kernel
theorem dX0_sortRanks_67 : decode cX0_sortRanks 67 = .ok (.aload_n 0, 1) := by decide +kernel
theorem dX0_sortRanks_68 : decode cX0_sortRanks 68 = .ok (.getfield 25, 3) := by decide +kernel
theorem dX0_sortRanks_71 : decode cX0_sortRanks 71 = .ok (.iload_n 2, 1) := by decide +kernel
theorem dX0_sortRanks_72 : decode cX0_sortRanks 72 = .ok (.aload_n 0, 1) := by decide +kernel
theorem dX0_sortRanks_73 : decode cX0_sortRanks 73 = .ok (.getfield 28, 3) := by decide +kernel
theorem dX0_sortRanks_76 : decode cX0_sortRanks 76 = .ok (.getfield 42, 3) := by decide +kernel
theorem dX0_sortRanks_79 : decode cX0_sortRanks 79 = .ok (.iload_n 1, 1) := by decide +kernel
theorem dX0_sortRanks_80 : decode cX0_sortRanks 80 = .ok (.aaload, 1) := by decide +kernel
theorem dX0_sortRanks_81 : decode cX0_sortRanks 81 = .ok (.getfield 124, 3) := by decide +kernel
theorem dX0_sortRanks_84 : decode cX0_sortRanks 84 = .ok (.iastore, 1) := by decide +kernel
theorem dX0_sortRanks_85 : decode cX0_sortRanks 85 = .ok (.iinc 1 1, 3) := by decide +kernel
theorem dX0_sortRanks_88 : decode cX0_sortRanks 88 = .ok (.goto (-86), 3) := by decide +kernel
theorem dX0_sortRanks_91 : decode cX0_sortRanks 91 = .ok (.return_, 1) := by decide +kernel
theorem dX1_init_0 : decode cX1_init 0 = .ok (.aload_n 0, 1) := by decide +kernel
theorem dX1_init_1 : decode cX1_init 1 = .ok (.invokespecial 3, 3) := by decide +kernel
theorem dX1_init_4 : decode cX1_init 4 = .ok (.aload_n 0, 1) := by decide +kernel
theorem dX1_init_5 : decode cX1_init 5 = .ok (.sipush 160, 3) := by decide +kernel
theorem dX1_init_8 : decode cX1_init 8 = .ok (.newarray .int, 2) := by decide +kernel
theorem dX1_init_10 : decode cX1_init 10 = .ok (.putfield 9, 3) := by decide +kernel
theorem dX1_init_13 : decode cX1_init 13 = .ok (.return_, 1) := by decide +kernel
theorem dX1_build_0 : decode cX1_build 0 = .ok (.aload_n 0, 1) := by decide +kernel
theorem dX1_build_1 : decode cX1_build 1 = .ok (.iconst 0, 1) := by decide +kernel
theorem dX1_build_2 : decode cX1_build 2 = .ok (.putfield 15, 3) := by decide +kernel
theorem dX1_build_5 : decode cX1_build 5 = .ok (.aload_n 0, 1) := by decide +kernel
theorem dX1_build_6 : decode cX1_build 6 = .ok (.iconst 0, 1) := by decide +kernel
theorem dX1_build_7 : decode cX1_build 7 = .ok (.putfield 19, 3) := by decide +kernel
theorem dX1_build_10 : decode cX1_build 10 = .ok (.aload_n 0, 1) := by decide +kernel
theorem dX1_build_11 : decode cX1_build 11 = .ok (.iconst 0, 1) := by decide +kernel
theorem dX1_build_12 : decode cX1_build 12 = .ok (.putfield 22, 3) := by decide +kernel
theorem dX1_build_15 : decode cX1_build 15 = .ok (.aload_n 0, 1) := by decide +kernel
theorem dX1_build_16 : decode cX1_build 16 = .ok (.iconst 0, 1) := by decide +kernel
theorem dX1_build_17 : decode cX1_build 17 = .ok (.putfield 25, 3) := by decide +kernel
theorem dX1_build_20 : decode cX1_build 20 = .ok (.aload_n 0, 1) := by decide +kernel
theorem dX1_build_21 : decode cX1_build 21 = .ok (.iconst (-1), 1) := by decide +kernel
theorem dX1_build_22 : decode cX1_build 22 = .ok (.putfield 28, 3) := by decide +kernel
theorem dX1_build_25 : decode cX1_build 25 = .ok (.aload_n 0, 1) := by decide +kernel
theorem dX1_build_26 : decode cX1_build 26 = .ok (.iconst 0, 1) := by decide +kernel
theorem dX1_build_27 : decode cX1_build 27 = .ok (.iconst 1, 1) := by decide +kernel
theorem dX1_build_28 : decode cX1_build 28 = .ok (.invokevirtual 31, 3) := by decide +kernel
theorem dX1_build_31 : decode cX1_build 31 = .ok (.aload_n 1, 1) := by decide +kernel
theorem dX1_build_32 : decode cX1_build 32 = .ok (.getfield 35, 3) := by decide +kernel
theorem dX1_build_35 : decode cX1_build 35 = .ok (.sipush 2048, 3) := by decide +kernel
theorem dX1_build_38 : decode cX1_build 38 = .ok (.if_icmp .lt 7, 3) := by decide +kernel
theorem dX1_build_41 : decode cX1_build 41 = .ok (.iconst 1, 1) := by decide +kernel
theorem dX1_build_42 : decode cX1_build 42 = .ok (.goto 4, 3) := by decide +kernel
theorem dX1_build_45 : decode cX1_build 45 = .ok (.iconst 0, 1) := by decide +kernel
theorem dX1_build_46 : decode cX1_build 46 = .ok (.istore_n 2, 1) := by decide +kernel
theorem dX1_build_47 : decode cX1_build 47 = .ok (.iload_n 2, 1) := by decide +kernel
theorem dX1_build_48 : decode cX1_build 48 = .ok (.ifCond .eq 14, 3) := by decide +kernel
theorem dX1_build_51 : decode cX1_build 51 = .ok (.aload_n 1, 1) := by decide +kernel
theorem dX1_build_52 : decode cX1_build 52 = .ok (.getfield 35, 3) := by decide +kernel
theorem dX1_build_55 : decode cX1_build 55 = .ok (.sipush 2048, 3) := by decide +kernel
theorem dX1_build_58 : decode cX1_build 58 = .ok (.isub, 1) := by decide +kernel
theorem dX1_build_59 : decode cX1_build 59 = .ok (.goto 7, 3) := by decide +kernel
theorem dX1_build_62 : decode cX1_build 62 = .ok (.aload_n 1, 1) := by decide +kernel
theorem dX1_build_63 : decode cX1_build 63 = .ok (.getfield 35, 3) := by decide +kernel
theorem dX1_build_66 : decode cX1_build 66 = .ok (.istore_n 3, 1) := by decide +kernel
theorem dX1_build_67 : decode cX1_build 67 = .ok (.aload_n 0, 1) := by decide +kernel
theorem dX1_build_68 : decode cX1_build 68 = .ok (.iload_n 2, 1) := by decide +kernel
theorem dX1_build_69 : decode cX1_build 69 = .ok (.ifCond .eq 10, 3) := by decide +kernel
theorem dX1_build_72 : decode cX1_build 72 = .ok (.iload_n 3, 1) := by decide +kernel
theorem dX1_build_73 : decode cX1_build 73 = .ok (.bipush 18, 2) := by decide +kernel
theorem dX1_build_75 : decode cX1_build 75 = .ok (.iushr, 1) := by decide +kernel
theorem dX1_build_76 : decode cX1_build 76 = .ok (.goto 4, 3) := by decide +kernel
theorem dX1_build_79 : decode cX1_build 79 = .ok (.iload_n 3, 1) := by decide +kernel
theorem dX1_build_80 : decode cX1_build 80 = .ok (.bipush 11, 2) := by decide +kernel
theorem dX1_build_82 : decode cX1_build 82 = .ok (.invokevirtual 31, 3) := by decide +kernel
theorem dX1_build_85 : decode cX1_build 85 = .ok (.aload_n 0, 1) := by decide +kernel
theorem dX1_build_86 : decode cX1_build 86 = .ok (.iload_n 2, 1) := by decide +kernel
theorem dX1_build_87 : decode cX1_build 87 = .ok (.ifCond .eq 7, 3) := by decide +kernel
theorem dX1_build_90 : decode cX1_build 90 = .ok (.iconst 1, 1) := by decide +kernel
theorem dX1_build_91 : decode cX1_build 91 = .ok (.goto 4, 3) := by decide +kernel
theorem dX1_build_94 : decode cX1_build 94 = .ok (.iconst 0, 1) := by decide +kernel
theorem dX1_build_95 : decode cX1_build 95 = .ok (.iconst 1, 1) := by decide +kernel
theorem dX1_build_96 : decode cX1_build 96 = .ok (.invokevirtual 31, 3) := by decide +kernel
theorem dX1_build_99 : decode cX1_build 99 = .ok (.iload_n 2, 1) := by decide +kernel
theorem dX1_build_100 : decode cX1_build 100 = .ok (.ifCond .eq 10, 3) := by decide +kernel
theorem dX1_build_103 : decode cX1_build 103 = .ok (.aload_n 0, 1) := by decide +kernel
theorem dX1_build_104 : decode cX1_build 104 = .ok (.iload_n 3, 1) := by decide +kernel
theorem dX1_build_105 : decode cX1_build 105 = .ok (.bipush 18, 2) := by decide +kernel
theorem dX1_build_107 : decode cX1_build 107 = .ok (.invokevirtual 31, 3) := by decide +kernel
theorem dX1_build_110 : decode cX1_build 110 = .ok (.aload_n 0, 1) := by decide +kernel
theorem dX1_build_111 : decode cX1_build 111 = .ok (.aload_n 1, 1) := by decide +kernel
theorem dX1_build_112 : decode cX1_build 112 = .ok (.getfield 40, 3) := by decide +kernel
theorem dX1_build_115 : decode cX1_build 115 = .ok (.iconst 4, 1) := by decide +kernel
theorem dX1_build_116 : decode cX1_build 116 = .ok (.invokevirtual 31, 3) := by decide +kernel
theorem dX1_build_119 : decode cX1_build 119 = .ok (.aload_n 1, 1) := by decide +kernel
theorem dX1_build_120 : decode cX1_build 120 = .ok (.getfield 40, 3) := by decide +kernel
theorem dX1_build_123 : decode cX1_build 123 = .ok (.iconst 1, 1) := by decide +kernel
theorem dX1_build_124 : decode cX1_build 124 = .ok (.isub, 1) := by decide +kernel
theorem dX1_build_125 : decode cX1_build 125 = .ok (.istore 4, 2) := by decide +kernel
theorem dX1_build_127 : decode cX1_build 127 = .ok (.iload 4, 2) := by decide +kernel
theorem dX1_build_129 : decode cX1_build 129 = .ok (.ifCond .lt 26, 3) := by decide +kernel
theorem dX1_build_132 : decode cX1_build 132 = .ok (.aload_n 0, 1) := by decide +kernel
theorem dX1_build_133 : decode cX1_build 133 = .ok (.aload_n 1, 1) := by decide +kernel
theorem dX1_build_134 : decode cX1_build 134 = .ok (.getfield 43, 3) := by decide +kernel
theorem dX1_build_137 : decode cX1_build 137 = .ok (.bipush 8, 2) := by decide +kernel
theorem dX1_build_139 : decode cX1_build 139 = .ok (.iload 4, 2) := by decide +kernel
theorem dX1_build_141 : decode cX1_build 141 = .ok (.imul, 1) := by decide +kernel
theorem dX1_build_142 : decode cX1_build 142 = .ok (.lushr, 1) := by decide +kernel
theorem dX1_build_143 : decode cX1_build 143 = .ok (.l2i, 1) := by decide +kernel
theorem dX1_build_144 : decode cX1_build 144 = .ok (.bipush 8, 2) := by decide +kernel
theorem dX1_build_146 : decode cX1_build 146 = .ok (.invokevirtual 31, 3) := by decide +kernel
theorem dX1_build_149 : decode cX1_build 149 = .ok (.iinc 4 (-1), 3) := by decide +kernel
theorem dX1_build_152 : decode cX1_build 152 = .ok (.goto (-25), 3) := by decide +kernel
theorem dX1_build_155 : decode cX1_build 155 = .ok (.aload_n 0, 1) := by decide +kernel
theorem dX1_build_156 : decode cX1_build 156 = .ok (.aload_n 0, 1) := by decide +kernel
theorem dX1_build_157 : decode cX1_build 157 = .ok (.getfield 22, 3) := by decide +kernel
theorem dX1_build_160 : decode cX1_build 160 = .ok (.putfield 47, 3) := by decide +kernel
theorem dX1_build_163 : decode cX1_build 163 = .ok (.aload_n 0, 1) := by decide +kernel
theorem dX1_build_164 : decode cX1_build 164 = .ok (.aload_n 0, 1) := by decide +kernel
theorem dX1_build_165 : decode cX1_build 165 = .ok (.getfield 47, 3) := by decide +kernel
theorem dX1_build_168 : decode cX1_build 168 = .ok (.bipush 15, 2) := by decide +kernel
theorem dX1_build_170 : decode cX1_build 170 = .ok (.invokevirtual 31, 3) := by decide +kernel
theorem dX1_build_173 : decode cX1_build 173 = .ok (.iconst 0, 1) := by decide +kernel
theorem dX1_build_174 : decode cX1_build 174 = .ok (.istore 4, 2) := by decide +kernel
theorem dX1_build_176 : decode cX1_build 176 = .ok (.iload 4, 2) := by decide +kernel
theorem dX1_build_178 : decode cX1_build 178 = .ok (.getstatic 50, 3) := by decide +kernel
theorem dX1_build_181 : decode cX1_build 181 = .ok (.arraylength, 1) := by decide +kernel
theorem dX1_build_182 : decode cX1_build 182 = .ok (.if_icmp .ge 19, 3) := by decide +kernel
theorem dX1_build_185 : decode cX1_build 185 = .ok (.aload_n 0, 1) := by decide +kernel
theorem dX1_build_186 : decode cX1_build 186 = .ok (.getstatic 50, 3) := by decide +kernel
theorem dX1_build_189 : decode cX1_build 189 = .ok (.iload 4, 2) := by decide +kernel
theorem dX1_build_191 : decode cX1_build 191 = .ok (.iaload, 1) := by decide +kernel
theorem dX1_build_192 : decode cX1_build 192 = .ok (.invokevirtual 53, 3) := by decide +kernel
theorem dX1_build_195 : decode cX1_build 195 = .ok (.iinc 4 1, 3) := by decide +kernel
theorem dX1_build_198 : decode cX1_build 198 = .ok (.goto (-22), 3) := by decide +kernel
theorem dX1_build_201 : decode cX1_build 201 = .ok (.return_, 1) := by decide +kernel
theorem dX1_addNumber_0 : decode cX1_addNumber 0 = .ok (.iload_n 2, 1) := by decide +kernel
theorem dX1_addNumber_1 : decode cX1_addNumber 1 = .ok (.iconst 1, 1) := by decide +kernel
theorem dX1_addNumber_2 : decode cX1_addNumber 2 = .ok (.isub, 1) := by decide +kernel
theorem dX1_addNumber_3 : decode cX1_addNumber 3 = .ok (.istore_n 3, 1) := by decide +kernel
theorem dX1_addNumber_4 : decode cX1_addNumber 4 = .ok (.iload_n 3, 1) := by decide +kernel
theorem dX1_addNumber_5 : decode cX1_addNumber 5 = .ok (.ifCond .lt 18, 3) := by decide +kernel
theorem dX1_addNumber_8 : decode cX1_addNumber 8 = .ok (.aload_n 0, 1) := by decide +kernel
theorem dX1_addNumber_9 : decode cX1_addNumber 9 = .ok (.iload_n 1, 1) := by decide +kernel
theorem dX1_addNumber_10 : decode cX1_addNumber 10 = .ok (.iload_n 3, 1) := by decide +kernel
theorem dX1_addNumber_11 : decode cX1_addNumber 11 = .ok (.iushr, 1) := by decide +kernel
theorem dX1_addNumber_12 : decode cX1_addNumber 12 = .ok (.iconst 1, 1) := by decide +kernel
theorem dX1_addNumber_13 : decode cX1_addNumber 13 = .ok (.iand, 1) := by decide +kernel
theorem dX1_addNumber_14 : decode cX1_addNumber 14 = .ok (.invokevirtual 57, 3) := by decide +kernel
theorem dX1_addNumber_17 : decode cX1_addNumber 17 = .ok (.iinc 3 (-1), 3) := by decide +kernel
theorem dX1_addNumber_20 : decode cX1_addNumber 20 = .ok (.goto (-16), 3) := by decide +kernel
theorem dX1_addNumber_23 : decode cX1_addNumber 23 = .ok (.return_, 1) := by decide +kernel
theorem dX1_addPlain_0 : decode cX1_addPlain 0 = .ok (.aload_n 0, 1) := by decide +kernel
theorem dX1_addPlain_1 : decode cX1_addPlain 1 = .ok (.aload_n 0, 1) := by decide +kernel
theorem dX1_addPlain_2 : decode cX1_addPlain 2 = .ok (.getfield 22, 3) := by decide +kernel
theorem dX1_addPlain_5 : decode cX1_addPlain 5 = .ok (.iload_n 1, 1) := by decide +kernel
theorem dX1_addPlain_6 : decode cX1_addPlain 6 = .ok (.invokestatic 60, 3) := by decide +kernel
theorem dX1_addPlain_9 : decode cX1_addPlain 9 = .ok (.putfield 22, 3) := by decide +kernel
theorem dX1_addPlain_12 : decode cX1_addPlain 12 = .ok (.aload_n 0, 1) := by decide +kernel
theorem dX1_addPlain_13 : decode cX1_addPlain 13 = .ok (.iload_n 1, 1) := by decide +kernel
theorem dX1_addPlain_14 : decode cX1_addPlain 14 = .ok (.aload_n 0, 1) := by decide +kernel
theorem dX1_addPlain_15 : decode cX1_addPlain 15 = .ok (.getfield 28, 3) := by decide +kernel
theorem dX1_addPlain_18 : decode cX1_addPlain 18 = .ok (.if_icmp .ne 12, 3) := by decide +kernel
theorem dX1_addPlain_21 : decode cX1_addPlain 21 = .ok (.aload_n 0, 1) := by decide +kernel
theorem dX1_addPlain_22 : decode cX1_addPlain 22 = .ok (.getfield 25, 3) := by decide +kernel
theorem dX1_addPlain_25 : decode cX1_addPlain 25 = .ok (.iconst 1, 1) := by decide +kernel
theorem dX1_addPlain_26 : decode cX1_addPlain 26 = .ok (.iadd, 1) := by decide +kernel
theorem dX1_addPlain_27 : decode cX1_addPlain 27 = .ok (.goto 4, 3) := by decide +kernel
theorem dX1_addPlain_30 : decode cX1_addPlain 30 = .ok (.iconst 1, 1) := by decide +kernel
theorem dX1_addPlain_31 : decode cX1_addPlain 31 = .ok (.putfield 25, 3) := by decide +kernel
theorem dX1_addPlain_34 : decode cX1_addPlain 34 = .ok (.aload_n 0, 1) := by decide +kernel
theorem dX1_addPlain_35 : decode cX1_addPlain 35 = .ok (.iload_n 1, 1) := by decide +kernel
theorem dX1_addPlain_36 : decode cX1_addPlain 36 = .ok (.putfield 28, 3) := by decide +kernel
theorem dX1_addPlain_39 : decode cX1_addPlain 39 = .ok (.aload_n 0, 1) := by decide +kernel
theorem dX1_addPlain_40 : decode cX1_addPlain 40 = .ok (.iload_n 1, 1) := by decide +kernel
theorem dX1_addPlain_41 : decode cX1_addPlain 41 = .ok (.invokevirtual 53, 3) := by decide +kernel
theorem dX1_addPlain_44 : decode cX1_addPlain 44 = .ok (.aload_n 0, 1) := by decide +kernel
theorem dX1_addPlain_45 : decode cX1_addPlain 45 = .ok (.getfield 25, 3) := by decide +kernel
theorem dX1_addPlain_48 : decode cX1_addPlain 48 = .ok (.iconst 5, 1) := by decide +kernel
theorem dX1_addPlain_49 : decode cX1_addPlain 49 = .ok (.if_icmp .ne 33, 3) := by decide +kernel
theorem dX1_addPlain_52 : decode cX1_addPlain 52 = .ok (.aload_n 0, 1) := by decide +kernel
theorem dX1_addPlain_53 : decode cX1_addPlain 53 = .ok (.iconst 1, 1) := by decide +kernel
theorem dX1_addPlain_54 : decode cX1_addPlain 54 = .ok (.iload_n 1, 1) := by decide +kernel
theorem dX1_addPlain_55 : decode cX1_addPlain 55 = .ok (.isub, 1) := by decide +kernel
theorem dX1_addPlain_56 : decode cX1_addPlain 56 = .ok (.putfield 28, 3) := by decide +kernel
theorem dX1_addPlain_59 : decode cX1_addPlain 59 = .ok (.aload_n 0, 1) := by decide +kernel
theorem dX1_addPlain_60 : decode cX1_addPlain 60 = .ok (.iconst 1, 1) := by decide +kernel
theorem dX1_addPlain_61 : decode cX1_addPlain 61 = .ok (.putfield 25, 3) := by decide +kernel
theorem dX1_addPlain_64 : decode cX1_addPlain 64 = .ok (.aload_n 0, 1) := by decide +kernel
theorem dX1_addPlain_65 : decode cX1_addPlain 65 = .ok (.dup, 1) := by decide +kernel
theorem dX1_addPlain_66 : decode cX1_addPlain 66 = .ok (.getfield 19, 3) := by decide +kernel
theorem dX1_addPlain_69 : decode cX1_addPlain 69 = .ok (.iconst 1, 1) := by decide +kernel
theorem dX1_addPlain_70 : decode cX1_addPlain 70 = .ok (.iadd, 1) := by decide +kernel
theorem dX1_addPlain_71 : decode cX1_addPlain 71 = .ok (.putfield 19, 3) := by decide +kernel
theorem dX1_addPlain_74 : decode cX1_addPlain 74 = .ok (.aload_n 0, 1) := by decide +kernel
theorem dX1_addPlain_75 : decode cX1_addPlain 75 = .ok (.aload_n 0, 1) := by decide +kernel
theorem dX1_addPlain_76 : decode cX1_addPlain 76 = .ok (.getfield 28, 3) := by decide +kernel
theorem dX1_addPlain_79 : decode cX1_addPlain 79 = .ok (.invokevirtual 53, 3) := by decide +kernel
theorem dX1_addPlain_82 : decode cX1_addPlain 82 = .ok (.return_, 1) := by decide +kernel
theorem dX1_push_0 : decode cX1_push 0 = .ok (.aload_n 0, 1) := by decide +kernel
theorem dX1_push_1 : decode cX1_push 1 = .ok (.getfield 15, 3) := by decide +kernel
theorem dX1_push_4 : decode cX1_push 4 = .ok (.sipush 160, 3) := by decide +kernel
theorem dX1_push_7 : decode cX1_push 7 = .ok (.if_icmp .ge 23, 3) := by decide +kernel
theorem dX1_push_10 : decode cX1_push 10 = .ok (.aload_n 0, 1) := by decide +kernel
theorem dX1_push_11 : decode cX1_push 11 = .ok (.getfield 9, 3) := by decide +kernel
theorem dX1_push_14 : decode cX1_push 14 = .ok (.aload_n 0, 1) := by decide +kernel
theorem dX1_push_15 : decode cX1_push 15 = .ok (.getfield 15, 3) := by decide +kernel
theorem dX1_push_18 : decode cX1_push 18 = .ok (.iload_n 1, 1) := by decide +kernel
theorem dX1_push_19 : decode cX1_push 19 = .ok (.iastore, 1) := by decide +kernel
theorem dX1_push_20 : decode cX1_push 20 = .ok (.aload_n 0, 1) := by decide +kernel
theorem dX1_push_21 : decode cX1_push 21 = .ok (.dup, 1) := by decide +kernel
theorem dX1_push_22 : decode cX1_push 22 = .ok (.getfield 15, 3) := by decide +kernel
theorem dX1_push_25 : decode cX1_push 25 = .ok (.iconst 1, 1) := by decide +kernel
theorem dX1_push_26 : decode cX1_push 26 = .ok (.iadd, 1) := by decide +kernel
theorem dX1_push_27 : decode cX1_push 27 = .ok (.putfield 15, 3) := by decide +kernel
theorem dX1_push_30 : decode cX1_push 30 = .ok (.return_, 1) := by decide +kernel
theorem dX1_bitAt_0 : decode cX1_bitAt 0 = .ok (.iload_n 1, 1) := by decide +kernel
theorem dX1_bitAt_1 : decode cX1_bitAt 1 = .ok (.ifCond .lt 20, 3) := by decide +kernel
theorem dX1_bitAt_4 : decode cX1_bitAt 4 = .ok (.iload_n 1, 1) := by decide +kernel
theorem dX1_bitAt_5 : decode cX1_bitAt 5 = .ok (.aload_n 0, 1) := by decide +kernel
theorem dX1_bitAt_6 : decode cX1_bitAt 6 = .ok (.getfield 15, 3) := by decide +kernel
theorem dX1_bitAt_9 : decode cX1_bitAt 9 = .ok (.if_icmp .ge 12, 3) := by decide +kernel
theorem dX1_bitAt_12 : decode cX1_bitAt 12 = .ok (.aload_n 0, 1) := by decide +kernel
theorem dX1_bitAt_13 : decode cX1_bitAt 13 = .ok (.getfield 9, 3) := by decide +kernel
theorem dX1_bitAt_16 : decode cX1_bitAt 16 = .ok (.iload_n 1, 1) := by decide +kernel
theorem dX1_bitAt_17 : decode cX1_bitAt 17 = .ok (.iaload, 1) := by decide +kernel
theorem dX1_bitAt_18 : decode cX1_bitAt 18 = .ok (.goto 4, 3) := by decide +kernel
theorem dX1_bitAt_21 : decode cX1_bitAt 21 = .ok (.iconst (-1), 1) := by decide +kernel
theorem dX1_bitAt_22 : decode cX1_bitAt 22 = .ok (.ireturn, 1) := by decide +kernel
theorem dX2_init_0 : decode cX2_init 0 = .ok (.aload_n 0, 1) := by decide +kernel
theorem dX2_init_1 : decode cX2_init 1 = .ok (.invokespecial 3, 3) := by decide +kernel
theorem dX2_init_4 : decode cX2_init 4 = .ok (.aload_n 0, 1) := by decide +kernel
theorem dX2_init_5 : decode cX2_init 5 = .ok (.bipush 40, 2) := by decide +kernel
theorem dX2_init_7 : decode cX2_init 7 = .ok (.newarray .int, 2) := by decide +kernel
theorem dX2_init_9 : decode cX2_init 9 = .ok (.putfield 9, 3) := by decide +kernel
theorem dX2_init_12 : decode cX2_init 12 = .ok (.aload_n 0, 1) := by decide +kernel
theorem dX2_init_13 : decode cX2_init 13 = .ok (.bipush 40, 2) := by decide +kernel
theorem dX2_init_15 : decode cX2_init 15 = .ok (.newarray .int, 2) := by decide +kernel
theorem dX2_init_17 : decode cX2_init 17 = .ok (.putfield 15, 3) := by decide +kernel
theorem dX2_init_20 : decode cX2_init 20 = .ok (.aload_n 0, 1) := by decide +kernel
theorem dX2_init_21 : decode cX2_init 21 = .ok (.bipush 40, 2) := by decide +kernel
theorem dX2_init_23 : decode cX2_init 23 = .ok (.newarray .int, 2) := by decide +kernel
theorem dX2_init_25 : decode cX2_init 25 = .ok (.putfield 18, 3) := by decide +kernel
theorem dX2_init_28 : decode cX2_init 28 = .ok (.aload_n 0, 1) := by decide +kernel
theorem dX2_init_29 : decode cX2_init 29 = .ok (.bipush 40, 2) := by decide +kernel
theorem dX2_init_31 : decode cX2_init 31 = .ok (.newarray .int, 2) := by decide +kernel
theorem dX2_init_33 : decode cX2_init 33 = .ok (.putfield 21, 3) := by decide +kernel
theorem dX2_init_36 : decode cX2_init 36 = .ok (.return_, 1) := by decide +kernel
theorem dX2_add_0 : decode cX2_add 0 = .ok (.aload_n 0, 1) := by decide +kernel
theorem dX2_add_1 : decode cX2_add 1 = .ok (.getfield 9, 3) := by decide +kernel
theorem dX2_add_4 : decode cX2_add 4 = .ok (.aload_n 0, 1) := by decide +kernel
theorem dX2_add_5 : decode cX2_add 5 = .ok (.getfield 24, 3) := by decide +kernel
theorem dX2_add_8 : decode cX2_add 8 = .ok (.iload_n 1, 1) := by decide +kernel
theorem dX2_add_9 : decode cX2_add 9 = .ok (.iastore, 1) := by decide +kernel
theorem dX2_add_10 : decode cX2_add 10 = .ok (.aload_n 0, 1) := by decide +kernel
theorem dX2_add_11 : decode cX2_add 11 = .ok (.getfield 15, 3) := by decide +kernel
theorem dX2_add_14 : decode cX2_add 14 = .ok (.aload_n 0, 1) := by decide +kernel
theorem dX2_add_15 : decode cX2_add 15 = .ok (.getfield 24, 3) := by decide +kernel
theorem dX2_add_18 : decode cX2_add 18 = .ok (.iload_n 2, 1) := by decide +kernel
theorem dX2_add_19 : decode cX2_add 19 = .ok (.iastore, 1) := by decide +kernel
theorem dX2_add_20 : decode cX2_add 20 = .ok (.aload_n 0, 1) := by decide +kernel
theorem dX2_add_21 : decode cX2_add 21 = .ok (.getfield 18, 3) := by decide +kernel
theorem dX2_add_24 : decode cX2_add 24 = .ok (.aload_n 0, 1) := by decide +kernel
theorem dX2_add_25 : decode cX2_add 25 = .ok (.getfield 24, 3) := by decide +kernel
theorem dX2_add_28 : decode cX2_add 28 = .ok (.iload_n 3, 1) := by decide +kernel
theorem dX2_add_29 : decode cX2_add 29 = .ok (.iastore, 1) := by decide +kernel
theorem dX2_add_30 : decode cX2_add 30 = .ok (.aload_n 0, 1) := by decide +kernel
theorem dX2_add_31 : decode cX2_add 31 = .ok (.getfield 21, 3) := by decide +kernel
theorem dX2_add_34 : decode cX2_add 34 = .ok (.aload_n 0, 1) := by decide +kernel
theorem dX2_add_35 : decode cX2_add 35 = .ok (.getfield 24, 3) := by decide +kernel
theorem dX2_add_38 : decode cX2_add 38 = .ok (.iload 4, 2) := by decide +kernel
theorem dX2_add_40 : decode cX2_add 40 = .ok (.iastore, 1) := by decide +kernel
theorem dX2_add_41 : decode cX2_add 41 = .ok (.aload_n 0, 1) := by decide +kernel
theorem dX2_add_42 : decode cX2_add 42 = .ok (.aload_n 0, 1) := by decide +kernel
theorem dX2_add_43 : decode cX2_add 43 = .ok (.getfield 24, 3) := by decide +kernel
theorem dX2_add_46 : decode cX2_add 46 = .ok (.iconst 1, 1) := by decide +kernel
theorem dX2_add_47 : decode cX2_add 47 = .ok (.iadd, 1) := by decide +kernel
theorem dX2_add_48 : decode cX2_add 48 = .ok (.bipush 40, 2) := by decide +kernel
theorem dX2_add_50 : decode cX2_add 50 = .ok (.irem, 1) := by decide +kernel
theorem dX2_add_51 : decode cX2_add 51 = .ok (.putfield 24, 3) := by decide +kernel
theorem dX2_add_54 : decode cX2_add 54 = .ok (.aload_n 0, 1) := by decide +kernel
theorem dX2_add_55 : decode cX2_add 55 = .ok (.aload_n 0, 1) := by decide +kernel
theorem dX2_add_56 : decode cX2_add 56 = .ok (.getfield 28, 3) := by decide +kernel
theorem dX2_add_59 : decode cX2_add 59 = .ok (.iconst 1, 1) := by decide +kernel
theorem dX2_add_60 : decode cX2_add 60 = .ok (.iadd, 1) := by decide +kernel
theorem dX2_add_61 : decode cX2_add 61 = .ok (.bipush 40, 2) := by decide +kernel
theorem dX2_add_63 : decode cX2_add 63 = .ok (.invokestatic 31, 3) := by decide +kernel
theorem dX2_add_66 : decode cX2_add 66 = .ok (.putfield 28, 3) := by decide +kernel
theorem dX2_add_69 : decode cX2_add 69 = .ok (.return_, 1) := by decide +kernel
theorem dX2_hasEntry_0 : decode cX2_hasEntry 0 = .ok (.iload_n 1, 1) := by decide +kernel
theorem dX2_hasEntry_1 : decode cX2_hasEntry 1 = .ok (.ifCond .lt 15, 3) := by decide +kernel
theorem dX2_hasEntry_4 : decode cX2_hasEntry 4 = .ok (.iload_n 1, 1) := by decide +kernel
theorem dX2_hasEntry_5 : decode cX2_hasEntry 5 = .ok (.aload_n 0, 1) := by decide +kernel
theorem dX2_hasEntry_6 : decode cX2_hasEntry 6 = .ok (.getfield 28, 3) := by decide +kernel
theorem dX2_hasEntry_9 : decode cX2_hasEntry 9 = .ok (.if_icmp .ge 7, 3) := by decide +kernel
theorem dX2_hasEntry_12 : decode cX2_hasEntry 12 = .ok (.iconst 1, 1) := by decide +kernel
theorem dX2_hasEntry_13 : decode cX2_hasEntry 13 = .ok (.goto 4, 3) := by decide +kernel
theorem dX2_hasEntry_16 : decode cX2_hasEntry 16 = .ok (.iconst 0, 1) := by decide +kernel
theorem dX2_hasEntry_17 : decode cX2_hasEntry 17 = .ok (.ireturn, 1) := by decide +kernel
theorem dX2_answer_0 : decode cX2_answer 0 = .ok (.aload_n 0, 1) := by decide +kernel
theorem dX2_answer_1 : decode cX2_answer 1 = .ok (.getfield 24, 3) := by decide +kernel
theorem dX2_answer_4 : decode cX2_answer 4 = .ok (.iconst 1, 1) := by decide +kernel
theorem dX2_answer_5 : decode cX2_answer 5 = .ok (.isub, 1) := by decide +kernel
theorem dX2_answer_6 : decode cX2_answer 6 = .ok (.iload_n 1, 1) := by decide +kernel
theorem dX2_answer_7 : decode cX2_answer 7 = .ok (.isub, 1) := by decide +kernel
theorem dX2_answer_8 : decode cX2_answer 8 = .ok (.bipush 80, 2) := by decide +kernel
theorem dX2_answer_10 : decode cX2_answer 10 = .ok (.iadd, 1) := by decide +kernel
theorem dX2_answer_11 : decode cX2_answer 11 = .ok (.bipush 40, 2) := by decide +kernel
theorem dX2_answer_13 : decode cX2_answer 13 = .ok (.irem, 1) := by decide +kernel
theorem dX2_answer_14 : decode cX2_answer 14 = .ok (.istore_n 3, 1) := by decide +kernel
theorem dX2_answer_15 : decode cX2_answer 15 = .ok (.iload_n 2, 1) := by decide +kernel
theorem dX2_answer_16 : decode cX2_answer 16 = .ok (.tableswitch 49 0 2 #[28, 35, 42], 28) := by decide +kernel
theorem dX2_answer_44 : decode cX2_answer 44 = .ok (.aload_n 0, 1) := by decide +kernel
theorem dX2_answer_45 : decode cX2_answer 45 = .ok (.getfield 9, 3) := by decide +kernel
theorem dX2_answer_48 : decode cX2_answer 48 = .ok (.iload_n 3, 1) := by decide +kernel
theorem dX2_answer_49 : decode cX2_answer 49 = .ok (.iaload, 1) := by decide +kernel
theorem dX2_answer_50 : decode cX2_answer 50 = .ok (.ireturn, 1) := by decide +kernel
theorem dX2_answer_51 : decode cX2_answer 51 = .ok (.aload_n 0, 1) := by decide +kernel
theorem dX2_answer_52 : decode cX2_answer 52 = .ok (.getfield 15, 3) := by decide +kernel
theorem dX2_answer_55 : decode cX2_answer 55 = .ok (.iload_n 3, 1) := by decide +kernel
theorem dX2_answer_56 : decode cX2_answer 56 = .ok (.iaload, 1) := by decide +kernel
theorem dX2_answer_57 : decode cX2_answer 57 = .ok (.ireturn, 1) := by decide +kernel
theorem dX2_answer_58 : decode cX2_answer 58 = .ok (.aload_n 0, 1) := by decide +kernel
theorem dX2_answer_59 : decode cX2_answer 59 = .ok (.getfield 18, 3) := by decide +kernel
theorem dX2_answer_62 : decode cX2_answer 62 = .ok (.iload_n 3, 1) := by decide +kernel
theorem dX2_answer_63 : decode cX2_answer 63 = .ok (.iaload, 1) := by decide +kernel
theorem dX2_answer_64 : decode cX2_answer 64 = .ok (.ireturn, 1) := by decide +kernel
theorem dX2_answer_65 : decode cX2_answer 65 = .ok (.aload_n 0, 1) := by decide +kernel
theorem dX2_answer_66 : decode cX2_answer 66 = .ok (.getfield 21, 3) := by decide +kernel
theorem dX2_answer_69 : decode cX2_answer 69 = .ok (.iload_n 3, 1) := by decide +kernel
theorem dX2_answer_70 : decode cX2_answer 70 = .ok (.iaload, 1) := by decide +kernel
theorem dX2_answer_71 : decode cX2_answer 71 = .ok (.ireturn, 1) := by decide +kernel
theorem dX3_init_0 : decode cX3_init 0 = .ok (.aload_n 0, 1) := by decide +kernel
theorem dX3_init_1 : decode cX3_init 1 = .ok (.invokespecial 3, 3) := by decide +kernel
theorem dX3_init_4 : decode cX3_init 4 = .ok (.aload_n 0, 1) := by decide +kernel
theorem dX3_init_5 : decode cX3_init 5 = .ok (.iload_n 1, 1) := by decide +kernel
theorem dX3_init_6 : decode cX3_init 6 = .ok (.putfield 9, 3) := by decide +kernel
theorem dX3_init_9 : decode cX3_init 9 = .ok (.return_, 1) := by decide +kernel
theorem dX3_isOff_0 : decode cX3_isOff 0 = .ok (.aload_n 0, 1) := by decide +kernel
theorem dX3_isOff_1 : decode cX3_isOff 1 = .ok (.getfield 15, 3) := by decide +kernel
theorem dX3_isOff_4 : decode cX3_isOff 4 = .ok (.sipush 256, 3) := by decide +kernel
theorem dX3_isOff_7 : decode cX3_isOff 7 = .ok (.if_icmp .lt 7, 3) := by decide +kernel
theorem dX3_isOff_10 : decode cX3_isOff 10 = .ok (.iconst 1, 1) := by decide +kernel
theorem dX3_isOff_11 : decode cX3_isOff 11 = .ok (.goto 4, 3) := by decide +kernel
theorem dX3_isOff_14 : decode cX3_isOff 14 = .ok (.iconst 0, 1) := by decide +kernel
theorem dX3_isOff_15 : decode cX3_isOff 15 = .ok (.ireturn, 1) := by decide +kernel
theorem dX3_answer_0 : decode cX3_answer 0 = .ok (.iload_n 1, 1) := by decide +kernel
theorem dX3_answer_1 : decode cX3_answer 1 = .ok (.lookupswitch 59 #[(0, 27), (1, 32)], 27) := by decide +kernel
theorem dX3_answer_28 : decode cX3_answer 28 = .ok (.aload_n 0, 1) := by decide +kernel
theorem dX3_answer_29 : decode cX3_answer 29 = .ok (.getfield 15, 3) := by decide +kernel
theorem dX3_answer_32 : decode cX3_answer 32 = .ok (.ireturn, 1) := by decide +kernel
theorem dX3_answer_33 : decode cX3_answer 33 = .ok (.aload_n 0, 1) := by decide +kernel
theorem dX3_answer_34 : decode cX3_answer 34 = .ok (.invokevirtual 18, 3) := by decide +kernel
theorem dX3_answer_37 : decode cX3_answer 37 = .ok (.ifCond .eq 7, 3) := by decide +kernel
theorem dX3_answer_40 : decode cX3_answer 40 = .ok (.iconst 2, 1) := by decide +kernel
theorem dX3_answer_41 : decode cX3_answer 41 = .ok (.goto 18, 3) := by decide +kernel
theorem dX3_answer_44 : decode cX3_answer 44 = .ok (.aload_n 0, 1) := by decide +kernel
theorem dX3_answer_45 : decode cX3_answer 45 = .ok (.getfield 15, 3) := by decide +kernel
theorem dX3_answer_48 : decode cX3_answer 48 = .ok (.sipush 128, 3) := by decide +kernel
theorem dX3_answer_51 : decode cX3_answer 51 = .ok (.if_icmp .lt 7, 3) := by decide +kernel
theorem dX3_answer_54 : decode cX3_answer 54 = .ok (.iconst 1, 1) := by decide +kernel
theorem dX3_answer_55 : decode cX3_answer 55 = .ok (.goto 4, 3) := by decide +kernel
theorem dX3_answer_58 : decode cX3_answer 58 = .ok (.iconst 0, 1) := by decide +kernel
theorem dX3_answer_59 : decode cX3_answer 59 = .ok (.ireturn, 1) := by decide +kernel
theorem dX3_answer_60 : decode cX3_answer 60 = .ok (.aload_n 0, 1) := by decide +kernel
theorem dX3_answer_61 : decode cX3_answer 61 = .ok (.getfield 22, 3) := by decide +kernel
theorem dX3_answer_64 : decode cX3_answer 64 = .ok (.ireturn, 1) := by decide +kernel
theorem dX4_init_0 : decode cX4_init 0 = .ok (.aload_n 0, 1) := by decide +kernel
theorem dX4_init_1 : decode cX4_init 1 = .ok (.invokespecial 3, 3) := by decide +kernel
theorem dX4_init_4 : decode cX4_init 4 = .ok (.aload_n 0, 1) := by decide +kernel
theorem dX4_init_5 : decode cX4_init 5 = .ok (.bipush 60, 2) := by decide +kernel
theorem dX4_init_7 : decode cX4_init 7 = .ok (.newarray .int, 2) := by decide +kernel
theorem dX4_init_9 : decode cX4_init 9 = .ok (.putfield 9, 3) := by decide +kernel
theorem dX4_init_12 : decode cX4_init 12 = .ok (.return_, 1) := by decide +kernel
theorem dX4_isTold_0 : decode cX4_isTold 0 = .ok (.iconst 0, 1) := by decide +kernel
theorem dX4_isTold_1 : decode cX4_isTold 1 = .ok (.istore_n 2, 1) := by decide +kernel
theorem dX4_isTold_2 : decode cX4_isTold 2 = .ok (.iload_n 2, 1) := by decide +kernel
theorem dX4_isTold_3 : decode cX4_isTold 3 = .ok (.aload_n 0, 1) := by decide +kernel
theorem dX4_isTold_4 : decode cX4_isTold 4 = .ok (.getfield 15, 3) := by decide +kernel
theorem dX4_isTold_7 : decode cX4_isTold 7 = .ok (.if_icmp .ge 21, 3) := by decide +kernel
theorem dX4_isTold_10 : decode cX4_isTold 10 = .ok (.aload_n 0, 1) := by decide +kernel
theorem dX4_isTold_11 : decode cX4_isTold 11 = .ok (.getfield 9, 3) := by decide +kernel
theorem dX4_isTold_14 : decode cX4_isTold 14 = .ok (.iload_n 2, 1) := by decide +kernel
theorem dX4_isTold_15 : decode cX4_isTold 15 = .ok (.iaload, 1) := by decide +kernel
theorem dX4_isTold_16 : decode cX4_isTold 16 = .ok (.iload_n 1, 1) := by decide +kernel
theorem dX4_isTold_17 : decode cX4_isTold 17 = .ok (.if_icmp .ne 5, 3) := by decide +kernel
theorem dX4_isTold_20 : decode cX4_isTold 20 = .ok (.iconst 1, 1) := by decide +kernel
theorem dX4_isTold_21 : decode cX4_isTold 21 = .ok (.ireturn, 1) := by decide +kernel
theorem dX4_isTold_22 : decode cX4_isTold 22 = .ok (.iinc 2 1, 3) := by decide +kernel
theorem dX4_isTold_25 : decode cX4_isTold 25 = .ok (.goto (-23), 3) := by decide +kernel
theorem dX4_isTold_28 : decode cX4_isTold 28 = .ok (.iconst 0, 1) := by decide +kernel
theorem dX4_isTold_29 : decode cX4_isTold 29 = .ok (.ireturn, 1) := by decide +kernel
theorem dX4_isFirst_0 : decode cX4_isFirst 0 = .ok (.aload_n 0, 1) := by decide +kernel
theorem dX4_isFirst_1 : decode cX4_isFirst 1 = .ok (.getfield 15, 3) := by decide +kernel
theorem dX4_isFirst_4 : decode cX4_isFirst 4 = .ok (.ifCond .le 17, 3) := by decide +kernel
theorem dX4_isFirst_7 : decode cX4_isFirst 7 = .ok (.aload_n 0, 1) := by decide +kernel
theorem dX4_isFirst_8 : decode cX4_isFirst 8 = .ok (.getfield 9, 3) := by decide +kernel
theorem dX4_isFirst_11 : decode cX4_isFirst 11 = .ok (.iconst 0, 1) := by decide +kernel
theorem dX4_isFirst_12 : decode cX4_isFirst 12 = .ok (.iaload, 1) := by decide +kernel
theorem dX4_isFirst_13 : decode cX4_isFirst 13 = .ok (.iload_n 1, 1) := by decide +kernel
theorem dX4_isFirst_14 : decode cX4_isFirst 14 = .ok (.if_icmp .ne 7, 3) := by decide +kernel
theorem dX4_isFirst_17 : decode cX4_isFirst 17 = .ok (.iconst 1, 1) := by decide +kernel
theorem dX4_isFirst_18 : decode cX4_isFirst 18 = .ok (.goto 4, 3) := by decide +kernel
theorem dX4_isFirst_21 : decode cX4_isFirst 21 = .ok (.iconst 0, 1) := by decide +kernel
theorem dX4_isFirst_22 : decode cX4_isFirst 22 = .ok (.ireturn, 1) := by decide +kernel
theorem dX4_add_0 : decode cX4_add 0 = .ok (.aload_n 0, 1) := by decide +kernel
theorem dX4_add_1 : decode cX4_add 1 = .ok (.getfield 15, 3) := by decide +kernel
theorem dX4_add_4 : decode cX4_add 4 = .ok (.bipush 60, 2) := by decide +kernel
theorem dX4_add_6 : decode cX4_add 6 = .ok (.if_icmp .lt 4, 3) := by decide +kernel
theorem dX4_add_9 : decode cX4_add 9 = .ok (.return_, 1) := by decide +kernel
theorem dX4_add_10 : decode cX4_add 10 = .ok (.aload_n 0, 1) := by decide +kernel
theorem dX4_add_11 : decode cX4_add 11 = .ok (.getfield 15, 3) := by decide +kernel
theorem dX4_add_14 : decode cX4_add 14 = .ok (.istore_n 2, 1) := by decide +kernel
theorem dX4_add_15 : decode cX4_add 15 = .ok (.iload_n 2, 1) := by decide +kernel
theorem dX4_add_16 : decode cX4_add 16 = .ok (.ifCond .le 35, 3) := by decide +kernel
theorem dX4_add_19 : decode cX4_add 19 = .ok (.aload_n 0, 1) := by decide +kernel
theorem dX4_add_20 : decode cX4_add 20 = .ok (.getfield 9, 3) := by decide +kernel
theorem dX4_add_23 : decode cX4_add 23 = .ok (.iload_n 2, 1) := by decide +kernel
theorem dX4_add_24 : decode cX4_add 24 = .ok (.iconst 1, 1) := by decide +kernel
theorem dX4_add_25 : decode cX4_add 25 = .ok (.isub, 1) := by decide +kernel
theorem dX4_add_26 : decode cX4_add 26 = .ok (.iaload, 1) := by decide +kernel
theorem dX4_add_27 : decode cX4_add 27 = .ok (.iload_n 1, 1) := by decide +kernel
theorem dX4_add_28 : decode cX4_add 28 = .ok (.if_icmp .le 23, 3) := by decide +kernel
theorem dX4_add_31 : decode cX4_add 31 = .ok (.aload_n 0, 1) := by decide +kernel
theorem dX4_add_32 : decode cX4_add 32 = .ok (.getfield 9, 3) := by decide +kernel
theorem dX4_add_35 : decode cX4_add 35 = .ok (.iload_n 2, 1) := by decide +kernel
theorem dX4_add_36 : decode cX4_add 36 = .ok (.aload_n 0, 1) := by decide +kernel
theorem dX4_add_37 : decode cX4_add 37 = .ok (.getfield 9, 3) := by decide +kernel
theorem dX4_add_40 : decode cX4_add 40 = .ok (.iload_n 2, 1) := by decide +kernel
theorem dX4_add_41 : decode cX4_add 41 = .ok (.iconst 1, 1) := by decide +kernel
theorem dX4_add_42 : decode cX4_add 42 = .ok (.isub, 1) := by decide +kernel
theorem dX4_add_43 : decode cX4_add 43 = .ok (.iaload, 1) := by decide +kernel
theorem dX4_add_44 : decode cX4_add 44 = .ok (.iastore, 1) := by decide +kernel
theorem dX4_add_45 : decode cX4_add 45 = .ok (.iinc 2 (-1), 3) := by decide +kernel
theorem dX4_add_48 : decode cX4_add 48 = .ok (.goto (-33), 3) := by decide +kernel
theorem dX4_add_51 : decode cX4_add 51 = .ok (.aload_n 0, 1) := by decide +kernel
theorem dX4_add_52 : decode cX4_add 52 = .ok (.getfield 9, 3) := by decide +kernel
theorem dX4_add_55 : decode cX4_add 55 = .ok (.iload_n 2, 1) := by decide +kernel
theorem dX4_add_56 : decode cX4_add 56 = .ok (.iload_n 1, 1) := by decide +kernel
theorem dX4_add_57 : decode cX4_add 57 = .ok (.iastore, 1) := by decide +kernel
theorem dX4_add_58 : decode cX4_add 58 = .ok (.aload_n 0, 1) := by decide +kernel
theorem dX4_add_59 : decode cX4_add 59 = .ok (.dup, 1) := by decide +kernel
theorem dX4_add_60 : decode cX4_add 60 = .ok (.getfield 15, 3) := by decide +kernel
theorem dX4_add_63 : decode cX4_add 63 = .ok (.iconst 1, 1) := by decide +kernel
theorem dX4_add_64 : decode cX4_add 64 = .ok (.iadd, 1) := by decide +kernel
theorem dX4_add_65 : decode cX4_add 65 = .ok (.putfield 15, 3) := by decide +kernel
theorem dX4_add_68 : decode cX4_add 68 = .ok (.return_, 1) := by decide +kernel
theorem dX4_forget_0 : decode cX4_forget 0 = .ok (.aload_n 0, 1) := by decide +kernel
theorem dX4_forget_1 : decode cX4_forget 1 = .ok (.iload_n 1, 1) := by decide +kernel
theorem dX4_forget_2 : decode cX4_forget 2 = .ok (.invokevirtual 19, 3) := by decide +kernel
theorem dX4_forget_5 : decode cX4_forget 5 = .ok (.ifCond .eq 30, 3) := by decide +kernel
theorem dX4_forget_8 : decode cX4_forget 8 = .ok (.aload_n 0, 1) := by decide +kernel
theorem dX4_forget_9 : decode cX4_forget 9 = .ok (.dup, 1) := by decide +kernel
theorem dX4_forget_10 : decode cX4_forget 10 = .ok (.getfield 15, 3) := by decide +kernel
theorem dX4_forget_13 : decode cX4_forget 13 = .ok (.iconst 1, 1) := by decide +kernel
theorem dX4_forget_14 : decode cX4_forget 14 = .ok (.isub, 1) := by decide +kernel
theorem dX4_forget_15 : decode cX4_forget 15 = .ok (.putfield 15, 3) := by decide +kernel
theorem dX4_forget_18 : decode cX4_forget 18 = .ok (.aload_n 0, 1) := by decide +kernel
theorem dX4_forget_19 : decode cX4_forget 19 = .ok (.getfield 9, 3) := by decide +kernel
theorem dX4_forget_22 : decode cX4_forget 22 = .ok (.iconst 1, 1) := by decide +kernel
theorem dX4_forget_23 : decode cX4_forget 23 = .ok (.aload_n 0, 1) := by decide +kernel
theorem dX4_forget_24 : decode cX4_forget 24 = .ok (.getfield 9, 3) := by decide +kernel
theorem dX4_forget_27 : decode cX4_forget 27 = .ok (.iconst 0, 1) := by decide +kernel
theorem dX4_forget_28 : decode cX4_forget 28 = .ok (.aload_n 0, 1) := by decide +kernel
theorem dX4_forget_29 : decode cX4_forget 29 = .ok (.getfield 15, 3) := by decide +kernel
theorem dX4_forget_32 : decode cX4_forget 32 = .ok (.invokestatic 23, 3) := by decide +kernel
theorem dX4_forget_35 : decode cX4_forget 35 = .ok (.return_, 1) := by decide +kernel
theorem dX5_init_0 : decode cX5_init 0 = .ok (.aload_n 0, 1) := by decide +kernel
theorem dX5_init_1 : decode cX5_init 1 = .ok (.invokespecial 3, 3) := by decide +kernel
theorem dX5_init_4 : decode cX5_init 4 = .ok (.aload_n 0, 1) := by decide +kernel
theorem dX5_init_5 : decode cX5_init 5 = .ok (.aload_n 1, 1) := by decide +kernel
theorem dX5_init_6 : decode cX5_init 6 = .ok (.putfield 9, 3) := by decide +kernel
theorem dX5_init_9 : decode cX5_init 9 = .ok (.return_, 1) := by decide +kernel
theorem dX5_answer_0 : decode cX5_answer 0 = .ok (.iload_n 1, 1) := by decide +kernel
theorem dX5_answer_1 : decode cX5_answer 1 = .ok (.tableswitch 51 0 3 #[31, 36, 41, 46], 31) := by decide +kernel
theorem dX5_answer_32 : decode cX5_answer 32 = .ok (.aload_n 0, 1) := by decide +kernel
theorem dX5_answer_33 : decode cX5_answer 33 = .ok (.getfield 15, 3) := by decide +kernel
theorem dX5_answer_36 : decode cX5_answer 36 = .ok (.ireturn, 1) := by decide +kernel
theorem dX5_answer_37 : decode cX5_answer 37 = .ok (.aload_n 0, 1) := by decide +kernel
theorem dX5_answer_38 : decode cX5_answer 38 = .ok (.getfield 19, 3) := by decide +kernel
theorem dX5_answer_41 : decode cX5_answer 41 = .ok (.ireturn, 1) := by decide +kernel
theorem dX5_answer_42 : decode cX5_answer 42 = .ok (.aload_n 0, 1) := by decide +kernel
theorem dX5_answer_43 : decode cX5_answer 43 = .ok (.getfield 22, 3) := by decide +kernel
theorem dX5_answer_46 : decode cX5_answer 46 = .ok (.ireturn, 1) := by decide +kernel
theorem dX5_answer_47 : decode cX5_answer 47 = .ok (.aload_n 0, 1) := by decide +kernel
theorem dX5_answer_48 : decode cX5_answer 48 = .ok (.getfield 25, 3) := by decide +kernel
theorem dX5_answer_51 : decode cX5_answer 51 = .ok (.ireturn, 1) := by decide +kernel
theorem dX5_answer_52 : decode cX5_answer 52 = .ok (.aload_n 0, 1) := by decide +kernel
theorem dX5_answer_53 : decode cX5_answer 53 = .ok (.getfield 28, 3) := by decide +kernel
theorem dX5_answer_56 : decode cX5_answer 56 = .ok (.ireturn, 1) := by decide +kernel
theorem dX5_readFrom_0 : decode cX5_readFrom 0 = .ok (.aload_n 0, 1) := by decide +kernel
theorem dX5_readFrom_1 : decode cX5_readFrom 1 = .ok (.iconst 1, 1) := by decide +kernel
theorem dX5_readFrom_2 : decode cX5_readFrom 2 = .ok (.putfield 31, 3) := by decide +kernel
theorem dX5_readFrom_5 : decode cX5_readFrom 5 = .ok (.aload_n 0, 1) := by decide +kernel
theorem dX5_readFrom_6 : decode cX5_readFrom 6 = .ok (.iconst 0, 1) := by decide +kernel
theorem dX5_readFrom_7 : decode cX5_readFrom 7 = .ok (.putfield 35, 3) := by decide +kernel
theorem dX5_readFrom_10 : decode cX5_readFrom 10 = .ok (.aload_n 0, 1) := by decide +kernel
theorem dX5_readFrom_11 : decode cX5_readFrom 11 = .ok (.iload_n 1, 1) := by decide +kernel
theorem dX5_readFrom_12 : decode cX5_readFrom 12 = .ok (.putfield 15, 3) := by decide +kernel
theorem dX5_readFrom_15 : decode cX5_readFrom 15 = .ok (.aload_n 0, 1) := by decide +kernel
theorem dX5_readFrom_16 : decode cX5_readFrom 16 = .ok (.iconst (-1), 1) := by decide +kernel
theorem dX5_readFrom_17 : decode cX5_readFrom 17 = .ok (.putfield 19, 3) := by decide +kernel
theorem dX5_readFrom_20 : decode cX5_readFrom 20 = .ok (.aload_n 0, 1) := by decide +kernel
theorem dX5_readFrom_21 : decode cX5_readFrom 21 = .ok (.iconst (-1), 1) := by decide +kernel
theorem dX5_readFrom_22 : decode cX5_readFrom 22 = .ok (.putfield 22, 3) := by decide +kernel
theorem dX5_readFrom_25 : decode cX5_readFrom 25 = .ok (.aload_n 0, 1) := by decide +kernel
theorem dX5_readFrom_26 : decode cX5_readFrom 26 = .ok (.iconst (-1), 1) := by decide +kernel
theorem dX5_readFrom_27 : decode cX5_readFrom 27 = .ok (.putfield 28, 3) := by decide +kernel
theorem dX5_readFrom_30 : decode cX5_readFrom 30 = .ok (.aload_n 0, 1) := by decide +kernel
theorem dX5_readFrom_31 : decode cX5_readFrom 31 = .ok (.iconst 0, 1) := by decide +kernel
theorem dX5_readFrom_32 : decode cX5_readFrom 32 = .ok (.putfield 25, 3) := by decide +kernel
theorem dX5_readFrom_35 : decode cX5_readFrom 35 = .ok (.aload_n 0, 1) := by decide +kernel
theorem dX5_readFrom_36 : decode cX5_readFrom 36 = .ok (.lconst 0, 1) := by decide +kernel
theorem dX5_readFrom_37 : decode cX5_readFrom 37 = .ok (.putfield 38, 3) := by decide +kernel
theorem dX5_readFrom_40 : decode cX5_readFrom 40 = .ok (.aload_n 0, 1) := by decide +kernel
theorem dX5_readFrom_41 : decode cX5_readFrom 41 = .ok (.iconst 0, 1) := by decide +kernel
theorem dX5_readFrom_42 : decode cX5_readFrom 42 = .ok (.putfield 42, 3) := by decide +kernel
theorem dX5_readFrom_45 : decode cX5_readFrom 45 = .ok (.aload_n 0, 1) := by decide +kernel
theorem dX5_readFrom_46 : decode cX5_readFrom 46 = .ok (.iconst 0, 1) := by decide +kernel
theorem dX5_readFrom_47 : decode cX5_readFrom 47 = .ok (.putfield 45, 3) := by decide +kernel
theorem dX5_readFrom_50 : decode cX5_readFrom 50 = .ok (.aload_n 0, 1) := by decide +kernel
theorem dX5_readFrom_51 : decode cX5_readFrom 51 = .ok (.iconst (-1), 1) := by decide +kernel
theorem dX5_readFrom_52 : decode cX5_readFrom 52 = .ok (.putfield 48, 3) := by decide +kernel
theorem dX5_readFrom_55 : decode cX5_readFrom 55 = .ok (.aload_n 0, 1) := by decide +kernel
theorem dX5_readFrom_56 : decode cX5_readFrom 56 = .ok (.invokevirtual 51, 3) := by decide +kernel
theorem dX5_readFrom_59 : decode cX5_readFrom 59 = .ok (.ifCond .eq 35, 3) := by decide +kernel
theorem dX5_readFrom_62 : decode cX5_readFrom 62 = .ok (.aload_n 0, 1) := by decide +kernel
theorem dX5_readFrom_63 : decode cX5_readFrom 63 = .ok (.invokevirtual 55, 3) := by decide +kernel
theorem dX5_readFrom_66 : decode cX5_readFrom 66 = .ok (.ifCond .eq 28, 3) := by decide +kernel
theorem dX5_readFrom_69 : decode cX5_readFrom 69 = .ok (.aload_n 0, 1) := by decide +kernel
theorem dX5_readFrom_70 : decode cX5_readFrom 70 = .ok (.invokevirtual 58, 3) := by decide +kernel
theorem dX5_readFrom_73 : decode cX5_readFrom 73 = .ok (.ifCond .eq 21, 3) := by decide +kernel
theorem dX5_readFrom_76 : decode cX5_readFrom 76 = .ok (.aload_n 0, 1) := by decide +kernel
theorem dX5_readFrom_77 : decode cX5_readFrom 77 = .ok (.invokevirtual 61, 3) := by decide +kernel
theorem dX5_readFrom_80 : decode cX5_readFrom 80 = .ok (.ifCond .eq 14, 3) := by decide +kernel
theorem dX5_readFrom_83 : decode cX5_readFrom 83 = .ok (.aload_n 0, 1) := by decide +kernel
theorem dX5_readFrom_84 : decode cX5_readFrom 84 = .ok (.invokevirtual 64, 3) := by decide +kernel
theorem dX5_readFrom_87 : decode cX5_readFrom 87 = .ok (.ifCond .eq 7, 3) := by decide +kernel
theorem dX5_readFrom_90 : decode cX5_readFrom 90 = .ok (.aload_n 0, 1) := by decide +kernel
theorem dX5_readFrom_91 : decode cX5_readFrom 91 = .ok (.invokevirtual 67, 3) := by decide +kernel
theorem dX5_readFrom_94 : decode cX5_readFrom 94 = .ok (.return_, 1) := by decide +kernel
theorem dX5_readStart_0 : decode cX5_readStart 0 = .ok (.aload_n 0, 1) := by decide +kernel
theorem dX5_readStart_1 : decode cX5_readStart 1 = .ok (.iconst 1, 1) := by decide +kernel
theorem dX5_readStart_2 : decode cX5_readStart 2 = .ok (.invokevirtual 70, 3) := by decide +kernel
theorem dX5_readStart_5 : decode cX5_readStart 5 = .ok (.istore_n 1, 1) := by decide +kernel
theorem dX5_readStart_6 : decode cX5_readStart 6 = .ok (.iload_n 1, 1) := by decide +kernel
theorem dX5_readStart_7 : decode cX5_readStart 7 = .ok (.iconst (-1), 1) := by decide +kernel
theorem dX5_readStart_8 : decode cX5_readStart 8 = .ok (.if_icmp .eq 19, 3) := by decide +kernel
theorem dX5_readStart_11 : decode cX5_readStart 11 = .ok (.iload_n 1, 1) := by decide +kernel
theorem dX5_readStart_12 : decode cX5_readStart 12 = .ok (.ifCond .eq 11, 3) := by decide +kernel
theorem dX5_readStart_15 : decode cX5_readStart 15 = .ok (.aload_n 0, 1) := by decide +kernel
theorem dX5_readStart_16 : decode cX5_readStart 16 = .ok (.iconst 1, 1) := by decide +kernel
theorem dX5_readStart_17 : decode cX5_readStart 17 = .ok (.invokevirtual 74, 3) := by decide +kernel
theorem dX5_readStart_20 : decode cX5_readStart 20 = .ok (.ifCond .eq 7, 3) := by decide +kernel
theorem dX5_readStart_23 : decode cX5_readStart 23 = .ok (.iconst 1, 1) := by decide +kernel
theorem dX5_readStart_24 : decode cX5_readStart 24 = .ok (.goto 4, 3) := by decide +kernel
theorem dX5_readStart_27 : decode cX5_readStart 27 = .ok (.iconst 0, 1) := by decide +kernel
theorem dX5_readStart_28 : decode cX5_readStart 28 = .ok (.ireturn, 1) := by decide +kernel
theorem dX5_readRank_0 : decode cX5_readRank 0 = .ok (.aload_n 0, 1) := by decide +kernel
theorem dX5_readRank_1 : decode cX5_readRank 1 = .ok (.bipush 11, 2) := by decide +kernel
theorem dX5_readRank_3 : decode cX5_readRank 3 = .ok (.invokevirtual 70, 3) := by decide +kernel
theorem dX5_readRank_6 : decode cX5_readRank 6 = .ok (.istore_n 1, 1) := by decide +kernel
theorem dX5_readRank_7 : decode cX5_readRank 7 = .ok (.aload_n 0, 1) := by decide +kernel
theorem dX5_readRank_8 : decode cX5_readRank 8 = .ok (.iconst 1, 1) := by decide +kernel
theorem dX5_readRank_9 : decode cX5_readRank 9 = .ok (.invokevirtual 70, 3) := by decide +kernel
theorem dX5_readRank_12 : decode cX5_readRank 12 = .ok (.istore_n 2, 1) := by decide +kernel
theorem dX5_readRank_13 : decode cX5_readRank 13 = .ok (.iload_n 2, 1) := by decide +kernel
theorem dX5_readRank_14 : decode cX5_readRank 14 = .ok (.iconst (-1), 1) := by decide +kernel
theorem dX5_readRank_15 : decode cX5_readRank 15 = .ok (.if_icmp .ne 5, 3) := by decide +kernel
theorem dX5_readRank_18 : decode cX5_readRank 18 = .ok (.iconst 0, 1) := by decide +kernel
theorem dX5_readRank_19 : decode cX5_readRank 19 = .ok (.ireturn, 1) := by decide +kernel
theorem dX5_readRank_20 : decode cX5_readRank 20 = .ok (.iload_n 2, 1) := by decide +kernel
theorem dX5_readRank_21 : decode cX5_readRank 21 = .ok (.ifCond .ne 10, 3) := by decide +kernel
theorem dX5_readRank_24 : decode cX5_readRank 24 = .ok (.aload_n 0, 1) := by decide +kernel
theorem dX5_readRank_25 : decode cX5_readRank 25 = .ok (.iload_n 1, 1) := by decide +kernel
theorem dX5_readRank_26 : decode cX5_readRank 26 = .ok (.putfield 19, 3) := by decide +kernel
theorem dX5_readRank_29 : decode cX5_readRank 29 = .ok (.iconst 1, 1) := by decide +kernel
theorem dX5_readRank_30 : decode cX5_readRank 30 = .ok (.ireturn, 1) := by decide +kernel
theorem dX5_readRank_31 : decode cX5_readRank 31 = .ok (.aload_n 0, 1) := by decide +kernel
theorem dX5_readRank_32 : decode cX5_readRank 32 = .ok (.bipush 18, 2) := by decide +kernel
theorem dX5_readRank_34 : decode cX5_readRank 34 = .ok (.invokevirtual 70, 3) := by decide +kernel
theorem dX5_readRank_37 : decode cX5_readRank 37 = .ok (.istore_n 3, 1) := by decide +kernel
theorem dX5_readRank_38 : decode cX5_readRank 38 = .ok (.iload_n 3, 1) := by decide +kernel
theorem dX5_readRank_39 : decode cX5_readRank 39 = .ok (.iconst (-1), 1) := by decide +kernel
theorem dX5_readRank_40 : decode cX5_readRank 40 = .ok (.if_icmp .ne 5, 3) := by decide +kernel
theorem dX5_readRank_43 : decode cX5_readRank 43 = .ok (.iconst 0, 1) := by decide +kernel
theorem dX5_readRank_44 : decode cX5_readRank 44 = .ok (.ireturn, 1) := by decide +kernel
theorem dX5_readRank_45 : decode cX5_readRank 45 = .ok (.aload_n 0, 1) := by decide +kernel
theorem dX5_readRank_46 : decode cX5_readRank 46 = .ok (.sipush 2048, 3) := by decide +kernel
theorem dX5_readRank_49 : decode cX5_readRank 49 = .ok (.iload_n 1, 1) := by decide +kernel
theorem dX5_readRank_50 : decode cX5_readRank 50 = .ok (.bipush 18, 2) := by decide +kernel
theorem dX5_readRank_52 : decode cX5_readRank 52 = .ok (.ishl, 1) := by decide +kernel
theorem dX5_readRank_53 : decode cX5_readRank 53 = .ok (.iload_n 3, 1) := by decide +kernel
theorem dX5_readRank_54 : decode cX5_readRank 54 = .ok (.ior, 1) := by decide +kernel
theorem dX5_readRank_55 : decode cX5_readRank 55 = .ok (.iadd, 1) := by decide +kernel
theorem dX5_readRank_56 : decode cX5_readRank 56 = .ok (.putfield 19, 3) := by decide +kernel
theorem dX5_readRank_59 : decode cX5_readRank 59 = .ok (.iconst 1, 1) := by decide +kernel
theorem dX5_readRank_60 : decode cX5_readRank 60 = .ok (.ireturn, 1) := by decide +kernel
theorem dX5_readCount_0 : decode cX5_readCount 0 = .ok (.aload_n 0, 1) := by decide +kernel
theorem dX5_readCount_1 : decode cX5_readCount 1 = .ok (.aload_n 0, 1) := by decide +kernel
theorem dX5_readCount_2 : decode cX5_readCount 2 = .ok (.iconst 4, 1) := by decide +kernel
theorem dX5_readCount_3 : decode cX5_readCount 3 = .ok (.invokevirtual 70, 3) := by decide +kernel
theorem dX5_readCount_6 : decode cX5_readCount 6 = .ok (.putfield 22, 3) := by decide +kernel
theorem dX5_readCount_9 : decode cX5_readCount 9 = .ok (.aload_n 0, 1) := by decide +kernel
theorem dX5_readCount_10 : decode cX5_readCount 10 = .ok (.getfield 22, 3) := by decide +kernel
theorem dX5_readCount_13 : decode cX5_readCount 13 = .ok (.iconst (-1), 1) := by decide +kernel
theorem dX5_readCount_14 : decode cX5_readCount 14 = .ok (.if_icmp .eq 24, 3) := by decide +kernel
theorem dX5_readCount_17 : decode cX5_readCount 17 = .ok (.aload_n 0, 1) := by decide +kernel
theorem dX5_readCount_18 : decode cX5_readCount 18 = .ok (.getfield 22, 3) := by decide +kernel
theorem dX5_readCount_21 : decode cX5_readCount 21 = .ok (.bipush 8, 2) := by decide +kernel
theorem dX5_readCount_23 : decode cX5_readCount 23 = .ok (.if_icmp .le 11, 3) := by decide +kernel
theorem dX5_readCount_26 : decode cX5_readCount 26 = .ok (.aload_n 0, 1) := by decide +kernel
theorem dX5_readCount_27 : decode cX5_readCount 27 = .ok (.iconst 3, 1) := by decide +kernel
theorem dX5_readCount_28 : decode cX5_readCount 28 = .ok (.invokevirtual 74, 3) := by decide +kernel
theorem dX5_readCount_31 : decode cX5_readCount 31 = .ok (.ifCond .eq 7, 3) := by decide +kernel
theorem dX5_readCount_34 : decode cX5_readCount 34 = .ok (.iconst 1, 1) := by decide +kernel
theorem dX5_readCount_35 : decode cX5_readCount 35 = .ok (.goto 4, 3) := by decide +kernel
theorem dX5_readCount_38 : decode cX5_readCount 38 = .ok (.iconst 0, 1) := by decide +kernel
theorem dX5_readCount_39 : decode cX5_readCount 39 = .ok (.ireturn, 1) := by decide +kernel
theorem dX5_readBytes_0 : decode cX5_readBytes 0 = .ok (.iconst 0, 1) := by decide +kernel
theorem dX5_readBytes_1 : decode cX5_readBytes 1 = .ok (.istore_n 1, 1) := by decide +kernel
theorem dX5_readBytes_2 : decode cX5_readBytes 2 = .ok (.iload_n 1, 1) := by decide +kernel
theorem dX5_readBytes_3 : decode cX5_readBytes 3 = .ok (.aload_n 0, 1) := by decide +kernel
theorem dX5_readBytes_4 : decode cX5_readBytes 4 = .ok (.getfield 22, 3) := by decide +kernel
theorem dX5_readBytes_7 : decode cX5_readBytes 7 = .ok (.if_icmp .ge 37, 3) := by decide +kernel
theorem dX5_readBytes_10 : decode cX5_readBytes 10 = .ok (.aload_n 0, 1) := by decide +kernel
theorem dX5_readBytes_11 : decode cX5_readBytes 11 = .ok (.bipush 8, 2) := by decide +kernel
theorem dX5_readBytes_13 : decode cX5_readBytes 13 = .ok (.invokevirtual 70, 3) := by decide +kernel
theorem dX5_readBytes_16 : decode cX5_readBytes 16 = .ok (.istore_n 2, 1) := by decide +kernel
theorem dX5_readBytes_17 : decode cX5_readBytes 17 = .ok (.iload_n 2, 1) := by decide +kernel
theorem dX5_readBytes_18 : decode cX5_readBytes 18 = .ok (.iconst (-1), 1) := by decide +kernel
theorem dX5_readBytes_19 : decode cX5_readBytes 19 = .ok (.if_icmp .ne 5, 3) := by decide +kernel
theorem dX5_readBytes_22 : decode cX5_readBytes 22 = .ok (.iconst 0, 1) := by decide +kernel
theorem dX5_readBytes_23 : decode cX5_readBytes 23 = .ok (.ireturn, 1) := by decide +kernel
theorem dX5_readBytes_24 : decode cX5_readBytes 24 = .ok (.aload_n 0, 1) := by decide +kernel
theorem dX5_readBytes_25 : decode cX5_readBytes 25 = .ok (.aload_n 0, 1) := by decide +kernel
theorem dX5_readBytes_26 : decode cX5_readBytes 26 = .ok (.getfield 38, 3) := by decide +kernel
theorem dX5_readBytes_29 : decode cX5_readBytes 29 = .ok (.bipush 8, 2) := by decide +kernel
theorem dX5_readBytes_31 : decode cX5_readBytes 31 = .ok (.lshl, 1) := by decide +kernel
theorem dX5_readBytes_32 : decode cX5_readBytes 32 = .ok (.iload_n 2, 1) := by decide +kernel
theorem dX5_readBytes_33 : decode cX5_readBytes 33 = .ok (.i2l, 1) := by decide +kernel
theorem dX5_readBytes_34 : decode cX5_readBytes 34 = .ok (.lor, 1) := by decide +kernel
theorem dX5_readBytes_35 : decode cX5_readBytes 35 = .ok (.putfield 38, 3) := by decide +kernel
theorem dX5_readBytes_38 : decode cX5_readBytes 38 = .ok (.iinc 1 1, 3) := by decide +kernel
theorem dX5_readBytes_41 : decode cX5_readBytes 41 = .ok (.goto (-39), 3) := by decide +kernel
theorem dX5_readBytes_44 : decode cX5_readBytes 44 = .ok (.iconst 1, 1) := by decide +kernel
theorem dX5_readBytes_45 : decode cX5_readBytes 45 = .ok (.ireturn, 1) := by decide +kernel
theorem dX5_readSum_0 : decode cX5_readSum 0 = .ok (.aload_n 0, 1) := by decide +kernel
theorem dX5_readSum_1 : decode cX5_readSum 1 = .ok (.getfield 42, 3) := by decide +kernel
theorem dX5_readSum_4 : decode cX5_readSum 4 = .ok (.istore_n 1, 1) := by decide +kernel
theorem dX5_readSum_5 : decode cX5_readSum 5 = .ok (.aload_n 0, 1) := by decide +kernel
theorem dX5_readSum_6 : decode cX5_readSum 6 = .ok (.aload_n 0, 1) := by decide +kernel
theorem dX5_readSum_7 : decode cX5_readSum 7 = .ok (.bipush 15, 2) := by decide +kernel
theorem dX5_readSum_9 : decode cX5_readSum 9 = .ok (.invokevirtual 70, 3) := by decide +kernel
theorem dX5_readSum_12 : decode cX5_readSum 12 = .ok (.putfield 28, 3) := by decide +kernel
theorem dX5_readSum_15 : decode cX5_readSum 15 = .ok (.aload_n 0, 1) := by decide +kernel
theorem dX5_readSum_16 : decode cX5_readSum 16 = .ok (.getfield 28, 3) := by decide +kernel
theorem dX5_readSum_19 : decode cX5_readSum 19 = .ok (.iconst (-1), 1) := by decide +kernel
theorem dX5_readSum_20 : decode cX5_readSum 20 = .ok (.if_icmp .eq 30, 3) := by decide +kernel
theorem dX5_readSum_23 : decode cX5_readSum 23 = .ok (.aload_n 0, 1) := by decide +kernel
theorem dX5_readSum_24 : decode cX5_readSum 24 = .ok (.getfield 28, 3) := by decide +kernel
theorem dX5_readSum_27 : decode cX5_readSum 27 = .ok (.iload_n 1, 1) := by decide +kernel
theorem dX5_readSum_28 : decode cX5_readSum 28 = .ok (.if_icmp .eq 11, 3) := by decide +kernel
theorem dX5_readSum_31 : decode cX5_readSum 31 = .ok (.aload_n 0, 1) := by decide +kernel
theorem dX5_readSum_32 : decode cX5_readSum 32 = .ok (.iconst 4, 1) := by decide +kernel
theorem dX5_readSum_33 : decode cX5_readSum 33 = .ok (.invokevirtual 74, 3) := by decide +kernel
theorem dX5_readSum_36 : decode cX5_readSum 36 = .ok (.ifCond .eq 14, 3) := by decide +kernel
theorem dX5_readSum_39 : decode cX5_readSum 39 = .ok (.aload_n 0, 1) := by decide +kernel
theorem dX5_readSum_40 : decode cX5_readSum 40 = .ok (.invokevirtual 78, 3) := by decide +kernel
theorem dX5_readSum_43 : decode cX5_readSum 43 = .ok (.ifCond .eq 7, 3) := by decide +kernel
theorem dX5_readSum_46 : decode cX5_readSum 46 = .ok (.iconst 1, 1) := by decide +kernel
theorem dX5_readSum_47 : decode cX5_readSum 47 = .ok (.goto 4, 3) := by decide +kernel
theorem dX5_readSum_50 : decode cX5_readSum 50 = .ok (.iconst 0, 1) := by decide +kernel
theorem dX5_readSum_51 : decode cX5_readSum 51 = .ok (.ireturn, 1) := by decide +kernel
theorem dX5_readTail_0 : decode cX5_readTail 0 = .ok (.iconst 0, 1) := by decide +kernel
theorem dX5_readTail_1 : decode cX5_readTail 1 = .ok (.istore_n 1, 1) := by decide +kernel
theorem dX5_readTail_2 : decode cX5_readTail 2 = .ok (.iload_n 1, 1) := by decide +kernel
theorem dX5_readTail_3 : decode cX5_readTail 3 = .ok (.getstatic 81, 3) := by decide +kernel
theorem dX5_readTail_6 : decode cX5_readTail 6 = .ok (.arraylength, 1) := by decide +kernel
theorem dX5_readTail_7 : decode cX5_readTail 7 = .ok (.if_icmp .ge 68, 3) := by decide +kernel
theorem dX5_readTail_10 : decode cX5_readTail 10 = .ok (.aload_n 0, 1) := by decide +kernel
theorem dX5_readTail_11 : decode cX5_readTail 11 = .ok (.getfield 9, 3) := by decide +kernel
theorem dX5_readTail_14 : decode cX5_readTail 14 = .ok (.aload_n 0, 1) := by decide +kernel
theorem dX5_readTail_15 : decode cX5_readTail 15 = .ok (.getfield 15, 3) := by decide +kernel
theorem dX5_readTail_18 : decode cX5_readTail 18 = .ok (.invokevirtual 85, 3) := by decide +kernel
theorem dX5_readTail_21 : decode cX5_readTail 21 = .ok (.ifCond .ne 11, 3) := by decide +kernel
theorem dX5_readTail_24 : decode cX5_readTail 24 = .ok (.aload_n 0, 1) := by decide +kernel
theorem dX5_readTail_25 : decode cX5_readTail 25 = .ok (.bipush 6, 2) := by decide +kernel
theorem dX5_readTail_27 : decode cX5_readTail 27 = .ok (.invokevirtual 90, 3) := by decide +kernel
theorem dX5_readTail_30 : decode cX5_readTail 30 = .ok (.pop, 1) := by decide +kernel
theorem dX5_readTail_31 : decode cX5_readTail 31 = .ok (.return_, 1) := by decide +kernel
theorem dX5_readTail_32 : decode cX5_readTail 32 = .ok (.aload_n 0, 1) := by decide +kernel
theorem dX5_readTail_33 : decode cX5_readTail 33 = .ok (.getfield 9, 3) := by decide +kernel
theorem dX5_readTail_36 : decode cX5_readTail 36 = .ok (.getfield 93, 3) := by decide +kernel
theorem dX5_readTail_39 : decode cX5_readTail 39 = .ok (.aload_n 0, 1) := by decide +kernel
theorem dX5_readTail_40 : decode cX5_readTail 40 = .ok (.getfield 15, 3) := by decide +kernel
theorem dX5_readTail_43 : decode cX5_readTail 43 = .ok (.iaload, 1) := by decide +kernel
theorem dX5_readTail_44 : decode cX5_readTail 44 = .ok (.getstatic 81, 3) := by decide +kernel
theorem dX5_readTail_47 : decode cX5_readTail 47 = .ok (.iload_n 1, 1) := by decide +kernel
theorem dX5_readTail_48 : decode cX5_readTail 48 = .ok (.iaload, 1) := by decide +kernel
theorem dX5_readTail_49 : decode cX5_readTail 49 = .ok (.if_icmp .eq 10, 3) := by decide +kernel
theorem dX5_readTail_52 : decode cX5_readTail 52 = .ok (.aload_n 0, 1) := by decide +kernel
theorem dX5_readTail_53 : decode cX5_readTail 53 = .ok (.iconst 5, 1) := by decide +kernel
theorem dX5_readTail_54 : decode cX5_readTail 54 = .ok (.invokevirtual 90, 3) := by decide +kernel
theorem dX5_readTail_57 : decode cX5_readTail 57 = .ok (.pop, 1) := by decide +kernel
theorem dX5_readTail_58 : decode cX5_readTail 58 = .ok (.return_, 1) := by decide +kernel
theorem dX5_readTail_59 : decode cX5_readTail 59 = .ok (.aload_n 0, 1) := by decide +kernel
theorem dX5_readTail_60 : decode cX5_readTail 60 = .ok (.dup, 1) := by decide +kernel
theorem dX5_readTail_61 : decode cX5_readTail 61 = .ok (.getfield 15, 3) := by decide +kernel
theorem dX5_readTail_64 : decode cX5_readTail 64 = .ok (.iconst 1, 1) := by decide +kernel
theorem dX5_readTail_65 : decode cX5_readTail 65 = .ok (.iadd, 1) := by decide +kernel
theorem dX5_readTail_66 : decode cX5_readTail 66 = .ok (.putfield 15, 3) := by decide +kernel
theorem dX5_readTail_69 : decode cX5_readTail 69 = .ok (.iinc 1 1, 3) := by decide +kernel
theorem dX5_readTail_72 : decode cX5_readTail 72 = .ok (.goto (-70), 3) := by decide +kernel
theorem dX5_readTail_75 : decode cX5_readTail 75 = .ok (.return_, 1) := by decide +kernel
theorem dX5_takeNumber_0 : decode cX5_takeNumber 0 = .ok (.iconst 0, 1) := by decide +kernel
theorem dX5_takeNumber_1 : decode cX5_takeNumber 1 = .ok (.istore_n 2, 1) := by decide +kernel
theorem dX5_takeNumber_2 : decode cX5_takeNumber 2 = .ok (.iconst 0, 1) := by decide +kernel
theorem dX5_takeNumber_3 : decode cX5_takeNumber 3 = .ok (.istore_n 3, 1) := by decide +kernel
theorem dX5_takeNumber_4 : decode cX5_takeNumber 4 = .ok (.iload_n 3, 1) := by decide +kernel
theorem dX5_takeNumber_5 : decode cX5_takeNumber 5 = .ok (.iload_n 1, 1) := by decide +kernel
theorem dX5_takeNumber_6 : decode cX5_takeNumber 6 = .ok (.if_icmp .ge 30, 3) := by decide +kernel
theorem dX5_takeNumber_9 : decode cX5_takeNumber 9 = .ok (.aload_n 0, 1) := by decide +kernel
theorem dX5_takeNumber_10 : decode cX5_takeNumber 10 = .ok (.invokevirtual 96, 3) := by decide +kernel
theorem dX5_takeNumber_13 : decode cX5_takeNumber 13 = .ok (.istore 4, 2) := by decide +kernel
theorem dX5_takeNumber_15 : decode cX5_takeNumber 15 = .ok (.iload 4, 2) := by decide +kernel
theorem dX5_takeNumber_17 : decode cX5_takeNumber 17 = .ok (.iconst (-1), 1) := by decide +kernel
theorem dX5_takeNumber_18 : decode cX5_takeNumber 18 = .ok (.if_icmp .ne 5, 3) := by decide +kernel
theorem dX5_takeNumber_21 : decode cX5_takeNumber 21 = .ok (.iconst (-1), 1) := by decide +kernel
theorem dX5_takeNumber_22 : decode cX5_takeNumber 22 = .ok (.ireturn, 1) := by decide +kernel
theorem dX5_takeNumber_23 : decode cX5_takeNumber 23 = .ok (.iload_n 2, 1) := by decide +kernel
theorem dX5_takeNumber_24 : decode cX5_takeNumber 24 = .ok (.iconst 1, 1) := by decide +kernel
theorem dX5_takeNumber_25 : decode cX5_takeNumber 25 = .ok (.ishl, 1) := by decide +kernel
theorem dX5_takeNumber_26 : decode cX5_takeNumber 26 = .ok (.iload 4, 2) := by decide +kernel
theorem dX5_takeNumber_28 : decode cX5_takeNumber 28 = .ok (.ior, 1) := by decide +kernel
theorem dX5_takeNumber_29 : decode cX5_takeNumber 29 = .ok (.istore_n 2, 1) := by decide +kernel
theorem dX5_takeNumber_30 : decode cX5_takeNumber 30 = .ok (.iinc 3 1, 3) := by decide +kernel
theorem dX5_takeNumber_33 : decode cX5_takeNumber 33 = .ok (.goto (-29), 3) := by decide +kernel
theorem dX5_takeNumber_36 : decode cX5_takeNumber 36 = .ok (.iload_n 2, 1) := by decide +kernel
theorem dX5_takeNumber_37 : decode cX5_takeNumber 37 = .ok (.ireturn, 1) := by decide +kernel
theorem dX5_takePlain_0 : decode cX5_takePlain 0 = .ok (.aload_n 0, 1) := by decide +kernel
theorem dX5_takePlain_1 : decode cX5_takePlain 1 = .ok (.getfield 35, 3) := by decide +kernel
theorem dX5_takePlain_4 : decode cX5_takePlain 4 = .ok (.ifCond .ne 10, 3) := by decide +kernel
theorem dX5_takePlain_7 : decode cX5_takePlain 7 = .ok (.aload_n 0, 1) := by decide +kernel
theorem dX5_takePlain_8 : decode cX5_takePlain 8 = .ok (.invokevirtual 78, 3) := by decide +kernel
theorem dX5_takePlain_11 : decode cX5_takePlain 11 = .ok (.ifCond .ne 5, 3) := by decide +kernel
theorem dX5_takePlain_14 : decode cX5_takePlain 14 = .ok (.iconst (-1), 1) := by decide +kernel
theorem dX5_takePlain_15 : decode cX5_takePlain 15 = .ok (.ireturn, 1) := by decide +kernel
theorem dX5_takePlain_16 : decode cX5_takePlain 16 = .ok (.aload_n 0, 1) := by decide +kernel
theorem dX5_takePlain_17 : decode cX5_takePlain 17 = .ok (.getfield 9, 3) := by decide +kernel
theorem dX5_takePlain_20 : decode cX5_takePlain 20 = .ok (.aload_n 0, 1) := by decide +kernel
theorem dX5_takePlain_21 : decode cX5_takePlain 21 = .ok (.getfield 15, 3) := by decide +kernel
theorem dX5_takePlain_24 : decode cX5_takePlain 24 = .ok (.invokevirtual 85, 3) := by decide +kernel
theorem dX5_takePlain_27 : decode cX5_takePlain 27 = .ok (.ifCond .ne 12, 3) := by decide +kernel
theorem dX5_takePlain_30 : decode cX5_takePlain 30 = .ok (.aload_n 0, 1) := by decide +kernel
theorem dX5_takePlain_31 : decode cX5_takePlain 31 = .ok (.bipush 6, 2) := by decide +kernel
theorem dX5_takePlain_33 : decode cX5_takePlain 33 = .ok (.invokevirtual 90, 3) := by decide +kernel
theorem dX5_takePlain_36 : decode cX5_takePlain 36 = .ok (.pop, 1) := by decide +kernel
theorem dX5_takePlain_37 : decode cX5_takePlain 37 = .ok (.iconst (-1), 1) := by decide +kernel
theorem dX5_takePlain_38 : decode cX5_takePlain 38 = .ok (.ireturn, 1) := by decide +kernel
theorem dX5_takePlain_39 : decode cX5_takePlain 39 = .ok (.aload_n 0, 1) := by decide +kernel
theorem dX5_takePlain_40 : decode cX5_takePlain 40 = .ok (.getfield 9, 3) := by decide +kernel
theorem dX5_takePlain_43 : decode cX5_takePlain 43 = .ok (.getfield 93, 3) := by decide +kernel
theorem dX5_takePlain_46 : decode cX5_takePlain 46 = .ok (.aload_n 0, 1) := by decide +kernel
theorem dX5_takePlain_47 : decode cX5_takePlain 47 = .ok (.getfield 15, 3) := by decide +kernel
theorem dX5_takePlain_50 : decode cX5_takePlain 50 = .ok (.iaload, 1) := by decide +kernel
theorem dX5_takePlain_51 : decode cX5_takePlain 51 = .ok (.istore_n 1, 1) := by decide +kernel
theorem dX5_takePlain_52 : decode cX5_takePlain 52 = .ok (.aload_n 0, 1) := by decide +kernel
theorem dX5_takePlain_53 : decode cX5_takePlain 53 = .ok (.dup, 1) := by decide +kernel
theorem dX5_takePlain_54 : decode cX5_takePlain 54 = .ok (.getfield 15, 3) := by decide +kernel
theorem dX5_takePlain_57 : decode cX5_takePlain 57 = .ok (.iconst 1, 1) := by decide +kernel
theorem dX5_takePlain_58 : decode cX5_takePlain 58 = .ok (.iadd, 1) := by decide +kernel
theorem dX5_takePlain_59 : decode cX5_takePlain 59 = .ok (.putfield 15, 3) := by decide +kernel
theorem dX5_takePlain_62 : decode cX5_takePlain 62 = .ok (.aload_n 0, 1) := by decide +kernel
theorem dX5_takePlain_63 : decode cX5_takePlain 63 = .ok (.aload_n 0, 1) := by decide +kernel
theorem dX5_takePlain_64 : decode cX5_takePlain 64 = .ok (.getfield 42, 3) := by decide +kernel
theorem dX5_takePlain_67 : decode cX5_takePlain 67 = .ok (.iload_n 1, 1) := by decide +kernel
theorem dX5_takePlain_68 : decode cX5_takePlain 68 = .ok (.invokestatic 100, 3) := by decide +kernel
theorem dX5_takePlain_71 : decode cX5_takePlain 71 = .ok (.putfield 42, 3) := by decide +kernel
theorem dX5_takePlain_74 : decode cX5_takePlain 74 = .ok (.aload_n 0, 1) := by decide +kernel
theorem dX5_takePlain_75 : decode cX5_takePlain 75 = .ok (.iload_n 1, 1) := by decide +kernel
theorem dX5_takePlain_76 : decode cX5_takePlain 76 = .ok (.aload_n 0, 1) := by decide +kernel
theorem dX5_takePlain_77 : decode cX5_takePlain 77 = .ok (.getfield 48, 3) := by decide +kernel
theorem dX5_takePlain_80 : decode cX5_takePlain 80 = .ok (.if_icmp .ne 12, 3) := by decide +kernel
theorem dX5_takePlain_83 : decode cX5_takePlain 83 = .ok (.aload_n 0, 1) := by decide +kernel
theorem dX5_takePlain_84 : decode cX5_takePlain 84 = .ok (.getfield 45, 3) := by decide +kernel
theorem dX5_takePlain_87 : decode cX5_takePlain 87 = .ok (.iconst 1, 1) := by decide +kernel
theorem dX5_takePlain_88 : decode cX5_takePlain 88 = .ok (.iadd, 1) := by decide +kernel
theorem dX5_takePlain_89 : decode cX5_takePlain 89 = .ok (.goto 4, 3) := by decide +kernel
theorem dX5_takePlain_92 : decode cX5_takePlain 92 = .ok (.iconst 1, 1) := by decide +kernel
theorem dX5_takePlain_93 : decode cX5_takePlain 93 = .ok (.putfield 45, 3) := by decide +kernel
theorem dX5_takePlain_96 : decode cX5_takePlain 96 = .ok (.aload_n 0, 1) := by decide +kernel
theorem dX5_takePlain_97 : decode cX5_takePlain 97 = .ok (.iload_n 1, 1) := by decide +kernel
theorem dX5_takePlain_98 : decode cX5_takePlain 98 = .ok (.putfield 48, 3) := by decide +kernel
theorem dX5_takePlain_101 : decode cX5_takePlain 101 = .ok (.iload_n 1, 1) := by decide +kernel
theorem dX5_takePlain_102 : decode cX5_takePlain 102 = .ok (.ireturn, 1) := by decide +kernel
theorem dX5_takeOutStuffed_0 : decode cX5_takeOutStuffed 0 = .ok (.aload_n 0, 1) := by decide +kernel
theorem dX5_takeOutStuffed_1 : decode cX5_takeOutStuffed 1 = .ok (.getfield 45, 3) := by decide +kernel
theorem dX5_takeOutStuffed_4 : decode cX5_takeOutStuffed 4 = .ok (.iconst 5, 1) := by decide +kernel
theorem dX5_takeOutStuffed_5 : decode cX5_takeOutStuffed 5 = .ok (.if_icmp .ge 5, 3) := by decide +kernel
theorem dX5_takeOutStuffed_8 : decode cX5_takeOutStuffed 8 = .ok (.iconst 1, 1) := by decide +kernel
theorem dX5_takeOutStuffed_9 : decode cX5_takeOutStuffed 9 = .ok (.ireturn, 1) := by decide +kernel
theorem dX5_takeOutStuffed_10 : decode cX5_takeOutStuffed 10 = .ok (.aload_n 0, 1) := by decide +kernel
theorem dX5_takeOutStuffed_11 : decode cX5_takeOutStuffed 11 = .ok (.getfield 9, 3) := by decide +kernel
theorem dX5_takeOutStuffed_14 : decode cX5_takeOutStuffed 14 = .ok (.aload_n 0, 1) := by decide +kernel
theorem dX5_takeOutStuffed_15 : decode cX5_takeOutStuffed 15 = .ok (.getfield 15, 3) := by decide +kernel
theorem dX5_takeOutStuffed_18 : decode cX5_takeOutStuffed 18 = .ok (.invokevirtual 85, 3) := by decide +kernel
theorem dX5_takeOutStuffed_21 : decode cX5_takeOutStuffed 21 = .ok (.ifCond .ne 10, 3) := by decide +kernel
theorem dX5_takeOutStuffed_24 : decode cX5_takeOutStuffed 24 = .ok (.aload_n 0, 1) := by decide +kernel
theorem dX5_takeOutStuffed_25 : decode cX5_takeOutStuffed 25 = .ok (.bipush 6, 2) := by decide +kernel
theorem dX5_takeOutStuffed_27 : decode cX5_takeOutStuffed 27 = .ok (.invokevirtual 90, 3) := by decide +kernel
theorem dX5_takeOutStuffed_30 : decode cX5_takeOutStuffed 30 = .ok (.ireturn, 1) := by decide +kernel
theorem dX5_takeOutStuffed_31 : decode cX5_takeOutStuffed 31 = .ok (.aload_n 0, 1) := by decide +kernel
theorem dX5_takeOutStuffed_32 : decode cX5_takeOutStuffed 32 = .ok (.getfield 9, 3) := by decide +kernel
theorem dX5_takeOutStuffed_35 : decode cX5_takeOutStuffed 35 = .ok (.getfield 93, 3) := by decide +kernel
theorem dX5_takeOutStuffed_38 : decode cX5_takeOutStuffed 38 = .ok (.aload_n 0, 1) := by decide +kernel
theorem dX5_takeOutStuffed_39 : decode cX5_takeOutStuffed 39 = .ok (.getfield 15, 3) := by decide +kernel
theorem dX5_takeOutStuffed_42 : decode cX5_takeOutStuffed 42 = .ok (.iaload, 1) := by decide +kernel
theorem dX5_takeOutStuffed_43 : decode cX5_takeOutStuffed 43 = .ok (.aload_n 0, 1) := by decide +kernel
theorem dX5_takeOutStuffed_44 : decode cX5_takeOutStuffed 44 = .ok (.getfield 48, 3) := by decide +kernel
theorem dX5_takeOutStuffed_47 : decode cX5_takeOutStuffed 47 = .ok (.if_icmp .ne 9, 3) := by decide +kernel
theorem dX5_takeOutStuffed_50 : decode cX5_takeOutStuffed 50 = .ok (.aload_n 0, 1) := by decide +kernel
theorem dX5_takeOutStuffed_51 : decode cX5_takeOutStuffed 51 = .ok (.iconst 2, 1) := by decide +kernel
theorem dX5_takeOutStuffed_52 : decode cX5_takeOutStuffed 52 = .ok (.invokevirtual 90, 3) := by decide +kernel
theorem dX5_takeOutStuffed_55 : decode cX5_takeOutStuffed 55 = .ok (.ireturn, 1) := by decide +kernel
theorem dX5_takeOutStuffed_56 : decode cX5_takeOutStuffed 56 = .ok (.aload_n 0, 1) := by decide +kernel
theorem dX5_takeOutStuffed_57 : decode cX5_takeOutStuffed 57 = .ok (.iconst 1, 1) := by decide +kernel
theorem dX5_takeOutStuffed_58 : decode cX5_takeOutStuffed 58 = .ok (.aload_n 0, 1) := by decide +kernel
theorem dX5_takeOutStuffed_59 : decode cX5_takeOutStuffed 59 = .ok (.getfield 48, 3) := by decide +kernel
theorem dX5_takeOutStuffed_62 : decode cX5_takeOutStuffed 62 = .ok (.isub, 1) := by decide +kernel
theorem dX5_takeOutStuffed_63 : decode cX5_takeOutStuffed 63 = .ok (.putfield 48, 3) := by decide +kernel
theorem dX5_takeOutStuffed_66 : decode cX5_takeOutStuffed 66 = .ok (.aload_n 0, 1) := by decide +kernel
theorem dX5_takeOutStuffed_67 : decode cX5_takeOutStuffed 67 = .ok (.iconst 1, 1) := by decide +kernel
theorem dX5_takeOutStuffed_68 : decode cX5_takeOutStuffed 68 = .ok (.putfield 45, 3) := by decide +kernel
theorem dX5_takeOutStuffed_71 : decode cX5_takeOutStuffed 71 = .ok (.aload_n 0, 1) := by decide +kernel
theorem dX5_takeOutStuffed_72 : decode cX5_takeOutStuffed 72 = .ok (.dup, 1) := by decide +kernel
theorem dX5_takeOutStuffed_73 : decode cX5_takeOutStuffed 73 = .ok (.getfield 25, 3) := by decide +kernel
theorem dX5_takeOutStuffed_76 : decode cX5_takeOutStuffed 76 = .ok (.iconst 1, 1) := by decide +kernel
theorem dX5_takeOutStuffed_77 : decode cX5_takeOutStuffed 77 = .ok (.iadd, 1) := by decide +kernel
theorem dX5_takeOutStuffed_78 : decode cX5_takeOutStuffed 78 = .ok (.putfield 25, 3) := by decide +kernel
theorem dX5_takeOutStuffed_81 : decode cX5_takeOutStuffed 81 = .ok (.aload_n 0, 1) := by decide +kernel
theorem dX5_takeOutStuffed_82 : decode cX5_takeOutStuffed 82 = .ok (.dup, 1) := by decide +kernel
theorem dX5_takeOutStuffed_83 : decode cX5_takeOutStuffed 83 = .ok (.getfield 15, 3) := by decide +kernel
theorem dX5_takeOutStuffed_86 : decode cX5_takeOutStuffed 86 = .ok (.iconst 1, 1) := by decide +kernel
theorem dX5_takeOutStuffed_87 : decode cX5_takeOutStuffed 87 = .ok (.iadd, 1) := by decide +kernel
theorem dX5_takeOutStuffed_88 : decode cX5_takeOutStuffed 88 = .ok (.putfield 15, 3) := by decide +kernel
theorem dX5_takeOutStuffed_91 : decode cX5_takeOutStuffed 91 = .ok (.iconst 1, 1) := by decide +kernel
theorem dX5_takeOutStuffed_92 : decode cX5_takeOutStuffed 92 = .ok (.ireturn, 1) := by decide +kernel
theorem dX5_faultHere_0 : decode cX5_faultHere 0 = .ok (.aload_n 0, 1) := by decide +kernel
theorem dX5_faultHere_1 : decode cX5_faultHere 1 = .ok (.iload_n 1, 1) := by decide +kernel
theorem dX5_faultHere_2 : decode cX5_faultHere 2 = .ok (.putfield 35, 3) := by decide +kernel
theorem dX5_faultHere_5 : decode cX5_faultHere 5 = .ok (.iconst 0, 1) := by decide +kernel
theorem dX5_faultHere_6 : decode cX5_faultHere 6 = .ok (.ireturn, 1) := by decide +kernel
theorem dX5_faultAtLatest_0 : decode cX5_faultAtLatest 0 = .ok (.aload_n 0, 1) := by decide +kernel
theorem dX5_faultAtLatest_1 : decode cX5_faultAtLatest 1 = .ok (.dup, 1) := by decide +kernel
theorem dX5_faultAtLatest_2 : decode cX5_faultAtLatest 2 = .ok (.getfield 15, 3) := by decide +kernel
theorem dX5_faultAtLatest_5 : decode cX5_faultAtLatest 5 = .ok (.iconst 1, 1) := by decide +kernel
theorem dX5_faultAtLatest_6 : decode cX5_faultAtLatest 6 = .ok (.isub, 1) := by decide +kernel
theorem dX5_faultAtLatest_7 : decode cX5_faultAtLatest 7 = .ok (.putfield 15, 3) := by decide +kernel
theorem dX5_faultAtLatest_10 : decode cX5_faultAtLatest 10 = .ok (.aload_n 0, 1) := by decide +kernel
theorem dX5_faultAtLatest_11 : decode cX5_faultAtLatest 11 = .ok (.iload_n 1, 1) := by decide +kernel
theorem dX5_faultAtLatest_12 : decode cX5_faultAtLatest 12 = .ok (.invokevirtual 90, 3) := by decide +kernel
theorem dX5_faultAtLatest_15 : decode cX5_faultAtLatest 15 = .ok (.ireturn, 1) := by decide +kernel
theorem dX6_init_0 : decode cX6_init 0 = .ok (.aload_n 0, 1) := by decide +kernel
theorem dX6_init_1 : decode cX6_init 1 = .ok (.invokespecial 3, 3) := by decide +kernel
theorem dX6_init_4 : decode cX6_init 4 = .ok (.aload_n 0, 1) := by decide +kernel
theorem dX6_init_5 : decode cX6_init 5 = .ok (.bipush 10, 2) := by decide +kernel
theorem dX6_init_7 : decode cX6_init 7 = .ok (.anewarray 9, 3) := by decide +kernel
theorem dX6_init_10 : decode cX6_init 10 = .ok (.putfield 11, 3) := by decide +kernel
theorem dX6_init_13 : decode cX6_init 13 = .ok (.aload_n 0, 1) := by decide +kernel
theorem dX6_init_14 : decode cX6_init 14 = .ok (.bipush 24, 2) := by decide +kernel
theorem dX6_init_16 : decode cX6_init 16 = .ok (.anewarray 17, 3) := by decide +kernel
theorem dX6_init_19 : decode cX6_init 19 = .ok (.putfield 19, 3) := by decide +kernel
theorem dX6_init_22 : decode cX6_init 22 = .ok (.return_, 1) := by decide +kernel
theorem dX6_hasNode_0 : decode cX6_hasNode 0 = .ok (.iload_n 1, 1) := by decide +kernel
theorem dX6_hasNode_1 : decode cX6_hasNode 1 = .ok (.ifCond .lt 15, 3) := by decide +kernel
theorem dX6_hasNode_4 : decode cX6_hasNode 4 = .ok (.iload_n 1, 1) := by decide +kernel
theorem dX6_hasNode_5 : decode cX6_hasNode 5 = .ok (.aload_n 0, 1) := by decide +kernel
theorem dX6_hasNode_6 : decode cX6_hasNode 6 = .ok (.getfield 23, 3) := by decide +kernel
theorem dX6_hasNode_9 : decode cX6_hasNode 9 = .ok (.if_icmp .ge 7, 3) := by decide +kernel
theorem dX6_hasNode_12 : decode cX6_hasNode 12 = .ok (.iconst 1, 1) := by decide +kernel
theorem dX6_hasNode_13 : decode cX6_hasNode 13 = .ok (.goto 4, 3) := by decide +kernel
theorem dX6_hasNode_16 : decode cX6_hasNode 16 = .ok (.iconst 0, 1) := by decide +kernel
theorem dX6_hasNode_17 : decode cX6_hasNode 17 = .ok (.ireturn, 1) := by decide +kernel
theorem dX6_hasWord_0 : decode cX6_hasWord 0 = .ok (.iload_n 1, 1) := by decide +kernel
theorem dX6_hasWord_1 : decode cX6_hasWord 1 = .ok (.ifCond .lt 15, 3) := by decide +kernel
theorem dX6_hasWord_4 : decode cX6_hasWord 4 = .ok (.iload_n 1, 1) := by decide +kernel
theorem dX6_hasWord_5 : decode cX6_hasWord 5 = .ok (.aload_n 0, 1) := by decide +kernel
theorem dX6_hasWord_6 : decode cX6_hasWord 6 = .ok (.getfield 27, 3) := by decide +kernel
theorem dX6_hasWord_9 : decode cX6_hasWord 9 = .ok (.if_icmp .ge 7, 3) := by decide +kernel
theorem dX6_hasWord_12 : decode cX6_hasWord 12 = .ok (.iconst 1, 1) := by decide +kernel
theorem dX6_hasWord_13 : decode cX6_hasWord 13 = .ok (.goto 4, 3) := by decide +kernel
theorem dX6_hasWord_16 : decode cX6_hasWord 16 = .ok (.iconst 0, 1) := by decide +kernel
theorem dX6_hasWord_17 : decode cX6_hasWord 17 = .ok (.ireturn, 1) := by decide +kernel
theorem dX6_addNode_0 : decode cX6_addNode 0 = .ok (.aload_n 0, 1) := by decide +kernel
theorem dX6_addNode_1 : decode cX6_addNode 1 = .ok (.getfield 23, 3) := by decide +kernel
theorem dX6_addNode_4 : decode cX6_addNode 4 = .ok (.bipush 10, 2) := by decide +kernel
theorem dX6_addNode_6 : decode cX6_addNode 6 = .ok (.if_icmp .ge 33, 3) := by decide +kernel
theorem dX6_addNode_9 : decode cX6_addNode 9 = .ok (.aload_n 0, 1) := by decide +kernel
theorem dX6_addNode_10 : decode cX6_addNode 10 = .ok (.getfield 11, 3) := by decide +kernel
theorem dX6_addNode_13 : decode cX6_addNode 13 = .ok (.aload_n 0, 1) := by decide +kernel
theorem dX6_addNode_14 : decode cX6_addNode 14 = .ok (.getfield 23, 3) := by decide +kernel
theorem dX6_addNode_17 : decode cX6_addNode 17 = .ok (.new 9, 3) := by decide +kernel
theorem dX6_addNode_20 : decode cX6_addNode 20 = .ok (.dup, 1) := by decide +kernel
theorem dX6_addNode_21 : decode cX6_addNode 21 = .ok (.aload_n 0, 1) := by decide +kernel
theorem dX6_addNode_22 : decode cX6_addNode 22 = .ok (.getfield 23, 3) := by decide +kernel
theorem dX6_addNode_25 : decode cX6_addNode 25 = .ok (.invokespecial 30, 3) := by decide +kernel
theorem dX6_addNode_28 : decode cX6_addNode 28 = .ok (.aastore, 1) := by decide +kernel
theorem dX6_addNode_29 : decode cX6_addNode 29 = .ok (.aload_n 0, 1) := by decide +kernel
theorem dX6_addNode_30 : decode cX6_addNode 30 = .ok (.dup, 1) := by decide +kernel
theorem dX6_addNode_31 : decode cX6_addNode 31 = .ok (.getfield 23, 3) := by decide +kernel
theorem dX6_addNode_34 : decode cX6_addNode 34 = .ok (.iconst 1, 1) := by decide +kernel
theorem dX6_addNode_35 : decode cX6_addNode 35 = .ok (.iadd, 1) := by decide +kernel
theorem dX6_addNode_36 : decode cX6_addNode 36 = .ok (.putfield 23, 3) := by decide +kernel
theorem dX6_addNode_39 : decode cX6_addNode 39 = .ok (.aload_n 0, 1) := by decide +kernel
theorem dX6_addNode_40 : decode cX6_addNode 40 = .ok (.getfield 23, 3) := by decide +kernel
theorem dX6_addNode_43 : decode cX6_addNode 43 = .ok (.iconst 1, 1) := by decide +kernel
theorem dX6_addNode_44 : decode cX6_addNode 44 = .ok (.isub, 1) := by decide +kernel
theorem dX6_addNode_45 : decode cX6_addNode 45 = .ok (.ireturn, 1) := by decide +kernel
theorem dX6_addWord_0 : decode cX6_addWord 0 = .ok (.aload_n 0, 1) := by decide +kernel
theorem dX6_addWord_1 : decode cX6_addWord 1 = .ok (.getfield 27, 3) := by decide +kernel
theorem dX6_addWord_4 : decode cX6_addWord 4 = .ok (.bipush 24, 2) := by decide +kernel
theorem dX6_addWord_6 : decode cX6_addWord 6 = .ok (.if_icmp .ge 23, 3) := by decide +kernel
theorem dX6_addWord_9 : decode cX6_addWord 9 = .ok (.aload_n 0, 1) := by decide +kernel
theorem dX6_addWord_10 : decode cX6_addWord 10 = .ok (.getfield 19, 3) := by decide +kernel
theorem dX6_addWord_13 : decode cX6_addWord 13 = .ok (.aload_n 0, 1) := by decide +kernel
theorem dX6_addWord_14 : decode cX6_addWord 14 = .ok (.getfield 27, 3) := by decide +kernel
theorem dX6_addWord_17 : decode cX6_addWord 17 = .ok (.aload_n 1, 1) := by decide +kernel
theorem dX6_addWord_18 : decode cX6_addWord 18 = .ok (.aastore, 1) := by decide +kernel
theorem dX6_addWord_19 : decode cX6_addWord 19 = .ok (.aload_n 0, 1) := by decide +kernel
theorem dX6_addWord_20 : decode cX6_addWord 20 = .ok (.dup, 1) := by decide +kernel
theorem dX6_addWord_21 : decode cX6_addWord 21 = .ok (.getfield 27, 3) := by decide +kernel
theorem dX6_addWord_24 : decode cX6_addWord 24 = .ok (.iconst 1, 1) := by decide +kernel
theorem dX6_addWord_25 : decode cX6_addWord 25 = .ok (.iadd, 1) := by decide +kernel
theorem dX6_addWord_26 : decode cX6_addWord 26 = .ok (.putfield 27, 3) := by decide +kernel
theorem dX6_addWord_29 : decode cX6_addWord 29 = .ok (.return_, 1) := by decide +kernel
theorem dX6_holderOf_0 : decode cX6_holderOf 0 = .ok (.iconst 0, 1) := by decide +kernel
theorem dX6_holderOf_1 : decode cX6_holderOf 1 = .ok (.istore_n 2, 1) := by decide +kernel
theorem dX6_holderOf_2 : decode cX6_holderOf 2 = .ok (.iload_n 2, 1) := by decide +kernel
theorem dX6_holderOf_3 : decode cX6_holderOf 3 = .ok (.aload_n 0, 1) := by decide +kernel
theorem dX6_holderOf_4 : decode cX6_holderOf 4 = .ok (.getfield 27, 3) := by decide +kernel
theorem dX6_holderOf_7 : decode cX6_holderOf 7 = .ok (.if_icmp .ge 29, 3) := by decide +kernel
theorem dX6_holderOf_10 : decode cX6_holderOf 10 = .ok (.aload_n 0, 1) := by decide +kernel
theorem dX6_holderOf_11 : decode cX6_holderOf 11 = .ok (.getfield 19, 3) := by decide +kernel
theorem dX6_holderOf_14 : decode cX6_holderOf 14 = .ok (.iload_n 2, 1) := by decide +kernel
theorem dX6_holderOf_15 : decode cX6_holderOf 15 = .ok (.aaload, 1) := by decide +kernel
theorem dX6_holderOf_16 : decode cX6_holderOf 16 = .ok (.getfield 33, 3) := by decide +kernel
theorem dX6_holderOf_19 : decode cX6_holderOf 19 = .ok (.iload_n 1, 1) := by decide +kernel
theorem dX6_holderOf_20 : decode cX6_holderOf 20 = .ok (.if_icmp .ne 10, 3) := by decide +kernel
theorem dX6_holderOf_23 : decode cX6_holderOf 23 = .ok (.aload_n 0, 1) := by decide +kernel
theorem dX6_holderOf_24 : decode cX6_holderOf 24 = .ok (.getfield 19, 3) := by decide +kernel
theorem dX6_holderOf_27 : decode cX6_holderOf 27 = .ok (.iload_n 2, 1) := by decide +kernel
theorem dX6_holderOf_28 : decode cX6_holderOf 28 = .ok (.aaload, 1) := by decide +kernel
theorem dX6_holderOf_29 : decode cX6_holderOf 29 = .ok (.areturn, 1) := by decide +kernel
theorem dX6_holderOf_30 : decode cX6_holderOf 30 = .ok (.iinc 2 1, 3) := by decide +kernel
theorem dX6_holderOf_33 : decode cX6_holderOf 33 = .ok (.goto (-31), 3) := by decide +kernel
theorem dX6_holderOf_36 : decode cX6_holderOf 36 = .ok (.aconst_null, 1) := by decide +kernel
theorem dX6_holderOf_37 : decode cX6_holderOf 37 = .ok (.areturn, 1) := by decide +kernel
theorem dX7_init_0 : decode cX7_init 0 = .ok (.aload_n 0, 1) := by decide +kernel
theorem dX7_init_1 : decode cX7_init 1 = .ok (.invokespecial 3, 3) := by decide +kernel
theorem dX7_init_4 : decode cX7_init 4 = .ok (.aload_n 0, 1) := by decide +kernel
theorem dX7_init_5 : decode cX7_init 5 = .ok (.bipush 8, 2) := by decide +kernel
theorem dX7_init_7 : decode cX7_init 7 = .ok (.newarray .byte, 2) := by decide +kernel
theorem dX7_init_9 : decode cX7_init 9 = .ok (.putfield 9, 3) := by decide +kernel
theorem dX7_init_12 : decode cX7_init 12 = .ok (.return_, 1) := by decide +kernel
theorem dX7_take_0 : decode cX7_take 0 = .ok (.aload_n 0, 1) := by decide +kernel
theorem dX7_take_1 : decode cX7_take 1 = .ok (.iconst 1, 1) := by decide +kernel
theorem dX7_take_2 : decode cX7_take 2 = .ok (.putfield 15, 3) := by decide +kernel
theorem dX7_take_5 : decode cX7_take 5 = .ok (.aload_n 0, 1) := by decide +kernel
theorem dX7_take_6 : decode cX7_take 6 = .ok (.iload_n 1, 1) := by decide +kernel
theorem dX7_take_7 : decode cX7_take 7 = .ok (.bipush 8, 2) := by decide +kernel
theorem dX7_take_9 : decode cX7_take 9 = .ok (.invokestatic 19, 3) := by decide +kernel
theorem dX7_take_12 : decode cX7_take 12 = .ok (.putfield 25, 3) := by decide +kernel
theorem dX7_take_15 : decode cX7_take 15 = .ok (.iconst 0, 1) := by decide +kernel
theorem dX7_take_16 : decode cX7_take 16 = .ok (.istore 4, 2) := by decide +kernel
theorem dX7_take_18 : decode cX7_take 18 = .ok (.iload 4, 2) := by decide +kernel
theorem dX7_take_20 : decode cX7_take 20 = .ok (.aload_n 0, 1) := by decide +kernel
theorem dX7_take_21 : decode cX7_take 21 = .ok (.getfield 25, 3) := by decide +kernel
theorem dX7_take_24 : decode cX7_take 24 = .ok (.if_icmp .ge 32, 3) := by decide +kernel
theorem dX7_take_27 : decode cX7_take 27 = .ok (.aload_n 0, 1) := by decide +kernel
theorem dX7_take_28 : decode cX7_take 28 = .ok (.getfield 9, 3) := by decide +kernel
theorem dX7_take_31 : decode cX7_take 31 = .ok (.iload 4, 2) := by decide +kernel
theorem dX7_take_33 : decode cX7_take 33 = .ok (.lload_n 2, 1) := by decide +kernel
theorem dX7_take_34 : decode cX7_take 34 = .ok (.bipush 8, 2) := by decide +kernel
theorem dX7_take_36 : decode cX7_take 36 = .ok (.aload_n 0, 1) := by decide +kernel
theorem dX7_take_37 : decode cX7_take 37 = .ok (.getfield 25, 3) := by decide +kernel
theorem dX7_take_40 : decode cX7_take 40 = .ok (.iconst 1, 1) := by decide +kernel
theorem dX7_take_41 : decode cX7_take 41 = .ok (.isub, 1) := by decide +kernel
theorem dX7_take_42 : decode cX7_take 42 = .ok (.iload 4, 2) := by decide +kernel
theorem dX7_take_44 : decode cX7_take 44 = .ok (.isub, 1) := by decide +kernel
theorem dX7_take_45 : decode cX7_take 45 = .ok (.imul, 1) := by decide +kernel
theorem dX7_take_46 : decode cX7_take 46 = .ok (.lushr, 1) := by decide +kernel
theorem dX7_take_47 : decode cX7_take 47 = .ok (.l2i, 1) := by decide +kernel
theorem dX7_take_48 : decode cX7_take 48 = .ok (.i2b, 1) := by decide +kernel
theorem dX7_take_49 : decode cX7_take 49 = .ok (.bastore, 1) := by decide +kernel
theorem dX7_take_50 : decode cX7_take 50 = .ok (.iinc 4 1, 3) := by decide +kernel
theorem dX7_take_53 : decode cX7_take 53 = .ok (.goto (-35), 3) := by decide +kernel
theorem dX7_take_56 : decode cX7_take 56 = .ok (.return_, 1) := by decide +kernel
theorem dX7_hasStretch_0 : decode cX7_hasStretch 0 = .ok (.iload_n 1, 1) := by decide +kernel
theorem dX7_hasStretch_1 : decode cX7_hasStretch 1 = .ok (.ifCond .lt 17, 3) := by decide +kernel
theorem dX7_hasStretch_4 : decode cX7_hasStretch 4 = .ok (.iload_n 2, 1) := by decide +kernel
theorem dX7_hasStretch_5 : decode cX7_hasStretch 5 = .ok (.aload_n 0, 1) := by decide +kernel
theorem dX7_hasStretch_6 : decode cX7_hasStretch 6 = .ok (.getfield 25, 3) := by decide +kernel
theorem dX7_hasStretch_9 : decode cX7_hasStretch 9 = .ok (.iload_n 1, 1) := by decide +kernel
theorem dX7_hasStretch_10 : decode cX7_hasStretch 10 = .ok (.isub, 1) := by decide +kernel
theorem dX7_hasStretch_11 : decode cX7_hasStretch 11 = .ok (.if_icmp .gt 7, 3) := by decide +kernel
theorem dX7_hasStretch_14 : decode cX7_hasStretch 14 = .ok (.iconst 1, 1) := by decide +kernel
theorem dX7_hasStretch_15 : decode cX7_hasStretch 15 = .ok (.goto 4, 3) := by decide +kernel
theorem dX7_hasStretch_18 : decode cX7_hasStretch 18 = .ok (.iconst 0, 1) := by decide +kernel
theorem dX7_hasStretch_19 : decode cX7_hasStretch 19 = .ok (.ireturn, 1) := by decide +kernel
theorem dX8_init_0 : decode cX8_init 0 = .ok (.aload_n 0, 1) := by decide +kernel
theorem dX8_init_1 : decode cX8_init 1 = .ok (.invokespecial 3, 3) := by decide +kernel
theorem dX8_init_4 : decode cX8_init 4 = .ok (.aload_n 0, 1) := by decide +kernel
theorem dX8_init_5 : decode cX8_init 5 = .ok (.sipush 2000, 3) := by decide +kernel
theorem dX8_init_8 : decode cX8_init 8 = .ok (.newarray .int, 2) := by decide +kernel
theorem dX8_init_10 : decode cX8_init 10 = .ok (.putfield 9, 3) := by decide +kernel
theorem dX8_init_13 : decode cX8_init 13 = .ok (.return_, 1) := by decide +kernel
theorem dX8_hasRoom_0 : decode cX8_hasRoom 0 = .ok (.iload_n 1, 1) := by decide +kernel
theorem dX8_hasRoom_1 : decode cX8_hasRoom 1 = .ok (.sipush 2000, 3) := by decide +kernel
theorem dX8_hasRoom_4 : decode cX8_hasRoom 4 = .ok (.aload_n 0, 1) := by decide +kernel
theorem dX8_hasRoom_5 : decode cX8_hasRoom 5 = .ok (.getfield 15, 3) := by decide +kernel
theorem dX8_hasRoom_8 : decode cX8_hasRoom 8 = .ok (.isub, 1) := by decide +kernel
theorem dX8_hasRoom_9 : decode cX8_hasRoom 9 = .ok (.if_icmp .gt 7, 3) := by decide +kernel
theorem dX8_hasRoom_12 : decode cX8_hasRoom 12 = .ok (.iconst 1, 1) := by decide +kernel
theorem dX8_hasRoom_13 : decode cX8_hasRoom 13 = .ok (.goto 4, 3) := by decide +kernel
theorem dX8_hasRoom_16 : decode cX8_hasRoom 16 = .ok (.iconst 0, 1) := by decide +kernel
theorem dX8_hasRoom_17 : decode cX8_hasRoom 17 = .ok (.ireturn, 1) := by decide +kernel
theorem dX8_hasBit_0 : decode cX8_hasBit 0 = .ok (.iload_n 1, 1) := by decide +kernel
theorem dX8_hasBit_1 : decode cX8_hasBit 1 = .ok (.ifCond .lt 15, 3) := by decide +kernel
theorem dX8_hasBit_4 : decode cX8_hasBit 4 = .ok (.iload_n 1, 1) := by decide +kernel
theorem dX8_hasBit_5 : decode cX8_hasBit 5 = .ok (.aload_n 0, 1) := by decide +kernel
theorem dX8_hasBit_6 : decode cX8_hasBit 6 = .ok (.getfield 15, 3) := by decide +kernel
theorem dX8_hasBit_9 : decode cX8_hasBit 9 = .ok (.if_icmp .ge 7, 3) := by decide +kernel
theorem dX8_hasBit_12 : decode cX8_hasBit 12 = .ok (.iconst 1, 1) := by decide +kernel
theorem dX8_hasBit_13 : decode cX8_hasBit 13 = .ok (.goto 4, 3) := by decide +kernel
theorem dX8_hasBit_16 : decode cX8_hasBit 16 = .ok (.iconst 0, 1) := by decide +kernel
theorem dX8_hasBit_17 : decode cX8_hasBit 17 = .ok (.ireturn, 1) := by decide +kernel
theorem dX8_append_0 : decode cX8_append 0 = .ok (.aload_n 0, 1) := by decide +kernel
theorem dX8_append_1 : decode cX8_append 1 = .ok (.getfield 15, 3) := by decide +kernel
theorem dX8_append_4 : decode cX8_append 4 = .ok (.sipush 2000, 3) := by decide +kernel
theorem dX8_append_7 : decode cX8_append 7 = .ok (.if_icmp .ge 23, 3) := by decide +kernel
theorem dX8_append_10 : decode cX8_append 10 = .ok (.aload_n 0, 1) := by decide +kernel
theorem dX8_append_11 : decode cX8_append 11 = .ok (.getfield 9, 3) := by decide +kernel
theorem dX8_append_14 : decode cX8_append 14 = .ok (.aload_n 0, 1) := by decide +kernel
theorem dX8_append_15 : decode cX8_append 15 = .ok (.getfield 15, 3) := by decide +kernel
theorem dX8_append_18 : decode cX8_append 18 = .ok (.iload_n 1, 1) := by decide +kernel
theorem dX8_append_19 : decode cX8_append 19 = .ok (.iastore, 1) := by decide +kernel
theorem dX8_append_20 : decode cX8_append 20 = .ok (.aload_n 0, 1) := by decide +kernel
theorem dX8_append_21 : decode cX8_append 21 = .ok (.dup, 1) := by decide +kernel
theorem dX8_append_22 : decode cX8_append 22 = .ok (.getfield 15, 3) := by decide +kernel
theorem dX8_append_25 : decode cX8_append 25 = .ok (.iconst 1, 1) := by decide +kernel
theorem dX8_append_26 : decode cX8_append 26 = .ok (.iadd, 1) := by decide +kernel
theorem dX8_append_27 : decode cX8_append 27 = .ok (.putfield 15, 3) := by decide +kernel
theorem dX8_append_30 : decode cX8_append 30 = .ok (.return_, 1) := by decide +kernel
theorem dX9_init_0 : decode cX9_init 0 = .ok (.aload_n 0, 1) := by decide +kernel
theorem dX9_init_1 : decode cX9_init 1 = .ok (.invokespecial 3, 3) := by decide +kernel
theorem dX9_init_4 : decode cX9_init 4 = .ok (.aload_n 0, 1) := by decide +kernel
theorem dX9_init_5 : decode cX9_init 5 = .ok (.new 9, 3) := by decide +kernel
theorem dX9_init_8 : decode cX9_init 8 = .ok (.dup, 1) := by decide +kernel
theorem dX9_init_9 : decode cX9_init 9 = .ok (.invokespecial 11, 3) := by decide +kernel
theorem dX9_init_12 : decode cX9_init 12 = .ok (.putfield 12, 3) := by decide +kernel
theorem dX9_init_15 : decode cX9_init 15 = .ok (.aload_n 0, 1) := by decide +kernel
theorem dX9_init_16 : decode cX9_init 16 = .ok (.new 18, 3) := by decide +kernel
theorem dX9_init_19 : decode cX9_init 19 = .ok (.dup, 1) := by decide +kernel
theorem dX9_init_20 : decode cX9_init 20 = .ok (.invokespecial 20, 3) := by decide +kernel
theorem dX9_init_23 : decode cX9_init 23 = .ok (.putfield 21, 3) := by decide +kernel
theorem dX9_init_26 : decode cX9_init 26 = .ok (.aload_n 0, 1) := by decide +kernel
theorem dX9_init_27 : decode cX9_init 27 = .ok (.aload_n 1, 1) := by decide +kernel
theorem dX9_init_28 : decode cX9_init 28 = .ok (.putfield 25, 3) := by decide +kernel
theorem dX9_init_31 : decode cX9_init 31 = .ok (.aload_n 0, 1) := by decide +kernel
theorem dX9_init_32 : decode cX9_init 32 = .ok (.aload_n 2, 1) := by decide +kernel
theorem dX9_init_33 : decode cX9_init 33 = .ok (.putfield 29, 3) := by decide +kernel
theorem dX9_init_36 : decode cX9_init 36 = .ok (.return_, 1) := by decide +kernel
theorem dX9_answer_0 : decode cX9_answer 0 = .ok (.iload_n 1, 1) := by decide +kernel
theorem dX9_answer_1 : decode cX9_answer 1 = .ok (.tableswitch 109 0 6 #[43, 48, 53, 58, 77, 93, 101], 43) := by decide +kernel
theorem dX9_answer_44 : decode cX9_answer 44 = .ok (.aload_n 0, 1) := by decide +kernel
theorem dX9_answer_45 : decode cX9_answer 45 = .ok (.getfield 33, 3) := by decide +kernel
theorem dX9_answer_48 : decode cX9_answer 48 = .ok (.ireturn, 1) := by decide +kernel
theorem dX9_answer_49 : decode cX9_answer 49 = .ok (.aload_n 0, 1) := by decide +kernel
theorem dX9_answer_50 : decode cX9_answer 50 = .ok (.getfield 37, 3) := by decide +kernel
theorem dX9_answer_53 : decode cX9_answer 53 = .ok (.ireturn, 1) := by decide +kernel
theorem dX9_answer_54 : decode cX9_answer 54 = .ok (.aload_n 0, 1) := by decide +kernel
theorem dX9_answer_55 : decode cX9_answer 55 = .ok (.getfield 40, 3) := by decide +kernel
theorem dX9_answer_58 : decode cX9_answer 58 = .ok (.ireturn, 1) := by decide +kernel
theorem dX9_answer_59 : decode cX9_answer 59 = .ok (.aload_n 0, 1) := by decide +kernel
theorem dX9_answer_60 : decode cX9_answer 60 = .ok (.getfield 43, 3) := by decide +kernel
theorem dX9_answer_63 : decode cX9_answer 63 = .ok (.ifnonnull 7, 3) := by decide +kernel
theorem dX9_answer_66 : decode cX9_answer 66 = .ok (.iconst (-1), 1) := by decide +kernel
theorem dX9_answer_67 : decode cX9_answer 67 = .ok (.goto 10, 3) := by decide +kernel
theorem dX9_answer_70 : decode cX9_answer 70 = .ok (.aload_n 0, 1) := by decide +kernel
theorem dX9_answer_71 : decode cX9_answer 71 = .ok (.getfield 43, 3) := by decide +kernel
theorem dX9_answer_74 : decode cX9_answer 74 = .ok (.getfield 47, 3) := by decide +kernel
theorem dX9_answer_77 : decode cX9_answer 77 = .ok (.ireturn, 1) := by decide +kernel
theorem dX9_answer_78 : decode cX9_answer 78 = .ok (.aload_n 0, 1) := by decide +kernel
theorem dX9_answer_79 : decode cX9_answer 79 = .ok (.getfield 43, 3) := by decide +kernel
theorem dX9_answer_82 : decode cX9_answer 82 = .ok (.ifnonnull 10, 3) := by decide +kernel
theorem dX9_answer_85 : decode cX9_answer 85 = .ok (.aload_n 0, 1) := by decide +kernel
theorem dX9_answer_86 : decode cX9_answer 86 = .ok (.getfield 52, 3) := by decide +kernel
theorem dX9_answer_89 : decode cX9_answer 89 = .ok (.goto 4, 3) := by decide +kernel
theorem dX9_answer_92 : decode cX9_answer 92 = .ok (.iconst (-1), 1) := by decide +kernel
theorem dX9_answer_93 : decode cX9_answer 93 = .ok (.ireturn, 1) := by decide +kernel
theorem dX9_answer_94 : decode cX9_answer 94 = .ok (.aload_n 0, 1) := by decide +kernel
theorem dX9_answer_95 : decode cX9_answer 95 = .ok (.getfield 25, 3) := by decide +kernel
theorem dX9_answer_98 : decode cX9_answer 98 = .ok (.getfield 55, 3) := by decide +kernel
theorem dX9_answer_101 : decode cX9_answer 101 = .ok (.ireturn, 1) := by decide +kernel
theorem dX9_answer_102 : decode cX9_answer 102 = .ok (.aload_n 0, 1) := by decide +kernel
theorem dX9_answer_103 : decode cX9_answer 103 = .ok (.getfield 25, 3) := by decide +kernel
theorem dX9_answer_106 : decode cX9_answer 106 = .ok (.getfield 60, 3) := by decide +kernel
theorem dX9_answer_109 : decode cX9_answer 109 = .ok (.ireturn, 1) := by decide +kernel
theorem dX9_answer_110 : decode cX9_answer 110 = .ok (.aload_n 0, 1) := by decide +kernel
theorem dX9_answer_111 : decode cX9_answer 111 = .ok (.getfield 12, 3) := by decide +kernel
theorem dX9_answer_114 : decode cX9_answer 114 = .ok (.getfield 63, 3) := by decide +kernel
theorem dX9_answer_117 : decode cX9_answer 117 = .ok (.ireturn, 1) := by decide +kernel
theorem dX9_lookAtAllWords_0 : decode cX9_lookAtAllWords 0 = .ok (.aload_n 0, 1) := by decide +kernel
theorem dX9_lookAtAllWords_1 : decode cX9_lookAtAllWords 1 = .ok (.iconst 0, 1) := by decide +kernel
theorem dX9_lookAtAllWords_2 : decode cX9_lookAtAllWords 2 = .ok (.putfield 66, 3) := by decide +kernel
theorem dX9_lookAtAllWords_5 : decode cX9_lookAtAllWords 5 = .ok (.return_, 1) := by decide +kernel
theorem dX9_passTick_0 : decode cX9_passTick 0 = .ok (.aload_n 0, 1) := by decide +kernel
theorem dX9_passTick_1 : decode cX9_passTick 1 = .ok (.getfield 69, 3) := by decide +kernel
theorem dX9_passTick_4 : decode cX9_passTick 4 = .ok (.ifCond .le 7, 3) := by decide +kernel
theorem dX9_passTick_7 : decode cX9_passTick 7 = .ok (.aload_n 0, 1) := by decide +kernel
theorem dX9_passTick_8 : decode cX9_passTick 8 = .ok (.invokevirtual 72, 3) := by decide +kernel
theorem dX9_passTick_11 : decode cX9_passTick 11 = .ok (.aload_n 0, 1) := by decide +kernel
theorem dX9_passTick_12 : decode cX9_passTick 12 = .ok (.getfield 33, 3) := by decide +kernel
theorem dX9_passTick_15 : decode cX9_passTick 15 = .ok (.aload_n 0, 1) := by decide +kernel
theorem dX9_passTick_16 : decode cX9_passTick 16 = .ok (.getfield 66, 3) := by decide +kernel
theorem dX9_passTick_19 : decode cX9_passTick 19 = .ok (.if_icmp .lt 7, 3) := by decide +kernel
theorem dX9_passTick_22 : decode cX9_passTick 22 = .ok (.aload_n 0, 1) := by decide +kernel
theorem dX9_passTick_23 : decode cX9_passTick 23 = .ok (.invokevirtual 75, 3) := by decide +kernel
theorem dX9_passTick_26 : decode cX9_passTick 26 = .ok (.aload_n 0, 1) := by decide +kernel
theorem dX9_passTick_27 : decode cX9_passTick 27 = .ok (.getfield 43, 3) := by decide +kernel
theorem dX9_passTick_30 : decode cX9_passTick 30 = .ok (.ifnonnull 25, 3) := by decide +kernel
theorem dX9_passTick_33 : decode cX9_passTick 33 = .ok (.aload_n 0, 1) := by decide +kernel
theorem dX9_passTick_34 : decode cX9_passTick 34 = .ok (.getfield 78, 3) := by decide +kernel
theorem dX9_passTick_37 : decode cX9_passTick 37 = .ok (.ifCond .le 18, 3) := by decide +kernel
theorem dX9_passTick_40 : decode cX9_passTick 40 = .ok (.aload_n 0, 1) := by decide +kernel
theorem dX9_passTick_41 : decode cX9_passTick 41 = .ok (.getfield 33, 3) := by decide +kernel
theorem dX9_passTick_44 : decode cX9_passTick 44 = .ok (.aload_n 0, 1) := by decide +kernel
theorem dX9_passTick_45 : decode cX9_passTick 45 = .ok (.getfield 52, 3) := by decide +kernel
theorem dX9_passTick_48 : decode cX9_passTick 48 = .ok (.if_icmp .lt 7, 3) := by decide +kernel
theorem dX9_passTick_51 : decode cX9_passTick 51 = .ok (.aload_n 0, 1) := by decide +kernel
theorem dX9_passTick_52 : decode cX9_passTick 52 = .ok (.invokevirtual 81, 3) := by decide +kernel
theorem dX9_passTick_55 : decode cX9_passTick 55 = .ok (.aload_n 0, 1) := by decide +kernel
theorem dX9_passTick_56 : decode cX9_passTick 56 = .ok (.getfield 43, 3) := by decide +kernel
theorem dX9_passTick_59 : decode cX9_passTick 59 = .ok (.ifnull 58, 3) := by decide +kernel
theorem dX9_passTick_62 : decode cX9_passTick 62 = .ok (.aload_n 0, 1) := by decide +kernel
theorem dX9_passTick_63 : decode cX9_passTick 63 = .ok (.getfield 33, 3) := by decide +kernel
theorem dX9_passTick_66 : decode cX9_passTick 66 = .ok (.aload_n 0, 1) := by decide +kernel
theorem dX9_passTick_67 : decode cX9_passTick 67 = .ok (.getfield 84, 3) := by decide +kernel
theorem dX9_passTick_70 : decode cX9_passTick 70 = .ok (.if_icmp .eq 17, 3) := by decide +kernel
theorem dX9_passTick_73 : decode cX9_passTick 73 = .ok (.aload_n 0, 1) := by decide +kernel
theorem dX9_passTick_74 : decode cX9_passTick 74 = .ok (.getfield 12, 3) := by decide +kernel
theorem dX9_passTick_77 : decode cX9_passTick 77 = .ok (.aload_n 0, 1) := by decide +kernel
theorem dX9_passTick_78 : decode cX9_passTick 78 = .ok (.getfield 33, 3) := by decide +kernel
theorem dX9_passTick_81 : decode cX9_passTick 81 = .ok (.invokevirtual 87, 3) := by decide +kernel
theorem dX9_passTick_84 : decode cX9_passTick 84 = .ok (.ifCond .eq 14, 3) := by decide +kernel
theorem dX9_passTick_87 : decode cX9_passTick 87 = .ok (.aload_n 0, 1) := by decide +kernel
theorem dX9_passTick_88 : decode cX9_passTick 88 = .ok (.aload_n 0, 1) := by decide +kernel
theorem dX9_passTick_89 : decode cX9_passTick 89 = .ok (.getfield 43, 3) := by decide +kernel
theorem dX9_passTick_92 : decode cX9_passTick 92 = .ok (.invokevirtual 91, 3) := by decide +kernel
theorem dX9_passTick_95 : decode cX9_passTick 95 = .ok (.goto 22, 3) := by decide +kernel
theorem dX9_passTick_98 : decode cX9_passTick 98 = .ok (.aload_n 0, 1) := by decide +kernel
theorem dX9_passTick_99 : decode cX9_passTick 99 = .ok (.getfield 33, 3) := by decide +kernel
theorem dX9_passTick_102 : decode cX9_passTick 102 = .ok (.aload_n 0, 1) := by decide +kernel
theorem dX9_passTick_103 : decode cX9_passTick 103 = .ok (.getfield 95, 3) := by decide +kernel
theorem dX9_passTick_106 : decode cX9_passTick 106 = .ok (.if_icmp .ne 11, 3) := by decide +kernel
theorem dX9_passTick_109 : decode cX9_passTick 109 = .ok (.aload_n 0, 1) := by decide +kernel
theorem dX9_passTick_110 : decode cX9_passTick 110 = .ok (.aload_n 0, 1) := by decide +kernel
theorem dX9_passTick_111 : decode cX9_passTick 111 = .ok (.getfield 43, 3) := by decide +kernel
theorem dX9_passTick_114 : decode cX9_passTick 114 = .ok (.invokevirtual 98, 3) := by decide +kernel
theorem dX9_passTick_117 : decode cX9_passTick 117 = .ok (.aload_n 0, 1) := by decide +kernel
theorem dX9_passTick_118 : decode cX9_passTick 118 = .ok (.getfield 12, 3) := by decide +kernel
theorem dX9_passTick_121 : decode cX9_passTick 121 = .ok (.aload_n 0, 1) := by decide +kernel
theorem dX9_passTick_122 : decode cX9_passTick 122 = .ok (.getfield 33, 3) := by decide +kernel
theorem dX9_passTick_125 : decode cX9_passTick 125 = .ok (.invokevirtual 101, 3) := by decide +kernel
theorem dX9_passTick_128 : decode cX9_passTick 128 = .ok (.aload_n 0, 1) := by decide +kernel
theorem dX9_passTick_129 : decode cX9_passTick 129 = .ok (.dup, 1) := by decide +kernel
theorem dX9_passTick_130 : decode cX9_passTick 130 = .ok (.getfield 33, 3) := by decide +kernel
theorem dX9_passTick_133 : decode cX9_passTick 133 = .ok (.iconst 1, 1) := by decide +kernel
theorem dX9_passTick_134 : decode cX9_passTick 134 = .ok (.iadd, 1) := by decide +kernel
theorem dX9_passTick_135 : decode cX9_passTick 135 = .ok (.putfield 33, 3) := by decide +kernel
theorem dX9_passTick_138 : decode cX9_passTick 138 = .ok (.return_, 1) := by decide +kernel
theorem dX9_wakeNodes_0 : decode cX9_wakeNodes 0 = .ok (.iconst 0, 1) := by decide +kernel
theorem dX9_wakeNodes_1 : decode cX9_wakeNodes 1 = .ok (.istore_n 1, 1) := by decide +kernel
theorem dX9_wakeNodes_2 : decode cX9_wakeNodes 2 = .ok (.iload_n 1, 1) := by decide +kernel
theorem dX9_wakeNodes_3 : decode cX9_wakeNodes 3 = .ok (.aload_n 0, 1) := by decide +kernel
theorem dX9_wakeNodes_4 : decode cX9_wakeNodes 4 = .ok (.getfield 25, 3) := by decide +kernel
theorem dX9_wakeNodes_7 : decode cX9_wakeNodes 7 = .ok (.getfield 55, 3) := by decide +kernel
theorem dX9_wakeNodes_10 : decode cX9_wakeNodes 10 = .ok (.if_icmp .ge 56, 3) := by decide +kernel
theorem dX9_wakeNodes_13 : decode cX9_wakeNodes 13 = .ok (.aload_n 0, 1) := by decide +kernel
theorem dX9_wakeNodes_14 : decode cX9_wakeNodes 14 = .ok (.getfield 25, 3) := by decide +kernel
theorem dX9_wakeNodes_17 : decode cX9_wakeNodes 17 = .ok (.getfield 105, 3) := by decide +kernel
theorem dX9_wakeNodes_20 : decode cX9_wakeNodes 20 = .ok (.iload_n 1, 1) := by decide +kernel
theorem dX9_wakeNodes_21 : decode cX9_wakeNodes 21 = .ok (.aaload, 1) := by decide +kernel
theorem dX9_wakeNodes_22 : decode cX9_wakeNodes 22 = .ok (.astore_n 2, 1) := by decide +kernel
theorem dX9_wakeNodes_23 : decode cX9_wakeNodes 23 = .ok (.aload_n 2, 1) := by decide +kernel
theorem dX9_wakeNodes_24 : decode cX9_wakeNodes 24 = .ok (.invokevirtual 109, 3) := by decide +kernel
theorem dX9_wakeNodes_27 : decode cX9_wakeNodes 27 = .ok (.ifCond .eq 33, 3) := by decide +kernel
theorem dX9_wakeNodes_30 : decode cX9_wakeNodes 30 = .ok (.aload_n 0, 1) := by decide +kernel
theorem dX9_wakeNodes_31 : decode cX9_wakeNodes 31 = .ok (.getfield 33, 3) := by decide +kernel
theorem dX9_wakeNodes_34 : decode cX9_wakeNodes 34 = .ok (.aload_n 2, 1) := by decide +kernel
theorem dX9_wakeNodes_35 : decode cX9_wakeNodes 35 = .ok (.getfield 115, 3) := by decide +kernel
theorem dX9_wakeNodes_38 : decode cX9_wakeNodes 38 = .ok (.isub, 1) := by decide +kernel
theorem dX9_wakeNodes_39 : decode cX9_wakeNodes 39 = .ok (.sipush 1408, 3) := by decide +kernel
theorem dX9_wakeNodes_42 : decode cX9_wakeNodes 42 = .ok (.if_icmp .lt 18, 3) := by decide +kernel
theorem dX9_wakeNodes_45 : decode cX9_wakeNodes 45 = .ok (.aload_n 2, 1) := by decide +kernel
theorem dX9_wakeNodes_46 : decode cX9_wakeNodes 46 = .ok (.iconst 0, 1) := by decide +kernel
theorem dX9_wakeNodes_47 : decode cX9_wakeNodes 47 = .ok (.putfield 118, 3) := by decide +kernel
theorem dX9_wakeNodes_50 : decode cX9_wakeNodes 50 = .ok (.aload_n 0, 1) := by decide +kernel
theorem dX9_wakeNodes_51 : decode cX9_wakeNodes 51 = .ok (.dup, 1) := by decide +kernel
theorem dX9_wakeNodes_52 : decode cX9_wakeNodes 52 = .ok (.getfield 69, 3) := by decide +kernel
theorem dX9_wakeNodes_55 : decode cX9_wakeNodes 55 = .ok (.iconst 1, 1) := by decide +kernel
theorem dX9_wakeNodes_56 : decode cX9_wakeNodes 56 = .ok (.isub, 1) := by decide +kernel
theorem dX9_wakeNodes_57 : decode cX9_wakeNodes 57 = .ok (.putfield 69, 3) := by decide +kernel
theorem dX9_wakeNodes_60 : decode cX9_wakeNodes 60 = .ok (.iinc 1 1, 3) := by decide +kernel
theorem dX9_wakeNodes_63 : decode cX9_wakeNodes 63 = .ok (.goto (-61), 3) := by decide +kernel
theorem dX9_wakeNodes_66 : decode cX9_wakeNodes 66 = .ok (.return_, 1) := by decide +kernel
theorem dX9_letWordsCome_0 : decode cX9_letWordsCome 0 = .ok (.ldc 119, 2) := by decide +kernel
theorem dX9_letWordsCome_2 : decode cX9_letWordsCome 2 = .ok (.istore_n 1, 1) := by decide +kernel
theorem dX9_letWordsCome_3 : decode cX9_letWordsCome 3 = .ok (.iconst 0, 1) := by decide +kernel
theorem dX9_letWordsCome_4 : decode cX9_letWordsCome 4 = .ok (.istore_n 2, 1) := by decide +kernel
theorem dX9_letWordsCome_5 : decode cX9_letWordsCome 5 = .ok (.iload_n 2, 1) := by decide +kernel
theorem dX9_letWordsCome_6 : decode cX9_letWordsCome 6 = .ok (.aload_n 0, 1) := by decide +kernel
theorem dX9_letWordsCome_7 : decode cX9_letWordsCome 7 = .ok (.getfield 25, 3) := by decide +kernel
theorem dX9_letWordsCome_10 : decode cX9_letWordsCome 10 = .ok (.getfield 60, 3) := by decide +kernel
theorem dX9_letWordsCome_13 : decode cX9_letWordsCome 13 = .ok (.if_icmp .ge 44, 3) := by decide +kernel
theorem dX9_letWordsCome_16 : decode cX9_letWordsCome 16 = .ok (.aload_n 0, 1) := by decide +kernel
theorem dX9_letWordsCome_17 : decode cX9_letWordsCome 17 = .ok (.getfield 25, 3) := by decide +kernel
theorem dX9_letWordsCome_20 : decode cX9_letWordsCome 20 = .ok (.getfield 120, 3) := by decide +kernel
theorem dX9_letWordsCome_23 : decode cX9_letWordsCome 23 = .ok (.iload_n 2, 1) := by decide +kernel
theorem dX9_letWordsCome_24 : decode cX9_letWordsCome 24 = .ok (.aaload, 1) := by decide +kernel
theorem dX9_letWordsCome_25 : decode cX9_letWordsCome 25 = .ok (.astore_n 3, 1) := by decide +kernel
theorem dX9_letWordsCome_26 : decode cX9_letWordsCome 26 = .ok (.aload_n 3, 1) := by decide +kernel
theorem dX9_letWordsCome_27 : decode cX9_letWordsCome 27 = .ok (.invokevirtual 124, 3) := by decide +kernel
theorem dX9_letWordsCome_30 : decode cX9_letWordsCome 30 = .ok (.aload_n 0, 1) := by decide +kernel
theorem dX9_letWordsCome_31 : decode cX9_letWordsCome 31 = .ok (.getfield 33, 3) := by decide +kernel
theorem dX9_letWordsCome_34 : decode cX9_letWordsCome 34 = .ok (.if_icmp .gt 8, 3) := by decide +kernel
theorem dX9_letWordsCome_37 : decode cX9_letWordsCome 37 = .ok (.aload_n 0, 1) := by decide +kernel
theorem dX9_letWordsCome_38 : decode cX9_letWordsCome 38 = .ok (.aload_n 3, 1) := by decide +kernel
theorem dX9_letWordsCome_39 : decode cX9_letWordsCome 39 = .ok (.invokevirtual 128, 3) := by decide +kernel
theorem dX9_letWordsCome_42 : decode cX9_letWordsCome 42 = .ok (.iload_n 1, 1) := by decide +kernel
theorem dX9_letWordsCome_43 : decode cX9_letWordsCome 43 = .ok (.aload_n 3, 1) := by decide +kernel
theorem dX9_letWordsCome_44 : decode cX9_letWordsCome 44 = .ok (.invokevirtual 124, 3) := by decide +kernel
theorem dX9_letWordsCome_47 : decode cX9_letWordsCome 47 = .ok (.invokestatic 131, 3) := by decide +kernel
theorem dX9_letWordsCome_50 : decode cX9_letWordsCome 50 = .ok (.istore_n 1, 1) := by decide +kernel
theorem dX9_letWordsCome_51 : decode cX9_letWordsCome 51 = .ok (.iinc 2 1, 3) := by decide +kernel
theorem dX9_letWordsCome_54 : decode cX9_letWordsCome 54 = .ok (.goto (-49), 3) := by decide +kernel
theorem dX9_letWordsCome_57 : decode cX9_letWordsCome 57 = .ok (.aload_n 0, 1) := by decide +kernel
theorem dX9_letWordsCome_58 : decode cX9_letWordsCome 58 = .ok (.iload_n 1, 1) := by decide +kernel
theorem dX9_letWordsCome_59 : decode cX9_letWordsCome 59 = .ok (.putfield 66, 3) := by decide +kernel
theorem dX9_letWordsCome_62 : decode cX9_letWordsCome 62 = .ok (.return_, 1) := by decide +kernel
theorem dX9_letCome_0 : decode cX9_letCome 0 = .ok (.aload_n 0, 1) := by decide +kernel
theorem dX9_letCome_1 : decode cX9_letCome 1 = .ok (.getfield 33, 3) := by decide +kernel
theorem dX9_letCome_4 : decode cX9_letCome 4 = .ok (.istore_n 2, 1) := by decide +kernel
theorem dX9_letCome_5 : decode cX9_letCome 5 = .ok (.aload_n 1, 1) := by decide +kernel
theorem dX9_letCome_6 : decode cX9_letCome 6 = .ok (.invokevirtual 137, 3) := by decide +kernel
theorem dX9_letCome_9 : decode cX9_letCome 9 = .ok (.ifCond .eq 18, 3) := by decide +kernel
theorem dX9_letCome_12 : decode cX9_letCome 12 = .ok (.aload_n 1, 1) := by decide +kernel
theorem dX9_letCome_13 : decode cX9_letCome 13 = .ok (.invokevirtual 140, 3) := by decide +kernel
theorem dX9_letCome_16 : decode cX9_letCome 16 = .ok (.istore_n 2, 1) := by decide +kernel
theorem dX9_letCome_17 : decode cX9_letCome 17 = .ok (.aload_n 1, 1) := by decide +kernel
theorem dX9_letCome_18 : decode cX9_letCome 18 = .ok (.dup, 1) := by decide +kernel
theorem dX9_letCome_19 : decode cX9_letCome 19 = .ok (.getfield 143, 3) := by decide +kernel
theorem dX9_letCome_22 : decode cX9_letCome 22 = .ok (.iconst 1, 1) := by decide +kernel
theorem dX9_letCome_23 : decode cX9_letCome 23 = .ok (.iadd, 1) := by decide +kernel
theorem dX9_letCome_24 : decode cX9_letCome 24 = .ok (.putfield 143, 3) := by decide +kernel
theorem dX9_letCome_27 : decode cX9_letCome 27 = .ok (.aload_n 1, 1) := by decide +kernel
theorem dX9_letCome_28 : decode cX9_letCome 28 = .ok (.iconst 0, 1) := by decide +kernel
theorem dX9_letCome_29 : decode cX9_letCome 29 = .ok (.putfield 146, 3) := by decide +kernel
theorem dX9_letCome_32 : decode cX9_letCome 32 = .ok (.aload_n 1, 1) := by decide +kernel
theorem dX9_letCome_33 : decode cX9_letCome 33 = .ok (.getfield 150, 3) := by decide +kernel
theorem dX9_letCome_36 : decode cX9_letCome 36 = .ok (.invokevirtual 109, 3) := by decide +kernel
theorem dX9_letCome_39 : decode cX9_letCome 39 = .ok (.ifCond .eq 4, 3) := by decide +kernel
theorem dX9_letCome_42 : decode cX9_letCome 42 = .ok (.return_, 1) := by decide +kernel
theorem dX9_letCome_43 : decode cX9_letCome 43 = .ok (.aload_n 1, 1) := by decide +kernel
theorem dX9_letCome_44 : decode cX9_letCome 44 = .ok (.getfield 154, 3) := by decide +kernel
theorem dX9_letCome_47 : decode cX9_letCome 47 = .ok (.ifCond .eq 13, 3) := by decide +kernel
theorem dX9_letCome_50 : decode cX9_letCome 50 = .ok (.aload_n 1, 1) := by decide +kernel
theorem dX9_letCome_51 : decode cX9_letCome 51 = .ok (.dup, 1) := by decide +kernel
theorem dX9_letCome_52 : decode cX9_letCome 52 = .ok (.getfield 157, 3) := by decide +kernel
theorem dX9_letCome_55 : decode cX9_letCome 55 = .ok (.iconst 1, 1) := by decide +kernel
theorem dX9_letCome_56 : decode cX9_letCome 56 = .ok (.iadd, 1) := by decide +kernel
theorem dX9_letCome_57 : decode cX9_letCome 57 = .ok (.putfield 157, 3) := by decide +kernel
theorem dX9_letCome_60 : decode cX9_letCome 60 = .ok (.aload_n 0, 1) := by decide +kernel
theorem dX9_letCome_61 : decode cX9_letCome 61 = .ok (.aload_n 1, 1) := by decide +kernel
theorem dX9_letCome_62 : decode cX9_letCome 62 = .ok (.iload_n 2, 1) := by decide +kernel
theorem dX9_letCome_63 : decode cX9_letCome 63 = .ok (.invokevirtual 160, 3) := by decide +kernel
theorem dX9_letCome_66 : decode cX9_letCome 66 = .ok (.return_, 1) := by decide +kernel
theorem dX9_startWaiting_0 : decode cX9_startWaiting 0 = .ok (.aload_n 1, 1) := by decide +kernel
theorem dX9_startWaiting_1 : decode cX9_startWaiting 1 = .ok (.getfield 154, 3) := by decide +kernel
theorem dX9_startWaiting_4 : decode cX9_startWaiting 4 = .ok (.ifCond .ne 13, 3) := by decide +kernel
theorem dX9_startWaiting_7 : decode cX9_startWaiting 7 = .ok (.aload_n 0, 1) := by decide +kernel
theorem dX9_startWaiting_8 : decode cX9_startWaiting 8 = .ok (.dup, 1) := by decide +kernel
theorem dX9_startWaiting_9 : decode cX9_startWaiting 9 = .ok (.getfield 78, 3) := by decide +kernel
theorem dX9_startWaiting_12 : decode cX9_startWaiting 12 = .ok (.iconst 1, 1) := by decide +kernel
theorem dX9_startWaiting_13 : decode cX9_startWaiting 13 = .ok (.iadd, 1) := by decide +kernel
theorem dX9_startWaiting_14 : decode cX9_startWaiting 14 = .ok (.putfield 78, 3) := by decide +kernel
theorem dX9_startWaiting_17 : decode cX9_startWaiting 17 = .ok (.aload_n 1, 1) := by decide +kernel
theorem dX9_startWaiting_18 : decode cX9_startWaiting 18 = .ok (.iconst 1, 1) := by decide +kernel
theorem dX9_startWaiting_19 : decode cX9_startWaiting 19 = .ok (.putfield 154, 3) := by decide +kernel
theorem dX9_startWaiting_22 : decode cX9_startWaiting 22 = .ok (.aload_n 1, 1) := by decide +kernel
theorem dX9_startWaiting_23 : decode cX9_startWaiting 23 = .ok (.iload_n 2, 1) := by decide +kernel
theorem dX9_startWaiting_24 : decode cX9_startWaiting 24 = .ok (.putfield 164, 3) := by decide +kernel
theorem dX9_startWaiting_27 : decode cX9_startWaiting 27 = .ok (.return_, 1) := by decide +kernel
theorem dX9_stopWaiting_0 : decode cX9_stopWaiting 0 = .ok (.aload_n 1, 1) := by decide +kernel
theorem dX9_stopWaiting_1 : decode cX9_stopWaiting 1 = .ok (.getfield 154, 3) := by decide +kernel
theorem dX9_stopWaiting_4 : decode cX9_stopWaiting 4 = .ok (.ifCond .eq 13, 3) := by decide +kernel
theorem dX9_stopWaiting_7 : decode cX9_stopWaiting 7 = .ok (.aload_n 0, 1) := by decide +kernel
theorem dX9_stopWaiting_8 : decode cX9_stopWaiting 8 = .ok (.dup, 1) := by decide +kernel
theorem dX9_stopWaiting_9 : decode cX9_stopWaiting 9 = .ok (.getfield 78, 3) := by decide +kernel
theorem dX9_stopWaiting_12 : decode cX9_stopWaiting 12 = .ok (.iconst 1, 1) := by decide +kernel
theorem dX9_stopWaiting_13 : decode cX9_stopWaiting 13 = .ok (.isub, 1) := by decide +kernel
theorem dX9_stopWaiting_14 : decode cX9_stopWaiting 14 = .ok (.putfield 78, 3) := by decide +kernel
theorem dX9_stopWaiting_17 : decode cX9_stopWaiting 17 = .ok (.aload_n 1, 1) := by decide +kernel
theorem dX9_stopWaiting_18 : decode cX9_stopWaiting 18 = .ok (.iconst 0, 1) := by decide +kernel
theorem dX9_stopWaiting_19 : decode cX9_stopWaiting 19 = .ok (.putfield 154, 3) := by decide +kernel
theorem dX9_stopWaiting_22 : decode cX9_stopWaiting 22 = .ok (.return_, 1) := by decide +kernel
theorem dX9_begin_0 : decode cX9_begin 0 = .ok (.aload_n 0, 1) := by decide +kernel
theorem dX9_begin_1 : decode cX9_begin 1 = .ok (.invokevirtual 167, 3) := by decide +kernel
theorem dX9_begin_4 : decode cX9_begin 4 = .ok (.astore_n 1, 1) := by decide +kernel
theorem dX9_begin_5 : decode cX9_begin 5 = .ok (.aload_n 1, 1) := by decide +kernel
theorem dX9_begin_6 : decode cX9_begin 6 = .ok (.ifnonnull 4, 3) := by decide +kernel
theorem dX9_begin_9 : decode cX9_begin 9 = .ok (.return_, 1) := by decide +kernel
theorem dX9_begin_10 : decode cX9_begin 10 = .ok (.aload_n 0, 1) := by decide +kernel
theorem dX9_begin_11 : decode cX9_begin 11 = .ok (.aload_n 1, 1) := by decide +kernel
theorem dX9_begin_12 : decode cX9_begin 12 = .ok (.invokevirtual 171, 3) := by decide +kernel
theorem dX9_begin_15 : decode cX9_begin 15 = .ok (.aload_n 0, 1) := by decide +kernel
theorem dX9_begin_16 : decode cX9_begin 16 = .ok (.getfield 29, 3) := by decide +kernel
theorem dX9_begin_19 : decode cX9_begin 19 = .ok (.aload_n 1, 1) := by decide +kernel
theorem dX9_begin_20 : decode cX9_begin 20 = .ok (.invokevirtual 174, 3) := by decide +kernel
theorem dX9_begin_23 : decode cX9_begin 23 = .ok (.aload_n 0, 1) := by decide +kernel
theorem dX9_begin_24 : decode cX9_begin 24 = .ok (.aload_n 1, 1) := by decide +kernel
theorem dX9_begin_25 : decode cX9_begin 25 = .ok (.putfield 43, 3) := by decide +kernel
theorem dX9_begin_28 : decode cX9_begin 28 = .ok (.aload_n 0, 1) := by decide +kernel
theorem dX9_begin_29 : decode cX9_begin 29 = .ok (.aload_n 1, 1) := by decide +kernel
theorem dX9_begin_30 : decode cX9_begin 30 = .ok (.getfield 164, 3) := by decide +kernel
theorem dX9_begin_33 : decode cX9_begin 33 = .ok (.putfield 179, 3) := by decide +kernel
theorem dX9_begin_36 : decode cX9_begin 36 = .ok (.aload_n 0, 1) := by decide +kernel
theorem dX9_begin_37 : decode cX9_begin 37 = .ok (.aload_n 0, 1) := by decide +kernel
theorem dX9_begin_38 : decode cX9_begin 38 = .ok (.getfield 33, 3) := by decide +kernel
theorem dX9_begin_41 : decode cX9_begin 41 = .ok (.putfield 182, 3) := by decide +kernel
theorem dX9_begin_44 : decode cX9_begin 44 = .ok (.aload_n 0, 1) := by decide +kernel
theorem dX9_begin_45 : decode cX9_begin 45 = .ok (.aload_n 0, 1) := by decide +kernel
theorem dX9_begin_46 : decode cX9_begin 46 = .ok (.getfield 33, 3) := by decide +kernel
theorem dX9_begin_49 : decode cX9_begin 49 = .ok (.aload_n 0, 1) := by decide +kernel
theorem dX9_begin_50 : decode cX9_begin 50 = .ok (.getfield 29, 3) := by decide +kernel
theorem dX9_begin_53 : decode cX9_begin 53 = .ok (.getfield 185, 3) := by decide +kernel
theorem dX9_begin_56 : decode cX9_begin 56 = .ok (.iadd, 1) := by decide +kernel
theorem dX9_begin_57 : decode cX9_begin 57 = .ok (.iconst 1, 1) := by decide +kernel
theorem dX9_begin_58 : decode cX9_begin 58 = .ok (.isub, 1) := by decide +kernel
theorem dX9_begin_59 : decode cX9_begin 59 = .ok (.putfield 95, 3) := by decide +kernel
theorem dX9_begin_62 : decode cX9_begin 62 = .ok (.aload_n 0, 1) := by decide +kernel
theorem dX9_begin_63 : decode cX9_begin 63 = .ok (.aload_n 0, 1) := by decide +kernel
theorem dX9_begin_64 : decode cX9_begin 64 = .ok (.aload_n 1, 1) := by decide +kernel
theorem dX9_begin_65 : decode cX9_begin 65 = .ok (.getfield 150, 3) := by decide +kernel
theorem dX9_begin_68 : decode cX9_begin 68 = .ok (.invokevirtual 188, 3) := by decide +kernel
theorem dX9_begin_71 : decode cX9_begin 71 = .ok (.ifCond .eq 21, 3) := by decide +kernel
theorem dX9_begin_74 : decode cX9_begin 74 = .ok (.aload_n 0, 1) := by decide +kernel
theorem dX9_begin_75 : decode cX9_begin 75 = .ok (.getfield 33, 3) := by decide +kernel
theorem dX9_begin_78 : decode cX9_begin 78 = .ok (.aload_n 0, 1) := by decide +kernel
theorem dX9_begin_79 : decode cX9_begin 79 = .ok (.getfield 29, 3) := by decide +kernel
theorem dX9_begin_82 : decode cX9_begin 82 = .ok (.getfield 185, 3) := by decide +kernel
theorem dX9_begin_85 : decode cX9_begin 85 = .ok (.iadd, 1) := by decide +kernel
theorem dX9_begin_86 : decode cX9_begin 86 = .ok (.bipush 9, 2) := by decide +kernel
theorem dX9_begin_88 : decode cX9_begin 88 = .ok (.isub, 1) := by decide +kernel
theorem dX9_begin_89 : decode cX9_begin 89 = .ok (.goto 5, 3) := by decide +kernel
theorem dX9_begin_92 : decode cX9_begin 92 = .ok (.ldc 119, 2) := by decide +kernel
theorem dX9_begin_94 : decode cX9_begin 94 = .ok (.putfield 84, 3) := by decide +kernel
theorem dX9_begin_97 : decode cX9_begin 97 = .ok (.return_, 1) := by decide +kernel
theorem dX9_firstThatWaits_0 : decode cX9_firstThatWaits 0 = .ok (.aconst_null, 1) := by decide +kernel
theorem dX9_firstThatWaits_1 : decode cX9_firstThatWaits 1 = .ok (.astore_n 1, 1) := by decide +kernel
theorem dX9_firstThatWaits_2 : decode cX9_firstThatWaits 2 = .ok (.iconst 0, 1) := by decide +kernel
theorem dX9_firstThatWaits_3 : decode cX9_firstThatWaits 3 = .ok (.istore_n 2, 1) := by decide +kernel
theorem dX9_firstThatWaits_4 : decode cX9_firstThatWaits 4 = .ok (.iload_n 2, 1) := by decide +kernel
theorem dX9_firstThatWaits_5 : decode cX9_firstThatWaits 5 = .ok (.aload_n 0, 1) := by decide +kernel
theorem dX9_firstThatWaits_6 : decode cX9_firstThatWaits 6 = .ok (.getfield 25, 3) := by decide +kernel
theorem dX9_firstThatWaits_9 : decode cX9_firstThatWaits 9 = .ok (.getfield 60, 3) := by decide +kernel
theorem dX9_firstThatWaits_12 : decode cX9_firstThatWaits 12 = .ok (.if_icmp .ge 40, 3) := by decide +kernel
theorem dX9_firstThatWaits_15 : decode cX9_firstThatWaits 15 = .ok (.aload_n 0, 1) := by decide +kernel
theorem dX9_firstThatWaits_16 : decode cX9_firstThatWaits 16 = .ok (.getfield 25, 3) := by decide +kernel
theorem dX9_firstThatWaits_19 : decode cX9_firstThatWaits 19 = .ok (.getfield 120, 3) := by decide +kernel
theorem dX9_firstThatWaits_22 : decode cX9_firstThatWaits 22 = .ok (.iload_n 2, 1) := by decide +kernel
theorem dX9_firstThatWaits_23 : decode cX9_firstThatWaits 23 = .ok (.aaload, 1) := by decide +kernel
theorem dX9_firstThatWaits_24 : decode cX9_firstThatWaits 24 = .ok (.astore_n 3, 1) := by decide +kernel
theorem dX9_firstThatWaits_25 : decode cX9_firstThatWaits 25 = .ok (.aload_n 3, 1) := by decide +kernel
theorem dX9_firstThatWaits_26 : decode cX9_firstThatWaits 26 = .ok (.getfield 154, 3) := by decide +kernel
theorem dX9_firstThatWaits_29 : decode cX9_firstThatWaits 29 = .ok (.ifCond .eq 17, 3) := by decide +kernel
theorem dX9_firstThatWaits_32 : decode cX9_firstThatWaits 32 = .ok (.aload_n 1, 1) := by decide +kernel
theorem dX9_firstThatWaits_33 : decode cX9_firstThatWaits 33 = .ok (.ifnull 11, 3) := by decide +kernel
theorem dX9_firstThatWaits_36 : decode cX9_firstThatWaits 36 = .ok (.aload_n 3, 1) := by decide +kernel
theorem dX9_firstThatWaits_37 : decode cX9_firstThatWaits 37 = .ok (.aload_n 1, 1) := by decide +kernel
theorem dX9_firstThatWaits_38 : decode cX9_firstThatWaits 38 = .ok (.invokevirtual 192, 3) := by decide +kernel
theorem dX9_firstThatWaits_41 : decode cX9_firstThatWaits 41 = .ok (.ifCond .eq 5, 3) := by decide +kernel
theorem dX9_firstThatWaits_44 : decode cX9_firstThatWaits 44 = .ok (.aload_n 3, 1) := by decide +kernel
theorem dX9_firstThatWaits_45 : decode cX9_firstThatWaits 45 = .ok (.astore_n 1, 1) := by decide +kernel
theorem dX9_firstThatWaits_46 : decode cX9_firstThatWaits 46 = .ok (.iinc 2 1, 3) := by decide +kernel
theorem dX9_firstThatWaits_49 : decode cX9_firstThatWaits 49 = .ok (.goto (-45), 3) := by decide +kernel
theorem dX9_firstThatWaits_52 : decode cX9_firstThatWaits 52 = .ok (.aload_n 1, 1) := by decide +kernel
theorem dX9_firstThatWaits_53 : decode cX9_firstThatWaits 53 = .ok (.areturn, 1) := by decide +kernel
theorem dX9_isAlone_0 : decode cX9_isAlone 0 = .ok (.iconst 0, 1) := by decide +kernel
theorem dX9_isAlone_1 : decode cX9_isAlone 1 = .ok (.istore_n 2, 1) := by decide +kernel
theorem dX9_isAlone_2 : decode cX9_isAlone 2 = .ok (.iload_n 2, 1) := by decide +kernel
theorem dX9_isAlone_3 : decode cX9_isAlone 3 = .ok (.aload_n 0, 1) := by decide +kernel
theorem dX9_isAlone_4 : decode cX9_isAlone 4 = .ok (.getfield 25, 3) := by decide +kernel
theorem dX9_isAlone_7 : decode cX9_isAlone 7 = .ok (.getfield 55, 3) := by decide +kernel
theorem dX9_isAlone_10 : decode cX9_isAlone 10 = .ok (.if_icmp .ge 39, 3) := by decide +kernel
theorem dX9_isAlone_13 : decode cX9_isAlone 13 = .ok (.aload_n 0, 1) := by decide +kernel
theorem dX9_isAlone_14 : decode cX9_isAlone 14 = .ok (.getfield 25, 3) := by decide +kernel
theorem dX9_isAlone_17 : decode cX9_isAlone 17 = .ok (.getfield 105, 3) := by decide +kernel
theorem dX9_isAlone_20 : decode cX9_isAlone 20 = .ok (.iload_n 2, 1) := by decide +kernel
theorem dX9_isAlone_21 : decode cX9_isAlone 21 = .ok (.aaload, 1) := by decide +kernel
theorem dX9_isAlone_22 : decode cX9_isAlone 22 = .ok (.aload_n 1, 1) := by decide +kernel
theorem dX9_isAlone_23 : decode cX9_isAlone 23 = .ok (.if_acmp .eq 20, 3) := by decide +kernel
theorem dX9_isAlone_26 : decode cX9_isAlone 26 = .ok (.aload_n 0, 1) := by decide +kernel
theorem dX9_isAlone_27 : decode cX9_isAlone 27 = .ok (.getfield 25, 3) := by decide +kernel
theorem dX9_isAlone_30 : decode cX9_isAlone 30 = .ok (.getfield 105, 3) := by decide +kernel
theorem dX9_isAlone_33 : decode cX9_isAlone 33 = .ok (.iload_n 2, 1) := by decide +kernel
theorem dX9_isAlone_34 : decode cX9_isAlone 34 = .ok (.aaload, 1) := by decide +kernel
theorem dX9_isAlone_35 : decode cX9_isAlone 35 = .ok (.invokevirtual 109, 3) := by decide +kernel
theorem dX9_isAlone_38 : decode cX9_isAlone 38 = .ok (.ifCond .ne 5, 3) := by decide +kernel
theorem dX9_isAlone_41 : decode cX9_isAlone 41 = .ok (.iconst 0, 1) := by decide +kernel
theorem dX9_isAlone_42 : decode cX9_isAlone 42 = .ok (.ireturn, 1) := by decide +kernel
theorem dX9_isAlone_43 : decode cX9_isAlone 43 = .ok (.iinc 2 1, 3) := by decide +kernel
theorem dX9_isAlone_46 : decode cX9_isAlone 46 = .ok (.goto (-44), 3) := by decide +kernel
theorem dX9_isAlone_49 : decode cX9_isAlone 49 = .ok (.iconst 1, 1) := by decide +kernel
theorem dX9_isAlone_50 : decode cX9_isAlone 50 = .ok (.ireturn, 1) := by decide +kernel
theorem dX9_fail_0 : decode cX9_fail 0 = .ok (.aload_n 0, 1) := by decide +kernel
theorem dX9_fail_1 : decode cX9_fail 1 = .ok (.dup, 1) := by decide +kernel
theorem dX9_fail_2 : decode cX9_fail 2 = .ok (.getfield 40, 3) := by decide +kernel
theorem dX9_fail_5 : decode cX9_fail 5 = .ok (.iconst 1, 1) := by decide +kernel
theorem dX9_fail_6 : decode cX9_fail 6 = .ok (.iadd, 1) := by decide +kernel
theorem dX9_fail_7 : decode cX9_fail 7 = .ok (.putfield 40, 3) := by decide +kernel
theorem dX9_fail_10 : decode cX9_fail 10 = .ok (.aload_n 1, 1) := by decide +kernel
theorem dX9_fail_11 : decode cX9_fail 11 = .ok (.getfield 150, 3) := by decide +kernel
theorem dX9_fail_14 : decode cX9_fail 14 = .ok (.dup, 1) := by decide +kernel
theorem dX9_fail_15 : decode cX9_fail 15 = .ok (.getfield 196, 3) := by decide +kernel
theorem dX9_fail_18 : decode cX9_fail 18 = .ok (.iconst 1, 1) := by decide +kernel
theorem dX9_fail_19 : decode cX9_fail 19 = .ok (.iadd, 1) := by decide +kernel
theorem dX9_fail_20 : decode cX9_fail 20 = .ok (.putfield 196, 3) := by decide +kernel
theorem dX9_fail_23 : decode cX9_fail 23 = .ok (.aload_n 0, 1) := by decide +kernel
theorem dX9_fail_24 : decode cX9_fail 24 = .ok (.getfield 21, 3) := by decide +kernel
theorem dX9_fail_27 : decode cX9_fail 27 = .ok (.aload_n 1, 1) := by decide +kernel
theorem dX9_fail_28 : decode cX9_fail 28 = .ok (.getfield 47, 3) := by decide +kernel
theorem dX9_fail_31 : decode cX9_fail 31 = .ok (.aload_n 0, 1) := by decide +kernel
theorem dX9_fail_32 : decode cX9_fail 32 = .ok (.getfield 182, 3) := by decide +kernel
theorem dX9_fail_35 : decode cX9_fail 35 = .ok (.aload_n 0, 1) := by decide +kernel
theorem dX9_fail_36 : decode cX9_fail 36 = .ok (.getfield 33, 3) := by decide +kernel
theorem dX9_fail_39 : decode cX9_fail 39 = .ok (.iconst (-1), 1) := by decide +kernel
theorem dX9_fail_40 : decode cX9_fail 40 = .ok (.invokevirtual 197, 3) := by decide +kernel
theorem dX9_fail_43 : decode cX9_fail 43 = .ok (.aload_n 1, 1) := by decide +kernel
theorem dX9_fail_44 : decode cX9_fail 44 = .ok (.getfield 154, 3) := by decide +kernel
theorem dX9_fail_47 : decode cX9_fail 47 = .ok (.ifCond .eq 16, 3) := by decide +kernel
theorem dX9_fail_50 : decode cX9_fail 50 = .ok (.aload_n 1, 1) := by decide +kernel
theorem dX9_fail_51 : decode cX9_fail 51 = .ok (.dup, 1) := by decide +kernel
theorem dX9_fail_52 : decode cX9_fail 52 = .ok (.getfield 157, 3) := by decide +kernel
theorem dX9_fail_55 : decode cX9_fail 55 = .ok (.iconst 1, 1) := by decide +kernel
theorem dX9_fail_56 : decode cX9_fail 56 = .ok (.iadd, 1) := by decide +kernel
theorem dX9_fail_57 : decode cX9_fail 57 = .ok (.putfield 157, 3) := by decide +kernel
theorem dX9_fail_60 : decode cX9_fail 60 = .ok (.goto 12, 3) := by decide +kernel
theorem dX9_fail_63 : decode cX9_fail 63 = .ok (.aload_n 0, 1) := by decide +kernel
theorem dX9_fail_64 : decode cX9_fail 64 = .ok (.aload_n 1, 1) := by decide +kernel
theorem dX9_fail_65 : decode cX9_fail 65 = .ok (.aload_n 0, 1) := by decide +kernel
theorem dX9_fail_66 : decode cX9_fail 66 = .ok (.getfield 179, 3) := by decide +kernel
theorem dX9_fail_69 : decode cX9_fail 69 = .ok (.invokevirtual 160, 3) := by decide +kernel
theorem dX9_fail_72 : decode cX9_fail 72 = .ok (.aload_n 0, 1) := by decide +kernel
theorem dX9_fail_73 : decode cX9_fail 73 = .ok (.aconst_null, 1) := by decide +kernel
theorem dX9_fail_74 : decode cX9_fail 74 = .ok (.putfield 43, 3) := by decide +kernel
theorem dX9_fail_77 : decode cX9_fail 77 = .ok (.aload_n 0, 1) := by decide +kernel
theorem dX9_fail_78 : decode cX9_fail 78 = .ok (.aload_n 0, 1) := by decide +kernel
theorem dX9_fail_79 : decode cX9_fail 79 = .ok (.getfield 33, 3) := by decide +kernel
theorem dX9_fail_82 : decode cX9_fail 82 = .ok (.bipush 18, 2) := by decide +kernel
theorem dX9_fail_84 : decode cX9_fail 84 = .ok (.iadd, 1) := by decide +kernel
theorem dX9_fail_85 : decode cX9_fail 85 = .ok (.putfield 52, 3) := by decide +kernel
theorem dX9_fail_88 : decode cX9_fail 88 = .ok (.aload_n 0, 1) := by decide +kernel
theorem dX9_fail_89 : decode cX9_fail 89 = .ok (.aload_n 1, 1) := by decide +kernel
theorem dX9_fail_90 : decode cX9_fail 90 = .ok (.getfield 150, 3) := by decide +kernel
theorem dX9_fail_93 : decode cX9_fail 93 = .ok (.invokevirtual 201, 3) := by decide +kernel
theorem dX9_fail_96 : decode cX9_fail 96 = .ok (.return_, 1) := by decide +kernel
theorem dX9_blame_0 : decode cX9_blame 0 = .ok (.iconst 0, 1) := by decide +kernel
theorem dX9_blame_1 : decode cX9_blame 1 = .ok (.istore_n 2, 1) := by decide +kernel
theorem dX9_blame_2 : decode cX9_blame 2 = .ok (.iload_n 2, 1) := by decide +kernel
theorem dX9_blame_3 : decode cX9_blame 3 = .ok (.aload_n 0, 1) := by decide +kernel
theorem dX9_blame_4 : decode cX9_blame 4 = .ok (.getfield 25, 3) := by decide +kernel
theorem dX9_blame_7 : decode cX9_blame 7 = .ok (.getfield 55, 3) := by decide +kernel
theorem dX9_blame_10 : decode cX9_blame 10 = .ok (.if_icmp .ge 58, 3) := by decide +kernel
theorem dX9_blame_13 : decode cX9_blame 13 = .ok (.aload_n 0, 1) := by decide +kernel
theorem dX9_blame_14 : decode cX9_blame 14 = .ok (.getfield 25, 3) := by decide +kernel
theorem dX9_blame_17 : decode cX9_blame 17 = .ok (.getfield 105, 3) := by decide +kernel
theorem dX9_blame_20 : decode cX9_blame 20 = .ok (.iload_n 2, 1) := by decide +kernel
theorem dX9_blame_21 : decode cX9_blame 21 = .ok (.aaload, 1) := by decide +kernel
theorem dX9_blame_22 : decode cX9_blame 22 = .ok (.astore_n 3, 1) := by decide +kernel
theorem dX9_blame_23 : decode cX9_blame 23 = .ok (.aload_n 3, 1) := by decide +kernel
theorem dX9_blame_24 : decode cX9_blame 24 = .ok (.invokevirtual 109, 3) := by decide +kernel
theorem dX9_blame_27 : decode cX9_blame 27 = .ok (.ifCond .ne 35, 3) := by decide +kernel
theorem dX9_blame_30 : decode cX9_blame 30 = .ok (.aload_n 3, 1) := by decide +kernel
theorem dX9_blame_31 : decode cX9_blame 31 = .ok (.dup, 1) := by decide +kernel
theorem dX9_blame_32 : decode cX9_blame 32 = .ok (.getfield 118, 3) := by decide +kernel
theorem dX9_blame_35 : decode cX9_blame 35 = .ok (.aload_n 3, 1) := by decide +kernel
theorem dX9_blame_36 : decode cX9_blame 36 = .ok (.aload_n 1, 1) := by decide +kernel
theorem dX9_blame_37 : decode cX9_blame 37 = .ok (.if_acmp .ne 8, 3) := by decide +kernel
theorem dX9_blame_40 : decode cX9_blame 40 = .ok (.bipush 8, 2) := by decide +kernel
theorem dX9_blame_42 : decode cX9_blame 42 = .ok (.goto 4, 3) := by decide +kernel
theorem dX9_blame_45 : decode cX9_blame 45 = .ok (.iconst 1, 1) := by decide +kernel
theorem dX9_blame_46 : decode cX9_blame 46 = .ok (.iadd, 1) := by decide +kernel
theorem dX9_blame_47 : decode cX9_blame 47 = .ok (.putfield 118, 3) := by decide +kernel
theorem dX9_blame_50 : decode cX9_blame 50 = .ok (.aload_n 3, 1) := by decide +kernel
theorem dX9_blame_51 : decode cX9_blame 51 = .ok (.invokevirtual 109, 3) := by decide +kernel
theorem dX9_blame_54 : decode cX9_blame 54 = .ok (.ifCond .eq 8, 3) := by decide +kernel
theorem dX9_blame_57 : decode cX9_blame 57 = .ok (.aload_n 0, 1) := by decide +kernel
theorem dX9_blame_58 : decode cX9_blame 58 = .ok (.aload_n 3, 1) := by decide +kernel
theorem dX9_blame_59 : decode cX9_blame 59 = .ok (.invokevirtual 205, 3) := by decide +kernel
theorem dX9_blame_62 : decode cX9_blame 62 = .ok (.iinc 2 1, 3) := by decide +kernel
theorem dX9_blame_65 : decode cX9_blame 65 = .ok (.goto (-63), 3) := by decide +kernel
theorem dX9_blame_68 : decode cX9_blame 68 = .ok (.return_, 1) := by decide +kernel
theorem dX9_silence_0 : decode cX9_silence 0 = .ok (.aload_n 1, 1) := by decide +kernel
theorem dX9_silence_1 : decode cX9_silence 1 = .ok (.aload_n 0, 1) := by decide +kernel
theorem dX9_silence_2 : decode cX9_silence 2 = .ok (.getfield 33, 3) := by decide +kernel
theorem dX9_silence_5 : decode cX9_silence 5 = .ok (.putfield 115, 3) := by decide +kernel
theorem dX9_silence_8 : decode cX9_silence 8 = .ok (.aload_n 0, 1) := by decide +kernel
theorem dX9_silence_9 : decode cX9_silence 9 = .ok (.dup, 1) := by decide +kernel
theorem dX9_silence_10 : decode cX9_silence 10 = .ok (.getfield 69, 3) := by decide +kernel
theorem dX9_silence_13 : decode cX9_silence 13 = .ok (.iconst 1, 1) := by decide +kernel
theorem dX9_silence_14 : decode cX9_silence 14 = .ok (.iadd, 1) := by decide +kernel
theorem dX9_silence_15 : decode cX9_silence 15 = .ok (.putfield 69, 3) := by decide +kernel
theorem dX9_silence_18 : decode cX9_silence 18 = .ok (.iconst 0, 1) := by decide +kernel
theorem dX9_silence_19 : decode cX9_silence 19 = .ok (.istore_n 2, 1) := by decide +kernel
theorem dX9_silence_20 : decode cX9_silence 20 = .ok (.iload_n 2, 1) := by decide +kernel
theorem dX9_silence_21 : decode cX9_silence 21 = .ok (.aload_n 0, 1) := by decide +kernel
theorem dX9_silence_22 : decode cX9_silence 22 = .ok (.getfield 25, 3) := by decide +kernel
theorem dX9_silence_25 : decode cX9_silence 25 = .ok (.getfield 60, 3) := by decide +kernel
theorem dX9_silence_28 : decode cX9_silence 28 = .ok (.if_icmp .ge 38, 3) := by decide +kernel
theorem dX9_silence_31 : decode cX9_silence 31 = .ok (.aload_n 0, 1) := by decide +kernel
theorem dX9_silence_32 : decode cX9_silence 32 = .ok (.getfield 25, 3) := by decide +kernel
theorem dX9_silence_35 : decode cX9_silence 35 = .ok (.getfield 120, 3) := by decide +kernel
theorem dX9_silence_38 : decode cX9_silence 38 = .ok (.iload_n 2, 1) := by decide +kernel
theorem dX9_silence_39 : decode cX9_silence 39 = .ok (.aaload, 1) := by decide +kernel
theorem dX9_silence_40 : decode cX9_silence 40 = .ok (.getfield 150, 3) := by decide +kernel
theorem dX9_silence_43 : decode cX9_silence 43 = .ok (.aload_n 1, 1) := by decide +kernel
theorem dX9_silence_44 : decode cX9_silence 44 = .ok (.if_acmp .ne 16, 3) := by decide +kernel
theorem dX9_silence_47 : decode cX9_silence 47 = .ok (.aload_n 0, 1) := by decide +kernel
theorem dX9_silence_48 : decode cX9_silence 48 = .ok (.aload_n 0, 1) := by decide +kernel
theorem dX9_silence_49 : decode cX9_silence 49 = .ok (.getfield 25, 3) := by decide +kernel
theorem dX9_silence_52 : decode cX9_silence 52 = .ok (.getfield 120, 3) := by decide +kernel
theorem dX9_silence_55 : decode cX9_silence 55 = .ok (.iload_n 2, 1) := by decide +kernel
theorem dX9_silence_56 : decode cX9_silence 56 = .ok (.aaload, 1) := by decide +kernel
theorem dX9_silence_57 : decode cX9_silence 57 = .ok (.invokevirtual 171, 3) := by decide +kernel
theorem dX9_silence_60 : decode cX9_silence 60 = .ok (.iinc 2 1, 3) := by decide +kernel
theorem dX9_silence_63 : decode cX9_silence 63 = .ok (.goto (-43), 3) := by decide +kernel
theorem dX9_silence_66 : decode cX9_silence 66 = .ok (.return_, 1) := by decide +kernel
theorem dX9_hear_0 : decode cX9_hear 0 = .ok (.aload_n 0, 1) := by decide +kernel
theorem dX9_hear_1 : decode cX9_hear 1 = .ok (.getfield 33, 3) := by decide +kernel
theorem dX9_hear_4 : decode cX9_hear 4 = .ok (.aload_n 0, 1) := by decide +kernel
theorem dX9_hear_5 : decode cX9_hear 5 = .ok (.getfield 179, 3) := by decide +kernel
theorem dX9_hear_8 : decode cX9_hear 8 = .ok (.isub, 1) := by decide +kernel
theorem dX9_hear_9 : decode cX9_hear 9 = .ok (.istore_n 2, 1) := by decide +kernel
theorem dX9_hear_10 : decode cX9_hear 10 = .ok (.aload_n 0, 1) := by decide +kernel
theorem dX9_hear_11 : decode cX9_hear 11 = .ok (.dup, 1) := by decide +kernel
theorem dX9_hear_12 : decode cX9_hear 12 = .ok (.getfield 37, 3) := by decide +kernel
theorem dX9_hear_15 : decode cX9_hear 15 = .ok (.iconst 1, 1) := by decide +kernel
theorem dX9_hear_16 : decode cX9_hear 16 = .ok (.iadd, 1) := by decide +kernel
theorem dX9_hear_17 : decode cX9_hear 17 = .ok (.putfield 37, 3) := by decide +kernel
theorem dX9_hear_20 : decode cX9_hear 20 = .ok (.aload_n 1, 1) := by decide +kernel
theorem dX9_hear_21 : decode cX9_hear 21 = .ok (.dup, 1) := by decide +kernel
theorem dX9_hear_22 : decode cX9_hear 22 = .ok (.getfield 208, 3) := by decide +kernel
theorem dX9_hear_25 : decode cX9_hear 25 = .ok (.iconst 1, 1) := by decide +kernel
theorem dX9_hear_26 : decode cX9_hear 26 = .ok (.iadd, 1) := by decide +kernel
theorem dX9_hear_27 : decode cX9_hear 27 = .ok (.putfield 208, 3) := by decide +kernel
theorem dX9_hear_30 : decode cX9_hear 30 = .ok (.aload_n 1, 1) := by decide +kernel
theorem dX9_hear_31 : decode cX9_hear 31 = .ok (.aload_n 1, 1) := by decide +kernel
theorem dX9_hear_32 : decode cX9_hear 32 = .ok (.getfield 209, 3) := by decide +kernel
theorem dX9_hear_35 : decode cX9_hear 35 = .ok (.iload_n 2, 1) := by decide +kernel
theorem dX9_hear_36 : decode cX9_hear 36 = .ok (.invokestatic 212, 3) := by decide +kernel
theorem dX9_hear_39 : decode cX9_hear 39 = .ok (.putfield 209, 3) := by decide +kernel
theorem dX9_hear_42 : decode cX9_hear 42 = .ok (.aload_n 0, 1) := by decide +kernel
theorem dX9_hear_43 : decode cX9_hear 43 = .ok (.getfield 21, 3) := by decide +kernel
theorem dX9_hear_46 : decode cX9_hear 46 = .ok (.aload_n 1, 1) := by decide +kernel
theorem dX9_hear_47 : decode cX9_hear 47 = .ok (.getfield 47, 3) := by decide +kernel
theorem dX9_hear_50 : decode cX9_hear 50 = .ok (.aload_n 0, 1) := by decide +kernel
theorem dX9_hear_51 : decode cX9_hear 51 = .ok (.getfield 182, 3) := by decide +kernel
theorem dX9_hear_54 : decode cX9_hear 54 = .ok (.aload_n 0, 1) := by decide +kernel
theorem dX9_hear_55 : decode cX9_hear 55 = .ok (.getfield 33, 3) := by decide +kernel
theorem dX9_hear_58 : decode cX9_hear 58 = .ok (.iload_n 2, 1) := by decide +kernel
theorem dX9_hear_59 : decode cX9_hear 59 = .ok (.invokevirtual 197, 3) := by decide +kernel
theorem dX9_hear_62 : decode cX9_hear 62 = .ok (.iconst 0, 1) := by decide +kernel
theorem dX9_hear_63 : decode cX9_hear 63 = .ok (.istore_n 3, 1) := by decide +kernel
theorem dX9_hear_64 : decode cX9_hear 64 = .ok (.iload_n 3, 1) := by decide +kernel
theorem dX9_hear_65 : decode cX9_hear 65 = .ok (.aload_n 0, 1) := by decide +kernel
theorem dX9_hear_66 : decode cX9_hear 66 = .ok (.getfield 25, 3) := by decide +kernel
theorem dX9_hear_69 : decode cX9_hear 69 = .ok (.getfield 55, 3) := by decide +kernel
theorem dX9_hear_72 : decode cX9_hear 72 = .ok (.if_icmp .ge 44, 3) := by decide +kernel
theorem dX9_hear_75 : decode cX9_hear 75 = .ok (.aload_n 0, 1) := by decide +kernel
theorem dX9_hear_76 : decode cX9_hear 76 = .ok (.getfield 25, 3) := by decide +kernel
theorem dX9_hear_79 : decode cX9_hear 79 = .ok (.getfield 105, 3) := by decide +kernel
theorem dX9_hear_82 : decode cX9_hear 82 = .ok (.iload_n 3, 1) := by decide +kernel
theorem dX9_hear_83 : decode cX9_hear 83 = .ok (.aaload, 1) := by decide +kernel
theorem dX9_hear_84 : decode cX9_hear 84 = .ok (.astore 4, 2) := by decide +kernel
theorem dX9_hear_86 : decode cX9_hear 86 = .ok (.aload 4, 2) := by decide +kernel
theorem dX9_hear_88 : decode cX9_hear 88 = .ok (.invokevirtual 109, 3) := by decide +kernel
theorem dX9_hear_91 : decode cX9_hear 91 = .ok (.ifCond .ne 19, 3) := by decide +kernel
theorem dX9_hear_94 : decode cX9_hear 94 = .ok (.aload 4, 2) := by decide +kernel
theorem dX9_hear_96 : decode cX9_hear 96 = .ok (.aload 4, 2) := by decide +kernel
theorem dX9_hear_98 : decode cX9_hear 98 = .ok (.getfield 118, 3) := by decide +kernel
theorem dX9_hear_101 : decode cX9_hear 101 = .ok (.iconst 1, 1) := by decide +kernel
theorem dX9_hear_102 : decode cX9_hear 102 = .ok (.isub, 1) := by decide +kernel
theorem dX9_hear_103 : decode cX9_hear 103 = .ok (.iconst 0, 1) := by decide +kernel
theorem dX9_hear_104 : decode cX9_hear 104 = .ok (.invokestatic 212, 3) := by decide +kernel
theorem dX9_hear_107 : decode cX9_hear 107 = .ok (.putfield 118, 3) := by decide +kernel
theorem dX9_hear_110 : decode cX9_hear 110 = .ok (.iinc 3 1, 3) := by decide +kernel
theorem dX9_hear_113 : decode cX9_hear 113 = .ok (.goto (-49), 3) := by decide +kernel
theorem dX9_hear_116 : decode cX9_hear 116 = .ok (.iconst 0, 1) := by decide +kernel
theorem dX9_hear_117 : decode cX9_hear 117 = .ok (.istore_n 3, 1) := by decide +kernel
theorem dX9_hear_118 : decode cX9_hear 118 = .ok (.iload_n 3, 1) := by decide +kernel
theorem dX9_hear_119 : decode cX9_hear 119 = .ok (.aload_n 0, 1) := by decide +kernel
theorem dX9_hear_120 : decode cX9_hear 120 = .ok (.getfield 25, 3) := by decide +kernel
theorem dX9_hear_123 : decode cX9_hear 123 = .ok (.getfield 60, 3) := by decide +kernel
theorem dX9_hear_126 : decode cX9_hear 126 = .ok (.if_icmp .ge 38, 3) := by decide +kernel
theorem dX9_hear_129 : decode cX9_hear 129 = .ok (.aload_n 0, 1) := by decide +kernel
theorem dX9_hear_130 : decode cX9_hear 130 = .ok (.getfield 25, 3) := by decide +kernel
theorem dX9_hear_133 : decode cX9_hear 133 = .ok (.getfield 120, 3) := by decide +kernel
theorem dX9_hear_136 : decode cX9_hear 136 = .ok (.iload_n 3, 1) := by decide +kernel
theorem dX9_hear_137 : decode cX9_hear 137 = .ok (.aaload, 1) := by decide +kernel
theorem dX9_hear_138 : decode cX9_hear 138 = .ok (.aload_n 1, 1) := by decide +kernel
theorem dX9_hear_139 : decode cX9_hear 139 = .ok (.invokevirtual 215, 3) := by decide +kernel
theorem dX9_hear_142 : decode cX9_hear 142 = .ok (.ifCond .eq 16, 3) := by decide +kernel
theorem dX9_hear_145 : decode cX9_hear 145 = .ok (.aload_n 0, 1) := by decide +kernel
theorem dX9_hear_146 : decode cX9_hear 146 = .ok (.getfield 25, 3) := by decide +kernel
theorem dX9_hear_149 : decode cX9_hear 149 = .ok (.getfield 120, 3) := by decide +kernel
theorem dX9_hear_152 : decode cX9_hear 152 = .ok (.iload_n 3, 1) := by decide +kernel
theorem dX9_hear_153 : decode cX9_hear 153 = .ok (.aaload, 1) := by decide +kernel
theorem dX9_hear_154 : decode cX9_hear 154 = .ok (.iconst 1, 1) := by decide +kernel
theorem dX9_hear_155 : decode cX9_hear 155 = .ok (.putfield 146, 3) := by decide +kernel
theorem dX9_hear_158 : decode cX9_hear 158 = .ok (.iinc 3 1, 3) := by decide +kernel
theorem dX9_hear_161 : decode cX9_hear 161 = .ok (.goto (-43), 3) := by decide +kernel
theorem dX9_hear_164 : decode cX9_hear 164 = .ok (.aload_n 0, 1) := by decide +kernel
theorem dX9_hear_165 : decode cX9_hear 165 = .ok (.invokevirtual 218, 3) := by decide +kernel
theorem dX9_hear_168 : decode cX9_hear 168 = .ok (.aload_n 0, 1) := by decide +kernel
theorem dX9_hear_169 : decode cX9_hear 169 = .ok (.aconst_null, 1) := by decide +kernel
theorem dX9_hear_170 : decode cX9_hear 170 = .ok (.putfield 43, 3) := by decide +kernel
theorem dX9_hear_173 : decode cX9_hear 173 = .ok (.aload_n 0, 1) := by decide +kernel
theorem dX9_hear_174 : decode cX9_hear 174 = .ok (.aload_n 0, 1) := by decide +kernel
theorem dX9_hear_175 : decode cX9_hear 175 = .ok (.getfield 33, 3) := by decide +kernel
theorem dX9_hear_178 : decode cX9_hear 178 = .ok (.iconst 4, 1) := by decide +kernel
theorem dX9_hear_179 : decode cX9_hear 179 = .ok (.iadd, 1) := by decide +kernel
theorem dX9_hear_180 : decode cX9_hear 180 = .ok (.putfield 52, 3) := by decide +kernel
theorem dX9_hear_183 : decode cX9_hear 183 = .ok (.return_, 1) := by decide +kernel
theorem dX10_init_0 : decode cX10_init 0 = .ok (.aload_n 0, 1) := by decide +kernel
theorem dX10_init_1 : decode cX10_init 1 = .ok (.invokespecial 3, 3) := by decide +kernel
theorem dX10_init_4 : decode cX10_init 4 = .ok (.aload_n 0, 1) := by decide +kernel
theorem dX10_init_5 : decode cX10_init 5 = .ok (.iconst (-1), 1) := by decide +kernel
theorem dX10_init_6 : decode cX10_init 6 = .ok (.putfield 9, 3) := by decide +kernel
theorem dX10_init_9 : decode cX10_init 9 = .ok (.aload_n 0, 1) := by decide +kernel
theorem dX10_init_10 : decode cX10_init 10 = .ok (.iconst (-1), 1) := by decide +kernel
theorem dX10_init_11 : decode cX10_init 11 = .ok (.putfield 15, 3) := by decide +kernel
theorem dX10_init_14 : decode cX10_init 14 = .ok (.aload_n 0, 1) := by decide +kernel
theorem dX10_init_15 : decode cX10_init 15 = .ok (.iload_n 1, 1) := by decide +kernel
theorem dX10_init_16 : decode cX10_init 16 = .ok (.putfield 18, 3) := by decide +kernel
theorem dX10_init_19 : decode cX10_init 19 = .ok (.aload_n 0, 1) := by decide +kernel
theorem dX10_init_20 : decode cX10_init 20 = .ok (.aload_n 2, 1) := by decide +kernel
theorem dX10_init_21 : decode cX10_init 21 = .ok (.putfield 21, 3) := by decide +kernel
theorem dX10_init_24 : decode cX10_init 24 = .ok (.aload_n 0, 1) := by decide +kernel
theorem dX10_init_25 : decode cX10_init 25 = .ok (.iload_n 3, 1) := by decide +kernel
theorem dX10_init_26 : decode cX10_init 26 = .ok (.putfield 25, 3) := by decide +kernel
theorem dX10_init_29 : decode cX10_init 29 = .ok (.aload_n 0, 1) := by decide +kernel
theorem dX10_init_30 : decode cX10_init 30 = .ok (.iload 4, 2) := by decide +kernel
theorem dX10_init_32 : decode cX10_init 32 = .ok (.bipush 10, 2) := by decide +kernel
theorem dX10_init_34 : decode cX10_init 34 = .ok (.idiv, 1) := by decide +kernel
theorem dX10_init_35 : decode cX10_init 35 = .ok (.putfield 28, 3) := by decide +kernel
theorem dX10_init_38 : decode cX10_init 38 = .ok (.aload_n 0, 1) := by decide +kernel
theorem dX10_init_39 : decode cX10_init 39 = .ok (.iload 4, 2) := by decide +kernel
theorem dX10_init_41 : decode cX10_init 41 = .ok (.bipush 10, 2) := by decide +kernel
theorem dX10_init_43 : decode cX10_init 43 = .ok (.irem, 1) := by decide +kernel
theorem dX10_init_44 : decode cX10_init 44 = .ok (.putfield 31, 3) := by decide +kernel
theorem dX10_init_47 : decode cX10_init 47 = .ok (.aload_n 0, 1) := by decide +kernel
theorem dX10_init_48 : decode cX10_init 48 = .ok (.iload 5, 2) := by decide +kernel
theorem dX10_init_50 : decode cX10_init 50 = .ok (.putfield 34, 3) := by decide +kernel
theorem dX10_init_53 : decode cX10_init 53 = .ok (.aload_n 0, 1) := by decide +kernel
theorem dX10_init_54 : decode cX10_init 54 = .ok (.iload 6, 2) := by decide +kernel
theorem dX10_init_56 : decode cX10_init 56 = .ok (.putfield 37, 3) := by decide +kernel
theorem dX10_init_59 : decode cX10_init 59 = .ok (.aload_n 0, 1) := by decide +kernel
theorem dX10_init_60 : decode cX10_init 60 = .ok (.iload 5, 2) := by decide +kernel
theorem dX10_init_62 : decode cX10_init 62 = .ok (.putfield 40, 3) := by decide +kernel
theorem dX10_init_65 : decode cX10_init 65 = .ok (.return_, 1) := by decide +kernel
theorem dX10_leaveOutBefore_0 : decode cX10_leaveOutBefore 0 = .ok (.aload_n 0, 1) := by decide +kernel
theorem dX10_leaveOutBefore_1 : decode cX10_leaveOutBefore 1 = .ok (.invokevirtual 43, 3) := by decide +kernel
theorem dX10_leaveOutBefore_4 : decode cX10_leaveOutBefore 4 = .ok (.ifCond .eq 35, 3) := by decide +kernel
theorem dX10_leaveOutBefore_7 : decode cX10_leaveOutBefore 7 = .ok (.iload_n 1, 1) := by decide +kernel
theorem dX10_leaveOutBefore_8 : decode cX10_leaveOutBefore 8 = .ok (.aload_n 0, 1) := by decide +kernel
theorem dX10_leaveOutBefore_9 : decode cX10_leaveOutBefore 9 = .ok (.getfield 37, 3) := by decide +kernel
theorem dX10_leaveOutBefore_12 : decode cX10_leaveOutBefore 12 = .ok (.if_icmp .le 27, 3) := by decide +kernel
theorem dX10_leaveOutBefore_15 : decode cX10_leaveOutBefore 15 = .ok (.aload_n 0, 1) := by decide +kernel
theorem dX10_leaveOutBefore_16 : decode cX10_leaveOutBefore 16 = .ok (.iload_n 1, 1) := by decide +kernel
theorem dX10_leaveOutBefore_17 : decode cX10_leaveOutBefore 17 = .ok (.aload_n 0, 1) := by decide +kernel
theorem dX10_leaveOutBefore_18 : decode cX10_leaveOutBefore 18 = .ok (.getfield 37, 3) := by decide +kernel
theorem dX10_leaveOutBefore_21 : decode cX10_leaveOutBefore 21 = .ok (.isub, 1) := by decide +kernel
theorem dX10_leaveOutBefore_22 : decode cX10_leaveOutBefore 22 = .ok (.aload_n 0, 1) := by decide +kernel
theorem dX10_leaveOutBefore_23 : decode cX10_leaveOutBefore 23 = .ok (.getfield 34, 3) := by decide +kernel
theorem dX10_leaveOutBefore_26 : decode cX10_leaveOutBefore 26 = .ok (.iadd, 1) := by decide +kernel
theorem dX10_leaveOutBefore_27 : decode cX10_leaveOutBefore 27 = .ok (.iconst 1, 1) := by decide +kernel
theorem dX10_leaveOutBefore_28 : decode cX10_leaveOutBefore 28 = .ok (.isub, 1) := by decide +kernel
theorem dX10_leaveOutBefore_29 : decode cX10_leaveOutBefore 29 = .ok (.aload_n 0, 1) := by decide +kernel
theorem dX10_leaveOutBefore_30 : decode cX10_leaveOutBefore 30 = .ok (.getfield 34, 3) := by decide +kernel
theorem dX10_leaveOutBefore_33 : decode cX10_leaveOutBefore 33 = .ok (.invokestatic 47, 3) := by decide +kernel
theorem dX10_leaveOutBefore_36 : decode cX10_leaveOutBefore 36 = .ok (.putfield 51, 3) := by decide +kernel
theorem dX10_leaveOutBefore_39 : decode cX10_leaveOutBefore 39 = .ok (.return_, 1) := by decide +kernel
theorem dX10_comesByTimes_0 : decode cX10_comesByTimes 0 = .ok (.aload_n 0, 1) := by decide +kernel
theorem dX10_comesByTimes_1 : decode cX10_comesByTimes 1 = .ok (.getfield 28, 3) := by decide +kernel
theorem dX10_comesByTimes_4 : decode cX10_comesByTimes 4 = .ok (.ifCond .eq 11, 3) := by decide +kernel
theorem dX10_comesByTimes_7 : decode cX10_comesByTimes 7 = .ok (.aload_n 0, 1) := by decide +kernel
theorem dX10_comesByTimes_8 : decode cX10_comesByTimes 8 = .ok (.getfield 28, 3) := by decide +kernel
theorem dX10_comesByTimes_11 : decode cX10_comesByTimes 11 = .ok (.iconst 1, 1) := by decide +kernel
theorem dX10_comesByTimes_12 : decode cX10_comesByTimes 12 = .ok (.if_icmp .ne 7, 3) := by decide +kernel
theorem dX10_comesByTimes_15 : decode cX10_comesByTimes 15 = .ok (.iconst 1, 1) := by decide +kernel
theorem dX10_comesByTimes_16 : decode cX10_comesByTimes 16 = .ok (.goto 4, 3) := by decide +kernel
theorem dX10_comesByTimes_19 : decode cX10_comesByTimes 19 = .ok (.iconst 0, 1) := by decide +kernel
theorem dX10_comesByTimes_20 : decode cX10_comesByTimes 20 = .ok (.ireturn, 1) := by decide +kernel
theorem dX10_timeWithoutLate_0 : decode cX10_timeWithoutLate 0 = .ok (.aload_n 0, 1) := by decide +kernel
theorem dX10_timeWithoutLate_1 : decode cX10_timeWithoutLate 1 = .ok (.getfield 37, 3) := by decide +kernel
theorem dX10_timeWithoutLate_4 : decode cX10_timeWithoutLate 4 = .ok (.aload_n 0, 1) := by decide +kernel
theorem dX10_timeWithoutLate_5 : decode cX10_timeWithoutLate 5 = .ok (.getfield 51, 3) := by decide +kernel
theorem dX10_timeWithoutLate_8 : decode cX10_timeWithoutLate 8 = .ok (.aload_n 0, 1) := by decide +kernel
theorem dX10_timeWithoutLate_9 : decode cX10_timeWithoutLate 9 = .ok (.getfield 34, 3) := by decide +kernel
theorem dX10_timeWithoutLate_12 : decode cX10_timeWithoutLate 12 = .ok (.imul, 1) := by decide +kernel
theorem dX10_timeWithoutLate_13 : decode cX10_timeWithoutLate 13 = .ok (.iadd, 1) := by decide +kernel
theorem dX10_timeWithoutLate_14 : decode cX10_timeWithoutLate 14 = .ok (.ireturn, 1) := by decide +kernel
theorem dX10_dueTick_0 : decode cX10_dueTick 0 = .ok (.aload_n 0, 1) := by decide +kernel
theorem dX10_dueTick_1 : decode cX10_dueTick 1 = .ok (.invokevirtual 43, 3) := by decide +kernel
theorem dX10_dueTick_4 : decode cX10_dueTick 4 = .ok (.ifCond .eq 25, 3) := by decide +kernel
theorem dX10_dueTick_7 : decode cX10_dueTick 7 = .ok (.aload_n 0, 1) := by decide +kernel
theorem dX10_dueTick_8 : decode cX10_dueTick 8 = .ok (.invokevirtual 54, 3) := by decide +kernel
theorem dX10_dueTick_11 : decode cX10_dueTick 11 = .ok (.bipush 7, 2) := by decide +kernel
theorem dX10_dueTick_13 : decode cX10_dueTick 13 = .ok (.aload_n 0, 1) := by decide +kernel
theorem dX10_dueTick_14 : decode cX10_dueTick 14 = .ok (.getfield 51, 3) := by decide +kernel
theorem dX10_dueTick_17 : decode cX10_dueTick 17 = .ok (.imul, 1) := by decide +kernel
theorem dX10_dueTick_18 : decode cX10_dueTick 18 = .ok (.aload_n 0, 1) := by decide +kernel
theorem dX10_dueTick_19 : decode cX10_dueTick 19 = .ok (.getfield 58, 3) := by decide +kernel
theorem dX10_dueTick_22 : decode cX10_dueTick 22 = .ok (.iconst 1, 1) := by decide +kernel
theorem dX10_dueTick_23 : decode cX10_dueTick 23 = .ok (.iadd, 1) := by decide +kernel
theorem dX10_dueTick_24 : decode cX10_dueTick 24 = .ok (.invokestatic 61, 3) := by decide +kernel
theorem dX10_dueTick_27 : decode cX10_dueTick 27 = .ok (.iadd, 1) := by decide +kernel
theorem dX10_dueTick_28 : decode cX10_dueTick 28 = .ok (.ireturn, 1) := by decide +kernel
theorem dX10_dueTick_29 : decode cX10_dueTick 29 = .ok (.aload_n 0, 1) := by decide +kernel
theorem dX10_dueTick_30 : decode cX10_dueTick 30 = .ok (.getfield 64, 3) := by decide +kernel
theorem dX10_dueTick_33 : decode cX10_dueTick 33 = .ok (.ifCond .eq 7, 3) := by decide +kernel
theorem dX10_dueTick_36 : decode cX10_dueTick 36 = .ok (.iconst 0, 1) := by decide +kernel
theorem dX10_dueTick_37 : decode cX10_dueTick 37 = .ok (.goto 5, 3) := by decide +kernel
theorem dX10_dueTick_40 : decode cX10_dueTick 40 = .ok (.ldc 68, 2) := by decide +kernel
theorem dX10_dueTick_42 : decode cX10_dueTick 42 = .ok (.ireturn, 1) := by decide +kernel
theorem dX10_calledWithinT_0 : decode cX10_calledWithinT 0 = .ok (.aload_n 0, 1) := by decide +kernel
theorem dX10_calledWithinT_1 : decode cX10_calledWithinT 1 = .ok (.getfield 15, 3) := by decide +kernel
theorem dX10_calledWithinT_4 : decode cX10_calledWithinT 4 = .ok (.iconst (-1), 1) := by decide +kernel
theorem dX10_calledWithinT_5 : decode cX10_calledWithinT 5 = .ok (.if_icmp .eq 20, 3) := by decide +kernel
theorem dX10_calledWithinT_8 : decode cX10_calledWithinT 8 = .ok (.iload_n 1, 1) := by decide +kernel
theorem dX10_calledWithinT_9 : decode cX10_calledWithinT 9 = .ok (.aload_n 0, 1) := by decide +kernel
theorem dX10_calledWithinT_10 : decode cX10_calledWithinT 10 = .ok (.getfield 15, 3) := by decide +kernel
theorem dX10_calledWithinT_13 : decode cX10_calledWithinT 13 = .ok (.isub, 1) := by decide +kernel
theorem dX10_calledWithinT_14 : decode cX10_calledWithinT 14 = .ok (.aload_n 0, 1) := by decide +kernel
theorem dX10_calledWithinT_15 : decode cX10_calledWithinT 15 = .ok (.getfield 34, 3) := by decide +kernel
theorem dX10_calledWithinT_18 : decode cX10_calledWithinT 18 = .ok (.if_icmp .ge 7, 3) := by decide +kernel
theorem dX10_calledWithinT_21 : decode cX10_calledWithinT 21 = .ok (.iconst 1, 1) := by decide +kernel
theorem dX10_calledWithinT_22 : decode cX10_calledWithinT 22 = .ok (.goto 4, 3) := by decide +kernel
theorem dX10_calledWithinT_25 : decode cX10_calledWithinT 25 = .ok (.iconst 0, 1) := by decide +kernel
theorem dX10_calledWithinT_26 : decode cX10_calledWithinT 26 = .ok (.ireturn, 1) := by decide +kernel
theorem dX10_isAnswerTo_0 : decode cX10_isAnswerTo 0 = .ok (.aload_n 0, 1) := by decide +kernel
theorem dX10_isAnswerTo_1 : decode cX10_isAnswerTo 1 = .ok (.getfield 28, 3) := by decide +kernel
theorem dX10_isAnswerTo_4 : decode cX10_isAnswerTo 4 = .ok (.iconst 3, 1) := by decide +kernel
theorem dX10_isAnswerTo_5 : decode cX10_isAnswerTo 5 = .ok (.if_icmp .ne 18, 3) := by decide +kernel
theorem dX10_isAnswerTo_8 : decode cX10_isAnswerTo 8 = .ok (.aload_n 0, 1) := by decide +kernel
theorem dX10_isAnswerTo_9 : decode cX10_isAnswerTo 9 = .ok (.getfield 37, 3) := by decide +kernel
theorem dX10_isAnswerTo_12 : decode cX10_isAnswerTo 12 = .ok (.aload_n 1, 1) := by decide +kernel
theorem dX10_isAnswerTo_13 : decode cX10_isAnswerTo 13 = .ok (.getfield 18, 3) := by decide +kernel
theorem dX10_isAnswerTo_16 : decode cX10_isAnswerTo 16 = .ok (.if_icmp .ne 7, 3) := by decide +kernel
theorem dX10_isAnswerTo_19 : decode cX10_isAnswerTo 19 = .ok (.iconst 1, 1) := by decide +kernel
theorem dX10_isAnswerTo_20 : decode cX10_isAnswerTo 20 = .ok (.goto 4, 3) := by decide +kernel
theorem dX10_isAnswerTo_23 : decode cX10_isAnswerTo 23 = .ok (.iconst 0, 1) := by decide +kernel
theorem dX10_isAnswerTo_24 : decode cX10_isAnswerTo 24 = .ok (.ireturn, 1) := by decide +kernel
theorem dX10_goesAheadOf_0 : decode cX10_goesAheadOf 0 = .ok (.aload_n 0, 1) := by decide +kernel
theorem dX10_goesAheadOf_1 : decode cX10_goesAheadOf 1 = .ok (.invokevirtual 69, 3) := by decide +kernel
theorem dX10_goesAheadOf_4 : decode cX10_goesAheadOf 4 = .ok (.aload_n 1, 1) := by decide +kernel
theorem dX10_goesAheadOf_5 : decode cX10_goesAheadOf 5 = .ok (.invokevirtual 69, 3) := by decide +kernel
theorem dX10_goesAheadOf_8 : decode cX10_goesAheadOf 8 = .ok (.if_icmp .ge 7, 3) := by decide +kernel
theorem dX10_goesAheadOf_11 : decode cX10_goesAheadOf 11 = .ok (.iconst 1, 1) := by decide +kernel
theorem dX10_goesAheadOf_12 : decode cX10_goesAheadOf 12 = .ok (.goto 4, 3) := by decide +kernel
theorem dX10_goesAheadOf_15 : decode cX10_goesAheadOf 15 = .ok (.iconst 0, 1) := by decide +kernel
theorem dX10_goesAheadOf_16 : decode cX10_goesAheadOf 16 = .ok (.ireturn, 1) := by decide +kernel
theorem dX10_rankKey_0 : decode cX10_rankKey 0 = .ok (.aload_n 0, 1) := by decide +kernel
theorem dX10_rankKey_1 : decode cX10_rankKey 1 = .ok (.getfield 25, 3) := by decide +kernel
theorem dX10_rankKey_4 : decode cX10_rankKey 4 = .ok (.sipush 2048, 3) := by decide +kernel
theorem dX10_rankKey_7 : decode cX10_rankKey 7 = .ok (.if_icmp .ge 11, 3) := by decide +kernel
theorem dX10_rankKey_10 : decode cX10_rankKey 10 = .ok (.aload_n 0, 1) := by decide +kernel
theorem dX10_rankKey_11 : decode cX10_rankKey 11 = .ok (.getfield 25, 3) := by decide +kernel
theorem dX10_rankKey_14 : decode cX10_rankKey 14 = .ok (.bipush 19, 2) := by decide +kernel
theorem dX10_rankKey_16 : decode cX10_rankKey 16 = .ok (.ishl, 1) := by decide +kernel
theorem dX10_rankKey_17 : decode cX10_rankKey 17 = .ok (.ireturn, 1) := by decide +kernel
theorem dX10_rankKey_18 : decode cX10_rankKey 18 = .ok (.aload_n 0, 1) := by decide +kernel
theorem dX10_rankKey_19 : decode cX10_rankKey 19 = .ok (.getfield 25, 3) := by decide +kernel
theorem dX10_rankKey_22 : decode cX10_rankKey 22 = .ok (.sipush 2048, 3) := by decide +kernel
theorem dX10_rankKey_25 : decode cX10_rankKey 25 = .ok (.isub, 1) := by decide +kernel
theorem dX10_rankKey_26 : decode cX10_rankKey 26 = .ok (.istore_n 1, 1) := by decide +kernel
theorem dX10_rankKey_27 : decode cX10_rankKey 27 = .ok (.iload_n 1, 1) := by decide +kernel
theorem dX10_rankKey_28 : decode cX10_rankKey 28 = .ok (.bipush 18, 2) := by decide +kernel
theorem dX10_rankKey_30 : decode cX10_rankKey 30 = .ok (.iushr, 1) := by decide +kernel
theorem dX10_rankKey_31 : decode cX10_rankKey 31 = .ok (.istore_n 2, 1) := by decide +kernel
theorem dX10_rankKey_32 : decode cX10_rankKey 32 = .ok (.iload_n 2, 1) := by decide +kernel
theorem dX10_rankKey_33 : decode cX10_rankKey 33 = .ok (.iconst 1, 1) := by decide +kernel
theorem dX10_rankKey_34 : decode cX10_rankKey 34 = .ok (.ishl, 1) := by decide +kernel
theorem dX10_rankKey_35 : decode cX10_rankKey 35 = .ok (.iconst 1, 1) := by decide +kernel
theorem dX10_rankKey_36 : decode cX10_rankKey 36 = .ok (.ior, 1) := by decide +kernel
theorem dX10_rankKey_37 : decode cX10_rankKey 37 = .ok (.bipush 18, 2) := by decide +kernel
theorem dX10_rankKey_39 : decode cX10_rankKey 39 = .ok (.ishl, 1) := by decide +kernel
theorem dX10_rankKey_40 : decode cX10_rankKey 40 = .ok (.iload_n 1, 1) := by decide +kernel
theorem dX10_rankKey_41 : decode cX10_rankKey 41 = .ok (.ldc 72, 2) := by decide +kernel
theorem dX10_rankKey_43 : decode cX10_rankKey 43 = .ok (.iand, 1) := by decide +kernel
theorem dX10_rankKey_44 : decode cX10_rankKey 44 = .ok (.ior, 1) := by decide +kernel
theorem dX10_rankKey_45 : decode cX10_rankKey 45 = .ok (.ireturn, 1) := by decide +kernel
theorem dX10_cost_0 : decode cX10_cost 0 = .ok (.bipush 32, 2) := by decide +kernel
theorem dX10_cost_2 : decode cX10_cost 2 = .ok (.bipush 8, 2) := by decide +kernel
theorem dX10_cost_4 : decode cX10_cost 4 = .ok (.aload_n 0, 1) := by decide +kernel
theorem dX10_cost_5 : decode cX10_cost 5 = .ok (.getfield 31, 3) := by decide +kernel
theorem dX10_cost_8 : decode cX10_cost 8 = .ok (.imul, 1) := by decide +kernel
theorem dX10_cost_9 : decode cX10_cost 9 = .ok (.iadd, 1) := by decide +kernel
theorem dX10_cost_10 : decode cX10_cost 10 = .ok (.aload_n 0, 1) := by decide +kernel
theorem dX10_cost_11 : decode cX10_cost 11 = .ok (.getfield 25, 3) := by decide +kernel
theorem dX10_cost_14 : decode cX10_cost 14 = .ok (.sipush 2048, 3) := by decide +kernel
theorem dX10_cost_17 : decode cX10_cost 17 = .ok (.if_icmp .ge 7, 3) := by decide +kernel
theorem dX10_cost_20 : decode cX10_cost 20 = .ok (.iconst 0, 1) := by decide +kernel
theorem dX10_cost_21 : decode cX10_cost 21 = .ok (.goto 5, 3) := by decide +kernel
theorem dX10_cost_24 : decode cX10_cost 24 = .ok (.bipush 18, 2) := by decide +kernel
theorem dX10_cost_26 : decode cX10_cost 26 = .ok (.iadd, 1) := by decide +kernel
theorem dX10_cost_27 : decode cX10_cost 27 = .ok (.istore_n 1, 1) := by decide +kernel
theorem dX10_cost_28 : decode cX10_cost 28 = .ok (.iload_n 1, 1) := by decide +kernel
theorem dX10_cost_29 : decode cX10_cost 29 = .ok (.iload_n 1, 1) := by decide +kernel
theorem dX10_cost_30 : decode cX10_cost 30 = .ok (.iconst 1, 1) := by decide +kernel
theorem dX10_cost_31 : decode cX10_cost 31 = .ok (.isub, 1) := by decide +kernel
theorem dX10_cost_32 : decode cX10_cost 32 = .ok (.iconst 4, 1) := by decide +kernel
theorem dX10_cost_33 : decode cX10_cost 33 = .ok (.idiv, 1) := by decide +kernel
theorem dX10_cost_34 : decode cX10_cost 34 = .ok (.iadd, 1) := by decide +kernel
theorem dX10_cost_35 : decode cX10_cost 35 = .ok (.bipush 13, 2) := by decide +kernel
theorem dX10_cost_37 : decode cX10_cost 37 = .ok (.iadd, 1) := by decide +kernel
theorem dX10_cost_38 : decode cX10_cost 38 = .ok (.ireturn, 1) := by decide +kernel
theorem dX10_fits_0 : decode cX10_fits 0 = .ok (.iload_n 1, 1) := by decide +kernel
theorem dX10_fits_1 : decode cX10_fits 1 = .ok (.iconst (-1), 1) := by decide +kernel
theorem dX10_fits_2 : decode cX10_fits 2 = .ok (.if_icmp .eq 15, 3) := by decide +kernel
theorem dX10_fits_5 : decode cX10_fits 5 = .ok (.iload_n 1, 1) := by decide +kernel
theorem dX10_fits_6 : decode cX10_fits 6 = .ok (.aload_n 0, 1) := by decide +kernel
theorem dX10_fits_7 : decode cX10_fits 7 = .ok (.getfield 40, 3) := by decide +kernel
theorem dX10_fits_10 : decode cX10_fits 10 = .ok (.if_icmp .gt 7, 3) := by decide +kernel
theorem dX10_fits_13 : decode cX10_fits 13 = .ok (.iconst 1, 1) := by decide +kernel
theorem dX10_fits_14 : decode cX10_fits 14 = .ok (.goto 4, 3) := by decide +kernel
theorem dX10_fits_17 : decode cX10_fits 17 = .ok (.iconst 0, 1) := by decide +kernel
theorem dX10_fits_18 : decode cX10_fits 18 = .ok (.ireturn, 1) := by decide +kernel
theorem dX10_answer_0 : decode cX10_answer 0 = .ok (.iload_n 1, 1) := by decide +kernel
theorem dX10_answer_1 : decode cX10_answer 1 = .ok (.tableswitch 125 0 10 #[59, 67, 72, 77, 82, 87, 92, 97, 102, 115, 120], 59) := by decide +kernel
theorem dX10_answer_60 : decode cX10_answer 60 = .ok (.aload_n 0, 1) := by decide +kernel
theorem dX10_answer_61 : decode cX10_answer 61 = .ok (.getfield 21, 3) := by decide +kernel
theorem dX10_answer_64 : decode cX10_answer 64 = .ok (.getfield 73, 3) := by decide +kernel
theorem dX10_answer_67 : decode cX10_answer 67 = .ok (.ireturn, 1) := by decide +kernel
theorem dX10_answer_68 : decode cX10_answer 68 = .ok (.aload_n 0, 1) := by decide +kernel
theorem dX10_answer_69 : decode cX10_answer 69 = .ok (.getfield 25, 3) := by decide +kernel
theorem dX10_answer_72 : decode cX10_answer 72 = .ok (.ireturn, 1) := by decide +kernel
theorem dX10_answer_73 : decode cX10_answer 73 = .ok (.aload_n 0, 1) := by decide +kernel
theorem dX10_answer_74 : decode cX10_answer 74 = .ok (.getfield 28, 3) := by decide +kernel
theorem dX10_answer_77 : decode cX10_answer 77 = .ok (.ireturn, 1) := by decide +kernel
theorem dX10_answer_78 : decode cX10_answer 78 = .ok (.aload_n 0, 1) := by decide +kernel
theorem dX10_answer_79 : decode cX10_answer 79 = .ok (.getfield 31, 3) := by decide +kernel
theorem dX10_answer_82 : decode cX10_answer 82 = .ok (.ireturn, 1) := by decide +kernel
theorem dX10_answer_83 : decode cX10_answer 83 = .ok (.aload_n 0, 1) := by decide +kernel
theorem dX10_answer_84 : decode cX10_answer 84 = .ok (.getfield 34, 3) := by decide +kernel
theorem dX10_answer_87 : decode cX10_answer 87 = .ok (.ireturn, 1) := by decide +kernel
theorem dX10_answer_88 : decode cX10_answer 88 = .ok (.aload_n 0, 1) := by decide +kernel
theorem dX10_answer_89 : decode cX10_answer 89 = .ok (.getfield 37, 3) := by decide +kernel
theorem dX10_answer_92 : decode cX10_answer 92 = .ok (.ireturn, 1) := by decide +kernel
theorem dX10_answer_93 : decode cX10_answer 93 = .ok (.aload_n 0, 1) := by decide +kernel
theorem dX10_answer_94 : decode cX10_answer 94 = .ok (.getfield 58, 3) := by decide +kernel
theorem dX10_answer_97 : decode cX10_answer 97 = .ok (.ireturn, 1) := by decide +kernel
theorem dX10_answer_98 : decode cX10_answer 98 = .ok (.aload_n 0, 1) := by decide +kernel
theorem dX10_answer_99 : decode cX10_answer 99 = .ok (.getfield 40, 3) := by decide +kernel
theorem dX10_answer_102 : decode cX10_answer 102 = .ok (.ireturn, 1) := by decide +kernel
theorem dX10_answer_103 : decode cX10_answer 103 = .ok (.aload_n 0, 1) := by decide +kernel
theorem dX10_answer_104 : decode cX10_answer 104 = .ok (.getfield 76, 3) := by decide +kernel
theorem dX10_answer_107 : decode cX10_answer 107 = .ok (.ifCond .eq 7, 3) := by decide +kernel
theorem dX10_answer_110 : decode cX10_answer 110 = .ok (.iconst 1, 1) := by decide +kernel
theorem dX10_answer_111 : decode cX10_answer 111 = .ok (.goto 4, 3) := by decide +kernel
theorem dX10_answer_114 : decode cX10_answer 114 = .ok (.iconst 0, 1) := by decide +kernel
theorem dX10_answer_115 : decode cX10_answer 115 = .ok (.ireturn, 1) := by decide +kernel
theorem dX10_answer_116 : decode cX10_answer 116 = .ok (.aload_n 0, 1) := by decide +kernel
theorem dX10_answer_117 : decode cX10_answer 117 = .ok (.getfield 79, 3) := by decide +kernel
theorem dX10_answer_120 : decode cX10_answer 120 = .ok (.ireturn, 1) := by decide +kernel
theorem dX10_answer_121 : decode cX10_answer 121 = .ok (.aload_n 0, 1) := by decide +kernel
theorem dX10_answer_122 : decode cX10_answer 122 = .ok (.getfield 82, 3) := by decide +kernel
theorem dX10_answer_125 : decode cX10_answer 125 = .ok (.ireturn, 1) := by decide +kernel
theorem dX10_answer_126 : decode cX10_answer 126 = .ok (.aload_n 0, 1) := by decide +kernel
theorem dX10_answer_127 : decode cX10_answer 127 = .ok (.getfield 9, 3) := by decide +kernel
theorem dX10_answer_130 : decode cX10_answer 130 = .ok (.ireturn, 1) := by decide +kernel
theorem dX11_init_0 : decode cX11_init 0 = .ok (.aload_n 0, 1) := by decide +kernel
theorem dX11_init_1 : decode cX11_init 1 = .ok (.invokespecial 3, 3) := by decide +kernel
theorem dX11_init_4 : decode cX11_init 4 = .ok (.aload_n 0, 1) := by decide +kernel
theorem dX11_init_5 : decode cX11_init 5 = .ok (.new 9, 3) := by decide +kernel
theorem dX11_init_8 : decode cX11_init 8 = .ok (.dup, 1) := by decide +kernel
theorem dX11_init_9 : decode cX11_init 9 = .ok (.invokespecial 11, 3) := by decide +kernel
theorem dX11_init_12 : decode cX11_init 12 = .ok (.putfield 12, 3) := by decide +kernel
theorem dX11_init_15 : decode cX11_init 15 = .ok (.aload_n 0, 1) := by decide +kernel
theorem dX11_init_16 : decode cX11_init 16 = .ok (.new 16, 3) := by decide +kernel
theorem dX11_init_19 : decode cX11_init 19 = .ok (.dup, 1) := by decide +kernel
theorem dX11_init_20 : decode cX11_init 20 = .ok (.invokespecial 18, 3) := by decide +kernel
theorem dX11_init_23 : decode cX11_init 23 = .ok (.putfield 19, 3) := by decide +kernel
theorem dX11_init_26 : decode cX11_init 26 = .ok (.aload_n 0, 1) := by decide +kernel
theorem dX11_init_27 : decode cX11_init 27 = .ok (.new 23, 3) := by decide +kernel
theorem dX11_init_30 : decode cX11_init 30 = .ok (.dup, 1) := by decide +kernel
theorem dX11_init_31 : decode cX11_init 31 = .ok (.invokespecial 25, 3) := by decide +kernel
theorem dX11_init_34 : decode cX11_init 34 = .ok (.putfield 26, 3) := by decide +kernel
theorem dX11_init_37 : decode cX11_init 37 = .ok (.aload_n 0, 1) := by decide +kernel
theorem dX11_init_38 : decode cX11_init 38 = .ok (.new 30, 3) := by decide +kernel
theorem dX11_init_41 : decode cX11_init 41 = .ok (.dup, 1) := by decide +kernel
theorem dX11_init_42 : decode cX11_init 42 = .ok (.aload_n 0, 1) := by decide +kernel
theorem dX11_init_43 : decode cX11_init 43 = .ok (.getfield 26, 3) := by decide +kernel
theorem dX11_init_46 : decode cX11_init 46 = .ok (.invokespecial 32, 3) := by decide +kernel
theorem dX11_init_49 : decode cX11_init 49 = .ok (.putfield 35, 3) := by decide +kernel
theorem dX11_init_52 : decode cX11_init 52 = .ok (.aload_n 0, 1) := by decide +kernel
theorem dX11_init_53 : decode cX11_init 53 = .ok (.new 39, 3) := by decide +kernel
theorem dX11_init_56 : decode cX11_init 56 = .ok (.dup, 1) := by decide +kernel
theorem dX11_init_57 : decode cX11_init 57 = .ok (.aload_n 0, 1) := by decide +kernel
theorem dX11_init_58 : decode cX11_init 58 = .ok (.getfield 12, 3) := by decide +kernel
theorem dX11_init_61 : decode cX11_init 61 = .ok (.aload_n 0, 1) := by decide +kernel
theorem dX11_init_62 : decode cX11_init 62 = .ok (.getfield 19, 3) := by decide +kernel
theorem dX11_init_65 : decode cX11_init 65 = .ok (.invokespecial 41, 3) := by decide +kernel
theorem dX11_init_68 : decode cX11_init 68 = .ok (.putfield 44, 3) := by decide +kernel
theorem dX11_init_71 : decode cX11_init 71 = .ok (.aload_n 0, 1) := by decide +kernel
theorem dX11_init_72 : decode cX11_init 72 = .ok (.new 48, 3) := by decide +kernel
theorem dX11_init_75 : decode cX11_init 75 = .ok (.dup, 1) := by decide +kernel
theorem dX11_init_76 : decode cX11_init 76 = .ok (.aload_n 0, 1) := by decide +kernel
theorem dX11_init_77 : decode cX11_init 77 = .ok (.getfield 12, 3) := by decide +kernel
theorem dX11_init_80 : decode cX11_init 80 = .ok (.invokespecial 50, 3) := by decide +kernel
theorem dX11_init_83 : decode cX11_init 83 = .ok (.putfield 53, 3) := by decide +kernel
theorem dX11_init_86 : decode cX11_init 86 = .ok (.aload_n 0, 1) := by decide +kernel
theorem dX11_init_87 : decode cX11_init 87 = .ok (.new 57, 3) := by decide +kernel
theorem dX11_init_90 : decode cX11_init 90 = .ok (.dup, 1) := by decide +kernel
theorem dX11_init_91 : decode cX11_init 91 = .ok (.invokespecial 59, 3) := by decide +kernel
theorem dX11_init_94 : decode cX11_init 94 = .ok (.putfield 60, 3) := by decide +kernel
theorem dX11_init_97 : decode cX11_init 97 = .ok (.aload_n 0, 1) := by decide +kernel
theorem dX11_init_98 : decode cX11_init 98 = .ok (.bipush 10, 2) := by decide +kernel
theorem dX11_init_100 : decode cX11_init 100 = .ok (.newarray .int, 2) := by decide +kernel
theorem dX11_init_102 : decode cX11_init 102 = .ok (.putfield 64, 3) := by decide +kernel
theorem dX11_init_105 : decode cX11_init 105 = .ok (.return_, 1) := by decide +kernel
theorem dX11_node_0 : decode cX11_node 0 = .ok (.aload_n 0, 1) := by decide +kernel
theorem dX11_node_1 : decode cX11_node 1 = .ok (.getfield 12, 3) := by decide +kernel
theorem dX11_node_4 : decode cX11_node 4 = .ok (.getfield 68, 3) := by decide +kernel
theorem dX11_node_7 : decode cX11_node 7 = .ok (.bipush 10, 2) := by decide +kernel
theorem dX11_node_9 : decode cX11_node 9 = .ok (.if_icmp .lt 10, 3) := by decide +kernel
theorem dX11_node_12 : decode cX11_node 12 = .ok (.aload_n 0, 1) := by decide +kernel
theorem dX11_node_13 : decode cX11_node 13 = .ok (.bipush (-8), 2) := by decide +kernel
theorem dX11_node_15 : decode cX11_node 15 = .ok (.invokevirtual 72, 3) := by decide +kernel
theorem dX11_node_18 : decode cX11_node 18 = .ok (.ireturn, 1) := by decide +kernel
theorem dX11_node_19 : decode cX11_node 19 = .ok (.aload_n 0, 1) := by decide +kernel
theorem dX11_node_20 : decode cX11_node 20 = .ok (.getfield 12, 3) := by decide +kernel
theorem dX11_node_23 : decode cX11_node 23 = .ok (.invokevirtual 76, 3) := by decide +kernel
theorem dX11_node_26 : decode cX11_node 26 = .ok (.ireturn, 1) := by decide +kernel
theorem dX11_word_0 : decode cX11_word 0 = .ok (.iload_n 3, 1) := by decide +kernel
theorem dX11_word_1 : decode cX11_word 1 = .ok (.invokestatic 80, 3) := by decide +kernel
theorem dX11_word_4 : decode cX11_word 4 = .ok (.istore 6, 2) := by decide +kernel
theorem dX11_word_6 : decode cX11_word 6 = .ok (.aload_n 0, 1) := by decide +kernel
theorem dX11_word_7 : decode cX11_word 7 = .ok (.getfield 12, 3) := by decide +kernel
theorem dX11_word_10 : decode cX11_word 10 = .ok (.iload_n 1, 1) := by decide +kernel
theorem dX11_word_11 : decode cX11_word 11 = .ok (.invokevirtual 84, 3) := by decide +kernel
theorem dX11_word_14 : decode cX11_word 14 = .ok (.ifCond .eq 20, 3) := by decide +kernel
theorem dX11_word_17 : decode cX11_word 17 = .ok (.iload 6, 2) := by decide +kernel
theorem dX11_word_19 : decode cX11_word 19 = .ok (.ifCond .eq 22, 3) := by decide +kernel
theorem dX11_word_22 : decode cX11_word 22 = .ok (.aload_n 0, 1) := by decide +kernel
theorem dX11_word_23 : decode cX11_word 23 = .ok (.getfield 12, 3) := by decide +kernel
theorem dX11_word_26 : decode cX11_word 26 = .ok (.iload 5, 2) := by decide +kernel
theorem dX11_word_28 : decode cX11_word 28 = .ok (.invokevirtual 87, 3) := by decide +kernel
theorem dX11_word_31 : decode cX11_word 31 = .ok (.ifCond .ne 10, 3) := by decide +kernel
theorem dX11_word_34 : decode cX11_word 34 = .ok (.aload_n 0, 1) := by decide +kernel
theorem dX11_word_35 : decode cX11_word 35 = .ok (.bipush (-3), 2) := by decide +kernel
theorem dX11_word_37 : decode cX11_word 37 = .ok (.invokevirtual 72, 3) := by decide +kernel
theorem dX11_word_40 : decode cX11_word 40 = .ok (.ireturn, 1) := by decide +kernel
theorem dX11_word_41 : decode cX11_word 41 = .ok (.iload_n 3, 1) := by decide +kernel
theorem dX11_word_42 : decode cX11_word 42 = .ok (.invokestatic 90, 3) := by decide +kernel
theorem dX11_word_45 : decode cX11_word 45 = .ok (.ifCond .eq 38, 3) := by decide +kernel
theorem dX11_word_48 : decode cX11_word 48 = .ok (.iload_n 2, 1) := by decide +kernel
theorem dX11_word_49 : decode cX11_word 49 = .ok (.invokestatic 93, 3) := by decide +kernel
theorem dX11_word_52 : decode cX11_word 52 = .ok (.ifCond .eq 31, 3) := by decide +kernel
theorem dX11_word_55 : decode cX11_word 55 = .ok (.iload 4, 2) := by decide +kernel
theorem dX11_word_57 : decode cX11_word 57 = .ok (.bipush 100, 2) := by decide +kernel
theorem dX11_word_59 : decode cX11_word 59 = .ok (.ldc 96, 2) := by decide +kernel
theorem dX11_word_61 : decode cX11_word 61 = .ok (.invokestatic 97, 3) := by decide +kernel
theorem dX11_word_64 : decode cX11_word 64 = .ok (.ifCond .eq 19, 3) := by decide +kernel
theorem dX11_word_67 : decode cX11_word 67 = .ok (.iload 6, 2) := by decide +kernel
theorem dX11_word_69 : decode cX11_word 69 = .ok (.ifCond .ne 21, 3) := by decide +kernel
theorem dX11_word_72 : decode cX11_word 72 = .ok (.iload 5, 2) := by decide +kernel
theorem dX11_word_74 : decode cX11_word 74 = .ok (.iconst 0, 1) := by decide +kernel
theorem dX11_word_75 : decode cX11_word 75 = .ok (.ldc 96, 2) := by decide +kernel
theorem dX11_word_77 : decode cX11_word 77 = .ok (.invokestatic 97, 3) := by decide +kernel
theorem dX11_word_80 : decode cX11_word 80 = .ok (.ifCond .ne 10, 3) := by decide +kernel
theorem dX11_word_83 : decode cX11_word 83 = .ok (.aload_n 0, 1) := by decide +kernel
theorem dX11_word_84 : decode cX11_word 84 = .ok (.bipush (-7), 2) := by decide +kernel
theorem dX11_word_86 : decode cX11_word 86 = .ok (.invokevirtual 72, 3) := by decide +kernel
theorem dX11_word_89 : decode cX11_word 89 = .ok (.ireturn, 1) := by decide +kernel
theorem dX11_word_90 : decode cX11_word 90 = .ok (.aload_n 0, 1) := by decide +kernel
theorem dX11_word_91 : decode cX11_word 91 = .ok (.getfield 12, 3) := by decide +kernel
theorem dX11_word_94 : decode cX11_word 94 = .ok (.iload_n 2, 1) := by decide +kernel
theorem dX11_word_95 : decode cX11_word 95 = .ok (.invokevirtual 101, 3) := by decide +kernel
theorem dX11_word_98 : decode cX11_word 98 = .ok (.ifnull 10, 3) := by decide +kernel
theorem dX11_word_101 : decode cX11_word 101 = .ok (.aload_n 0, 1) := by decide +kernel
theorem dX11_word_102 : decode cX11_word 102 = .ok (.bipush (-9), 2) := by decide +kernel
theorem dX11_word_104 : decode cX11_word 104 = .ok (.invokevirtual 72, 3) := by decide +kernel
theorem dX11_word_107 : decode cX11_word 107 = .ok (.ireturn, 1) := by decide +kernel
theorem dX11_word_108 : decode cX11_word 108 = .ok (.aload_n 0, 1) := by decide +kernel
theorem dX11_word_109 : decode cX11_word 109 = .ok (.getfield 12, 3) := by decide +kernel
theorem dX11_word_112 : decode cX11_word 112 = .ok (.getfield 105, 3) := by decide +kernel
theorem dX11_word_115 : decode cX11_word 115 = .ok (.bipush 24, 2) := by decide +kernel
theorem dX11_word_117 : decode cX11_word 117 = .ok (.if_icmp .lt 10, 3) := by decide +kernel
theorem dX11_word_120 : decode cX11_word 120 = .ok (.aload_n 0, 1) := by decide +kernel
theorem dX11_word_121 : decode cX11_word 121 = .ok (.bipush (-8), 2) := by decide +kernel
theorem dX11_word_123 : decode cX11_word 123 = .ok (.invokevirtual 72, 3) := by decide +kernel
theorem dX11_word_126 : decode cX11_word 126 = .ok (.ireturn, 1) := by decide +kernel
theorem dX11_word_127 : decode cX11_word 127 = .ok (.new 108, 3) := by decide +kernel
theorem dX11_word_130 : decode cX11_word 130 = .ok (.dup, 1) := by decide +kernel
theorem dX11_word_131 : decode cX11_word 131 = .ok (.aload_n 0, 1) := by decide +kernel
theorem dX11_word_132 : decode cX11_word 132 = .ok (.getfield 12, 3) := by decide +kernel
theorem dX11_word_135 : decode cX11_word 135 = .ok (.getfield 105, 3) := by decide +kernel
theorem dX11_word_138 : decode cX11_word 138 = .ok (.aload_n 0, 1) := by decide +kernel
theorem dX11_word_139 : decode cX11_word 139 = .ok (.getfield 12, 3) := by decide +kernel
theorem dX11_word_142 : decode cX11_word 142 = .ok (.getfield 110, 3) := by decide +kernel
theorem dX11_word_145 : decode cX11_word 145 = .ok (.iload_n 1, 1) := by decide +kernel
theorem dX11_word_146 : decode cX11_word 146 = .ok (.aaload, 1) := by decide +kernel
theorem dX11_word_147 : decode cX11_word 147 = .ok (.iload_n 2, 1) := by decide +kernel
theorem dX11_word_148 : decode cX11_word 148 = .ok (.iload_n 3, 1) := by decide +kernel
theorem dX11_word_149 : decode cX11_word 149 = .ok (.iload 4, 2) := by decide +kernel
theorem dX11_word_151 : decode cX11_word 151 = .ok (.iload 5, 2) := by decide +kernel
theorem dX11_word_153 : decode cX11_word 153 = .ok (.invokespecial 114, 3) := by decide +kernel
theorem dX11_word_156 : decode cX11_word 156 = .ok (.astore 7, 2) := by decide +kernel
theorem dX11_word_158 : decode cX11_word 158 = .ok (.aload 7, 2) := by decide +kernel
theorem dX11_word_160 : decode cX11_word 160 = .ok (.aload_n 0, 1) := by decide +kernel
theorem dX11_word_161 : decode cX11_word 161 = .ok (.getfield 44, 3) := by decide +kernel
theorem dX11_word_164 : decode cX11_word 164 = .ok (.getfield 117, 3) := by decide +kernel
theorem dX11_word_167 : decode cX11_word 167 = .ok (.invokevirtual 120, 3) := by decide +kernel
theorem dX11_word_170 : decode cX11_word 170 = .ok (.aload_n 0, 1) := by decide +kernel
theorem dX11_word_171 : decode cX11_word 171 = .ok (.getfield 12, 3) := by decide +kernel
theorem dX11_word_174 : decode cX11_word 174 = .ok (.aload 7, 2) := by decide +kernel
theorem dX11_word_176 : decode cX11_word 176 = .ok (.invokevirtual 124, 3) := by decide +kernel
theorem dX11_word_179 : decode cX11_word 179 = .ok (.aload_n 0, 1) := by decide +kernel
theorem dX11_word_180 : decode cX11_word 180 = .ok (.getfield 44, 3) := by decide +kernel
theorem dX11_word_183 : decode cX11_word 183 = .ok (.invokevirtual 128, 3) := by decide +kernel
theorem dX11_word_186 : decode cX11_word 186 = .ok (.aload_n 0, 1) := by decide +kernel
theorem dX11_word_187 : decode cX11_word 187 = .ok (.getfield 53, 3) := by decide +kernel
theorem dX11_word_190 : decode cX11_word 190 = .ok (.invokevirtual 131, 3) := by decide +kernel
theorem dX11_word_193 : decode cX11_word 193 = .ok (.aload 7, 2) := by decide +kernel
theorem dX11_word_195 : decode cX11_word 195 = .ok (.getfield 134, 3) := by decide +kernel
theorem dX11_word_198 : decode cX11_word 198 = .ok (.ireturn, 1) := by decide +kernel
theorem dX11_late_0 : decode cX11_late 0 = .ok (.aload_n 0, 1) := by decide +kernel
theorem dX11_late_1 : decode cX11_late 1 = .ok (.getfield 12, 3) := by decide +kernel
theorem dX11_late_4 : decode cX11_late 4 = .ok (.iload_n 1, 1) := by decide +kernel
theorem dX11_late_5 : decode cX11_late 5 = .ok (.invokevirtual 87, 3) := by decide +kernel
theorem dX11_late_8 : decode cX11_late 8 = .ok (.ifCond .ne 10, 3) := by decide +kernel
theorem dX11_late_11 : decode cX11_late 11 = .ok (.aload_n 0, 1) := by decide +kernel
theorem dX11_late_12 : decode cX11_late 12 = .ok (.bipush (-3), 2) := by decide +kernel
theorem dX11_late_14 : decode cX11_late 14 = .ok (.invokevirtual 72, 3) := by decide +kernel
theorem dX11_late_17 : decode cX11_late 17 = .ok (.ireturn, 1) := by decide +kernel
theorem dX11_late_18 : decode cX11_late 18 = .ok (.aload_n 0, 1) := by decide +kernel
theorem dX11_late_19 : decode cX11_late 19 = .ok (.getfield 12, 3) := by decide +kernel
theorem dX11_late_22 : decode cX11_late 22 = .ok (.getfield 137, 3) := by decide +kernel
theorem dX11_late_25 : decode cX11_late 25 = .ok (.iload_n 1, 1) := by decide +kernel
theorem dX11_late_26 : decode cX11_late 26 = .ok (.aaload, 1) := by decide +kernel
theorem dX11_late_27 : decode cX11_late 27 = .ok (.astore_n 3, 1) := by decide +kernel
theorem dX11_late_28 : decode cX11_late 28 = .ok (.aload_n 3, 1) := by decide +kernel
theorem dX11_late_29 : decode cX11_late 29 = .ok (.getfield 141, 3) := by decide +kernel
theorem dX11_late_32 : decode cX11_late 32 = .ok (.iconst 1, 1) := by decide +kernel
theorem dX11_late_33 : decode cX11_late 33 = .ok (.if_icmp .eq 10, 3) := by decide +kernel
theorem dX11_late_36 : decode cX11_late 36 = .ok (.aload_n 0, 1) := by decide +kernel
theorem dX11_late_37 : decode cX11_late 37 = .ok (.bipush (-5), 2) := by decide +kernel
theorem dX11_late_39 : decode cX11_late 39 = .ok (.invokevirtual 72, 3) := by decide +kernel
theorem dX11_late_42 : decode cX11_late 42 = .ok (.ireturn, 1) := by decide +kernel
theorem dX11_late_43 : decode cX11_late 43 = .ok (.iload_n 2, 1) := by decide +kernel
theorem dX11_late_44 : decode cX11_late 44 = .ok (.iconst 0, 1) := by decide +kernel
theorem dX11_late_45 : decode cX11_late 45 = .ok (.sipush 1000, 3) := by decide +kernel
theorem dX11_late_48 : decode cX11_late 48 = .ok (.invokestatic 97, 3) := by decide +kernel
theorem dX11_late_51 : decode cX11_late 51 = .ok (.ifCond .ne 10, 3) := by decide +kernel
theorem dX11_late_54 : decode cX11_late 54 = .ok (.aload_n 0, 1) := by decide +kernel
theorem dX11_late_55 : decode cX11_late 55 = .ok (.bipush (-7), 2) := by decide +kernel
theorem dX11_late_57 : decode cX11_late 57 = .ok (.invokevirtual 72, 3) := by decide +kernel
theorem dX11_late_60 : decode cX11_late 60 = .ok (.ireturn, 1) := by decide +kernel
theorem dX11_late_61 : decode cX11_late 61 = .ok (.aload_n 3, 1) := by decide +kernel
theorem dX11_late_62 : decode cX11_late 62 = .ok (.getfield 144, 3) := by decide +kernel
theorem dX11_late_65 : decode cX11_late 65 = .ok (.istore 4, 2) := by decide +kernel
theorem dX11_late_67 : decode cX11_late 67 = .ok (.iload_n 2, 1) := by decide +kernel
theorem dX11_late_68 : decode cX11_late 68 = .ok (.iload 4, 2) := by decide +kernel
theorem dX11_late_70 : decode cX11_late 70 = .ok (.if_icmp .eq 22, 3) := by decide +kernel
theorem dX11_late_73 : decode cX11_late 73 = .ok (.aload_n 3, 1) := by decide +kernel
theorem dX11_late_74 : decode cX11_late 74 = .ok (.iload_n 2, 1) := by decide +kernel
theorem dX11_late_75 : decode cX11_late 75 = .ok (.putfield 144, 3) := by decide +kernel
theorem dX11_late_78 : decode cX11_late 78 = .ok (.aload_n 0, 1) := by decide +kernel
theorem dX11_late_79 : decode cX11_late 79 = .ok (.getfield 44, 3) := by decide +kernel
theorem dX11_late_82 : decode cX11_late 82 = .ok (.invokevirtual 128, 3) := by decide +kernel
theorem dX11_late_85 : decode cX11_late 85 = .ok (.aload_n 0, 1) := by decide +kernel
theorem dX11_late_86 : decode cX11_late 86 = .ok (.getfield 53, 3) := by decide +kernel
theorem dX11_late_89 : decode cX11_late 89 = .ok (.invokevirtual 131, 3) := by decide +kernel
theorem dX11_late_92 : decode cX11_late 92 = .ok (.iload 4, 2) := by decide +kernel
theorem dX11_late_94 : decode cX11_late 94 = .ok (.ireturn, 1) := by decide +kernel
theorem dX11_due_0 : decode cX11_due 0 = .ok (.aload_n 0, 1) := by decide +kernel
theorem dX11_due_1 : decode cX11_due 1 = .ok (.getfield 12, 3) := by decide +kernel
theorem dX11_due_4 : decode cX11_due 4 = .ok (.iload_n 1, 1) := by decide +kernel
theorem dX11_due_5 : decode cX11_due 5 = .ok (.invokevirtual 87, 3) := by decide +kernel
theorem dX11_due_8 : decode cX11_due 8 = .ok (.ifCond .ne 10, 3) := by decide +kernel
theorem dX11_due_11 : decode cX11_due 11 = .ok (.aload_n 0, 1) := by decide +kernel
theorem dX11_due_12 : decode cX11_due 12 = .ok (.bipush (-3), 2) := by decide +kernel
theorem dX11_due_14 : decode cX11_due 14 = .ok (.invokevirtual 72, 3) := by decide +kernel
theorem dX11_due_17 : decode cX11_due 17 = .ok (.ireturn, 1) := by decide +kernel
theorem dX11_due_18 : decode cX11_due 18 = .ok (.iload_n 2, 1) := by decide +kernel
