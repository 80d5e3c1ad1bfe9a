theorem dX12_told_13 : decode cX12_told 13 = .ok (.bipush (-7), 2) := by decide +kernel
theorem dX12_told_15 : decode cX12_told 15 = .ok (.invokevirtual 142, 3) := by decide +kernel
theorem dX12_told_18 : decode cX12_told 18 = .ok (.ireturn, 1) := by decide +kernel
theorem dX12_told_19 : decode cX12_told 19 = .ok (.aload_n 0, 1) := by decide +kernel
theorem dX12_told_20 : decode cX12_told 20 = .ok (.getfield 255, 3) := by decide +kernel
theorem dX12_told_23 : decode cX12_told 23 = .ok (.ifCond .ne 10, 3) := by decide +kernel
theorem dX12_told_26 : decode cX12_told 26 = .ok (.aload_n 0, 1) := by decide +kernel
theorem dX12_told_27 : decode cX12_told 27 = .ok (.bipush (-2), 2) := by decide +kernel
theorem dX12_told_29 : decode cX12_told 29 = .ok (.invokevirtual 142, 3) := by decide +kernel
theorem dX12_told_32 : decode cX12_told 32 = .ok (.ireturn, 1) := by decide +kernel
theorem dX12_told_33 : decode cX12_told 33 = .ok (.iload_n 1, 1) := by decide +kernel
theorem dX12_told_34 : decode cX12_told 34 = .ok (.ifCond .ne 10, 3) := by decide +kernel
theorem dX12_told_37 : decode cX12_told 37 = .ok (.aload_n 0, 1) := by decide +kernel
theorem dX12_told_38 : decode cX12_told 38 = .ok (.getfield 225, 3) := by decide +kernel
theorem dX12_told_41 : decode cX12_told 41 = .ok (.goto 43, 3) := by decide +kernel
theorem dX12_told_44 : decode cX12_told 44 = .ok (.iload_n 1, 1) := by decide +kernel
theorem dX12_told_45 : decode cX12_told 45 = .ok (.iconst 1, 1) := by decide +kernel
theorem dX12_told_46 : decode cX12_told 46 = .ok (.if_icmp .ne 10, 3) := by decide +kernel
theorem dX12_told_49 : decode cX12_told 49 = .ok (.aload_n 0, 1) := by decide +kernel
theorem dX12_told_50 : decode cX12_told 50 = .ok (.getfield 81, 3) := by decide +kernel
theorem dX12_told_53 : decode cX12_told 53 = .ok (.goto 31, 3) := by decide +kernel
theorem dX12_told_56 : decode cX12_told 56 = .ok (.iload_n 1, 1) := by decide +kernel
theorem dX12_told_57 : decode cX12_told 57 = .ok (.iconst 2, 1) := by decide +kernel
theorem dX12_told_58 : decode cX12_told 58 = .ok (.if_icmp .ne 10, 3) := by decide +kernel
theorem dX12_told_61 : decode cX12_told 61 = .ok (.aload_n 0, 1) := by decide +kernel
theorem dX12_told_62 : decode cX12_told 62 = .ok (.getfield 85, 3) := by decide +kernel
theorem dX12_told_65 : decode cX12_told 65 = .ok (.goto 19, 3) := by decide +kernel
theorem dX12_told_68 : decode cX12_told 68 = .ok (.iload_n 1, 1) := by decide +kernel
theorem dX12_told_69 : decode cX12_told 69 = .ok (.iconst 3, 1) := by decide +kernel
theorem dX12_told_70 : decode cX12_told 70 = .ok (.if_icmp .ne 10, 3) := by decide +kernel
theorem dX12_told_73 : decode cX12_told 73 = .ok (.aload_n 0, 1) := by decide +kernel
theorem dX12_told_74 : decode cX12_told 74 = .ok (.getfield 238, 3) := by decide +kernel
theorem dX12_told_77 : decode cX12_told 77 = .ok (.goto 7, 3) := by decide +kernel
theorem dX12_told_80 : decode cX12_told 80 = .ok (.aload_n 0, 1) := by decide +kernel
theorem dX12_told_81 : decode cX12_told 81 = .ok (.getfield 88, 3) := by decide +kernel
theorem dX12_told_84 : decode cX12_told 84 = .ok (.ireturn, 1) := by decide +kernel
theorem dX12_bytes_0 : decode cX12_bytes 0 = .ok (.aload_n 0, 1) := by decide +kernel
theorem dX12_bytes_1 : decode cX12_bytes 1 = .ok (.getfield 251, 3) := by decide +kernel
theorem dX12_bytes_4 : decode cX12_bytes 4 = .ok (.lreturn, 1) := by decide +kernel
theorem dX12_isOff_0 : decode cX12_isOff 0 = .ok (.aload_n 0, 1) := by decide +kernel
theorem dX12_isOff_1 : decode cX12_isOff 1 = .ok (.getfield 13, 3) := by decide +kernel
theorem dX12_isOff_4 : decode cX12_isOff 4 = .ok (.iload_n 1, 1) := by decide +kernel
theorem dX12_isOff_5 : decode cX12_isOff 5 = .ok (.iaload, 1) := by decide +kernel
theorem dX12_isOff_6 : decode cX12_isOff 6 = .ok (.sipush 256, 3) := by decide +kernel
theorem dX12_isOff_9 : decode cX12_isOff 9 = .ok (.if_icmp .lt 7, 3) := by decide +kernel
theorem dX12_isOff_12 : decode cX12_isOff 12 = .ok (.iconst 1, 1) := by decide +kernel
theorem dX12_isOff_13 : decode cX12_isOff 13 = .ok (.goto 4, 3) := by decide +kernel
theorem dX12_isOff_16 : decode cX12_isOff 16 = .ok (.iconst 0, 1) := by decide +kernel
theorem dX12_isOff_17 : decode cX12_isOff 17 = .ok (.ireturn, 1) := by decide +kernel
theorem dX12_comes_0 : decode cX12_comes 0 = .ok (.aload_n 0, 1) := by decide +kernel
theorem dX12_comes_1 : decode cX12_comes 1 = .ok (.getfield 50, 3) := by decide +kernel
theorem dX12_comes_4 : decode cX12_comes 4 = .ok (.iload_n 1, 1) := by decide +kernel
theorem dX12_comes_5 : decode cX12_comes 5 = .ok (.baload, 1) := by decide +kernel
theorem dX12_comes_6 : decode cX12_comes 6 = .ok (.ifCond .eq 13, 3) := by decide +kernel
theorem dX12_comes_9 : decode cX12_comes 9 = .ok (.aload_n 0, 1) := by decide +kernel
theorem dX12_comes_10 : decode cX12_comes 10 = .ok (.getfield 69, 3) := by decide +kernel
theorem dX12_comes_13 : decode cX12_comes 13 = .ok (.iload_n 1, 1) := by decide +kernel
theorem dX12_comes_14 : decode cX12_comes 14 = .ok (.dup2, 1) := by decide +kernel
theorem dX12_comes_15 : decode cX12_comes 15 = .ok (.iaload, 1) := by decide +kernel
theorem dX12_comes_16 : decode cX12_comes 16 = .ok (.iconst 1, 1) := by decide +kernel
theorem dX12_comes_17 : decode cX12_comes 17 = .ok (.iadd, 1) := by decide +kernel
theorem dX12_comes_18 : decode cX12_comes 18 = .ok (.iastore, 1) := by decide +kernel
theorem dX12_comes_19 : decode cX12_comes 19 = .ok (.aload_n 0, 1) := by decide +kernel
theorem dX12_comes_20 : decode cX12_comes 20 = .ok (.getfield 50, 3) := by decide +kernel
theorem dX12_comes_23 : decode cX12_comes 23 = .ok (.iload_n 1, 1) := by decide +kernel
theorem dX12_comes_24 : decode cX12_comes 24 = .ok (.iconst 1, 1) := by decide +kernel
theorem dX12_comes_25 : decode cX12_comes 25 = .ok (.bastore, 1) := by decide +kernel
theorem dX12_comes_26 : decode cX12_comes 26 = .ok (.aload_n 0, 1) := by decide +kernel
theorem dX12_comes_27 : decode cX12_comes 27 = .ok (.getfield 54, 3) := by decide +kernel
theorem dX12_comes_30 : decode cX12_comes 30 = .ok (.iload_n 1, 1) := by decide +kernel
theorem dX12_comes_31 : decode cX12_comes 31 = .ok (.iload_n 2, 1) := by decide +kernel
theorem dX12_comes_32 : decode cX12_comes 32 = .ok (.iastore, 1) := by decide +kernel
theorem dX12_comes_33 : decode cX12_comes 33 = .ok (.return_, 1) := by decide +kernel
theorem dX12_come_0 : decode cX12_come 0 = .ok (.aload_n 0, 1) := by decide +kernel
theorem dX12_come_1 : decode cX12_come 1 = .ok (.iload_n 1, 1) := by decide +kernel
theorem dX12_come_2 : decode cX12_come 2 = .ok (.invokevirtual 154, 3) := by decide +kernel
theorem dX12_come_5 : decode cX12_come 5 = .ok (.ifCond .ne 10, 3) := by decide +kernel
theorem dX12_come_8 : decode cX12_come 8 = .ok (.aload_n 0, 1) := by decide +kernel
theorem dX12_come_9 : decode cX12_come 9 = .ok (.bipush (-3), 2) := by decide +kernel
theorem dX12_come_11 : decode cX12_come 11 = .ok (.invokevirtual 142, 3) := by decide +kernel
theorem dX12_come_14 : decode cX12_come 14 = .ok (.ireturn, 1) := by decide +kernel
theorem dX12_come_15 : decode cX12_come 15 = .ok (.aload_n 0, 1) := by decide +kernel
theorem dX12_come_16 : decode cX12_come 16 = .ok (.getfield 28, 3) := by decide +kernel
theorem dX12_come_19 : decode cX12_come 19 = .ok (.iload_n 1, 1) := by decide +kernel
theorem dX12_come_20 : decode cX12_come 20 = .ok (.iaload, 1) := by decide +kernel
theorem dX12_come_21 : decode cX12_come 21 = .ok (.iconst 2, 1) := by decide +kernel
theorem dX12_come_22 : decode cX12_come 22 = .ok (.if_icmp .eq 10, 3) := by decide +kernel
theorem dX12_come_25 : decode cX12_come 25 = .ok (.aload_n 0, 1) := by decide +kernel
theorem dX12_come_26 : decode cX12_come 26 = .ok (.bipush (-5), 2) := by decide +kernel
theorem dX12_come_28 : decode cX12_come 28 = .ok (.invokevirtual 142, 3) := by decide +kernel
theorem dX12_come_31 : decode cX12_come 31 = .ok (.ireturn, 1) := by decide +kernel
theorem dX12_come_32 : decode cX12_come 32 = .ok (.aload_n 0, 1) := by decide +kernel
theorem dX12_come_33 : decode cX12_come 33 = .ok (.getfield 63, 3) := by decide +kernel
theorem dX12_come_36 : decode cX12_come 36 = .ok (.iload_n 1, 1) := by decide +kernel
theorem dX12_come_37 : decode cX12_come 37 = .ok (.iaload, 1) := by decide +kernel
theorem dX12_come_38 : decode cX12_come 38 = .ok (.ifCond .lt 23, 3) := by decide +kernel
theorem dX12_come_41 : decode cX12_come 41 = .ok (.aload_n 0, 1) := by decide +kernel
theorem dX12_come_42 : decode cX12_come 42 = .ok (.getfield 167, 3) := by decide +kernel
theorem dX12_come_45 : decode cX12_come 45 = .ok (.aload_n 0, 1) := by decide +kernel
theorem dX12_come_46 : decode cX12_come 46 = .ok (.getfield 63, 3) := by decide +kernel
theorem dX12_come_49 : decode cX12_come 49 = .ok (.iload_n 1, 1) := by decide +kernel
theorem dX12_come_50 : decode cX12_come 50 = .ok (.iaload, 1) := by decide +kernel
theorem dX12_come_51 : decode cX12_come 51 = .ok (.isub, 1) := by decide +kernel
theorem dX12_come_52 : decode cX12_come 52 = .ok (.aload_n 0, 1) := by decide +kernel
theorem dX12_come_53 : decode cX12_come 53 = .ok (.getfield 34, 3) := by decide +kernel
theorem dX12_come_56 : decode cX12_come 56 = .ok (.iload_n 1, 1) := by decide +kernel
theorem dX12_come_57 : decode cX12_come 57 = .ok (.iaload, 1) := by decide +kernel
theorem dX12_come_58 : decode cX12_come 58 = .ok (.if_icmp .lt 16, 3) := by decide +kernel
theorem dX12_come_61 : decode cX12_come 61 = .ok (.aload_n 0, 1) := by decide +kernel
theorem dX12_come_62 : decode cX12_come 62 = .ok (.aload_n 0, 1) := by decide +kernel
theorem dX12_come_63 : decode cX12_come 63 = .ok (.getfield 22, 3) := by decide +kernel
theorem dX12_come_66 : decode cX12_come 66 = .ok (.iload_n 1, 1) := by decide +kernel
theorem dX12_come_67 : decode cX12_come 67 = .ok (.iaload, 1) := by decide +kernel
theorem dX12_come_68 : decode cX12_come 68 = .ok (.invokevirtual 269, 3) := by decide +kernel
theorem dX12_come_71 : decode cX12_come 71 = .ok (.ifCond .eq 10, 3) := by decide +kernel
theorem dX12_come_74 : decode cX12_come 74 = .ok (.aload_n 0, 1) := by decide +kernel
theorem dX12_come_75 : decode cX12_come 75 = .ok (.bipush (-7), 2) := by decide +kernel
theorem dX12_come_77 : decode cX12_come 77 = .ok (.invokevirtual 142, 3) := by decide +kernel
theorem dX12_come_80 : decode cX12_come 80 = .ok (.ireturn, 1) := by decide +kernel
theorem dX12_come_81 : decode cX12_come 81 = .ok (.aload_n 0, 1) := by decide +kernel
theorem dX12_come_82 : decode cX12_come 82 = .ok (.getfield 63, 3) := by decide +kernel
theorem dX12_come_85 : decode cX12_come 85 = .ok (.iload_n 1, 1) := by decide +kernel
theorem dX12_come_86 : decode cX12_come 86 = .ok (.aload_n 0, 1) := by decide +kernel
theorem dX12_come_87 : decode cX12_come 87 = .ok (.getfield 167, 3) := by decide +kernel
theorem dX12_come_90 : decode cX12_come 90 = .ok (.iastore, 1) := by decide +kernel
theorem dX12_come_91 : decode cX12_come 91 = .ok (.iconst 1, 1) := by decide +kernel
theorem dX12_come_92 : decode cX12_come 92 = .ok (.ireturn, 1) := by decide +kernel
theorem dX12_isDisturbed_0 : decode cX12_isDisturbed 0 = .ok (.iconst 0, 1) := by decide +kernel
theorem dX12_isDisturbed_1 : decode cX12_isDisturbed 1 = .ok (.istore_n 2, 1) := by decide +kernel
theorem dX12_isDisturbed_2 : decode cX12_isDisturbed 2 = .ok (.iconst 0, 1) := by decide +kernel
theorem dX12_isDisturbed_3 : decode cX12_isDisturbed 3 = .ok (.istore_n 3, 1) := by decide +kernel
theorem dX12_isDisturbed_4 : decode cX12_isDisturbed 4 = .ok (.iload_n 3, 1) := by decide +kernel
theorem dX12_isDisturbed_5 : decode cX12_isDisturbed 5 = .ok (.aload_n 0, 1) := by decide +kernel
theorem dX12_isDisturbed_6 : decode cX12_isDisturbed 6 = .ok (.getfield 272, 3) := by decide +kernel
theorem dX12_isDisturbed_9 : decode cX12_isDisturbed 9 = .ok (.if_icmp .ge 29, 3) := by decide +kernel
theorem dX12_isDisturbed_12 : decode cX12_isDisturbed 12 = .ok (.iload_n 2, 1) := by decide +kernel
theorem dX12_isDisturbed_13 : decode cX12_isDisturbed 13 = .ok (.ifCond .ne 13, 3) := by decide +kernel
theorem dX12_isDisturbed_16 : decode cX12_isDisturbed 16 = .ok (.aload_n 0, 1) := by decide +kernel
theorem dX12_isDisturbed_17 : decode cX12_isDisturbed 17 = .ok (.getfield 94, 3) := by decide +kernel
theorem dX12_isDisturbed_20 : decode cX12_isDisturbed 20 = .ok (.iload_n 3, 1) := by decide +kernel
theorem dX12_isDisturbed_21 : decode cX12_isDisturbed 21 = .ok (.iaload, 1) := by decide +kernel
theorem dX12_isDisturbed_22 : decode cX12_isDisturbed 22 = .ok (.iload_n 1, 1) := by decide +kernel
theorem dX12_isDisturbed_23 : decode cX12_isDisturbed 23 = .ok (.if_icmp .ne 7, 3) := by decide +kernel
theorem dX12_isDisturbed_26 : decode cX12_isDisturbed 26 = .ok (.iconst 1, 1) := by decide +kernel
theorem dX12_isDisturbed_27 : decode cX12_isDisturbed 27 = .ok (.goto 4, 3) := by decide +kernel
theorem dX12_isDisturbed_30 : decode cX12_isDisturbed 30 = .ok (.iconst 0, 1) := by decide +kernel
theorem dX12_isDisturbed_31 : decode cX12_isDisturbed 31 = .ok (.istore_n 2, 1) := by decide +kernel
theorem dX12_isDisturbed_32 : decode cX12_isDisturbed 32 = .ok (.iinc 3 1, 3) := by decide +kernel
theorem dX12_isDisturbed_35 : decode cX12_isDisturbed 35 = .ok (.goto (-31), 3) := by decide +kernel
theorem dX12_isDisturbed_38 : decode cX12_isDisturbed 38 = .ok (.iload_n 2, 1) := by decide +kernel
theorem dX12_isDisturbed_39 : decode cX12_isDisturbed 39 = .ok (.ireturn, 1) := by decide +kernel
theorem dX12_forget_0 : decode cX12_forget 0 = .ok (.iconst 0, 1) := by decide +kernel
theorem dX12_forget_1 : decode cX12_forget 1 = .ok (.istore_n 1, 1) := by decide +kernel
theorem dX12_forget_2 : decode cX12_forget 2 = .ok (.iconst 0, 1) := by decide +kernel
theorem dX12_forget_3 : decode cX12_forget 3 = .ok (.istore_n 2, 1) := by decide +kernel
theorem dX12_forget_4 : decode cX12_forget 4 = .ok (.iload_n 2, 1) := by decide +kernel
theorem dX12_forget_5 : decode cX12_forget 5 = .ok (.aload_n 0, 1) := by decide +kernel
theorem dX12_forget_6 : decode cX12_forget 6 = .ok (.getfield 272, 3) := by decide +kernel
theorem dX12_forget_9 : decode cX12_forget 9 = .ok (.if_icmp .ge 40, 3) := by decide +kernel
theorem dX12_forget_12 : decode cX12_forget 12 = .ok (.aload_n 0, 1) := by decide +kernel
theorem dX12_forget_13 : decode cX12_forget 13 = .ok (.getfield 94, 3) := by decide +kernel
theorem dX12_forget_16 : decode cX12_forget 16 = .ok (.iload_n 2, 1) := by decide +kernel
theorem dX12_forget_17 : decode cX12_forget 17 = .ok (.iaload, 1) := by decide +kernel
theorem dX12_forget_18 : decode cX12_forget 18 = .ok (.aload_n 0, 1) := by decide +kernel
theorem dX12_forget_19 : decode cX12_forget 19 = .ok (.getfield 167, 3) := by decide +kernel
theorem dX12_forget_22 : decode cX12_forget 22 = .ok (.if_icmp .ge 6, 3) := by decide +kernel
theorem dX12_forget_25 : decode cX12_forget 25 = .ok (.goto 18, 3) := by decide +kernel
theorem dX12_forget_28 : decode cX12_forget 28 = .ok (.aload_n 0, 1) := by decide +kernel
theorem dX12_forget_29 : decode cX12_forget 29 = .ok (.getfield 94, 3) := by decide +kernel
theorem dX12_forget_32 : decode cX12_forget 32 = .ok (.iload_n 1, 1) := by decide +kernel
theorem dX12_forget_33 : decode cX12_forget 33 = .ok (.aload_n 0, 1) := by decide +kernel
theorem dX12_forget_34 : decode cX12_forget 34 = .ok (.getfield 94, 3) := by decide +kernel
theorem dX12_forget_37 : decode cX12_forget 37 = .ok (.iload_n 2, 1) := by decide +kernel
theorem dX12_forget_38 : decode cX12_forget 38 = .ok (.iaload, 1) := by decide +kernel
theorem dX12_forget_39 : decode cX12_forget 39 = .ok (.iastore, 1) := by decide +kernel
theorem dX12_forget_40 : decode cX12_forget 40 = .ok (.iinc 1 1, 3) := by decide +kernel
theorem dX12_forget_43 : decode cX12_forget 43 = .ok (.iinc 2 1, 3) := by decide +kernel
theorem dX12_forget_46 : decode cX12_forget 46 = .ok (.goto (-42), 3) := by decide +kernel
theorem dX12_forget_49 : decode cX12_forget 49 = .ok (.aload_n 0, 1) := by decide +kernel
theorem dX12_forget_50 : decode cX12_forget 50 = .ok (.iload_n 1, 1) := by decide +kernel
theorem dX12_forget_51 : decode cX12_forget 51 = .ok (.putfield 272, 3) := by decide +kernel
theorem dX12_forget_54 : decode cX12_forget 54 = .ok (.return_, 1) := by decide +kernel
theorem dX12_disturb_0 : decode cX12_disturb 0 = .ok (.iload_n 1, 1) := by decide +kernel
theorem dX12_disturb_1 : decode cX12_disturb 1 = .ok (.aload_n 0, 1) := by decide +kernel
theorem dX12_disturb_2 : decode cX12_disturb 2 = .ok (.getfield 167, 3) := by decide +kernel
theorem dX12_disturb_5 : decode cX12_disturb 5 = .ok (.if_icmp .lt 11, 3) := by decide +kernel
theorem dX12_disturb_8 : decode cX12_disturb 8 = .ok (.aload_n 0, 1) := by decide +kernel
theorem dX12_disturb_9 : decode cX12_disturb 9 = .ok (.iload_n 1, 1) := by decide +kernel
theorem dX12_disturb_10 : decode cX12_disturb 10 = .ok (.invokevirtual 275, 3) := by decide +kernel
theorem dX12_disturb_13 : decode cX12_disturb 13 = .ok (.ifCond .eq 10, 3) := by decide +kernel
theorem dX12_disturb_16 : decode cX12_disturb 16 = .ok (.aload_n 0, 1) := by decide +kernel
theorem dX12_disturb_17 : decode cX12_disturb 17 = .ok (.bipush (-7), 2) := by decide +kernel
theorem dX12_disturb_19 : decode cX12_disturb 19 = .ok (.invokevirtual 142, 3) := by decide +kernel
theorem dX12_disturb_22 : decode cX12_disturb 22 = .ok (.ireturn, 1) := by decide +kernel
theorem dX12_disturb_23 : decode cX12_disturb 23 = .ok (.aload_n 0, 1) := by decide +kernel
theorem dX12_disturb_24 : decode cX12_disturb 24 = .ok (.getfield 272, 3) := by decide +kernel
theorem dX12_disturb_27 : decode cX12_disturb 27 = .ok (.bipush 60, 2) := by decide +kernel
theorem dX12_disturb_29 : decode cX12_disturb 29 = .ok (.if_icmp .ne 10, 3) := by decide +kernel
theorem dX12_disturb_32 : decode cX12_disturb 32 = .ok (.aload_n 0, 1) := by decide +kernel
theorem dX12_disturb_33 : decode cX12_disturb 33 = .ok (.bipush (-8), 2) := by decide +kernel
theorem dX12_disturb_35 : decode cX12_disturb 35 = .ok (.invokevirtual 142, 3) := by decide +kernel
theorem dX12_disturb_38 : decode cX12_disturb 38 = .ok (.ireturn, 1) := by decide +kernel
theorem dX12_disturb_39 : decode cX12_disturb 39 = .ok (.aload_n 0, 1) := by decide +kernel
theorem dX12_disturb_40 : decode cX12_disturb 40 = .ok (.getfield 94, 3) := by decide +kernel
theorem dX12_disturb_43 : decode cX12_disturb 43 = .ok (.aload_n 0, 1) := by decide +kernel
theorem dX12_disturb_44 : decode cX12_disturb 44 = .ok (.getfield 272, 3) := by decide +kernel
theorem dX12_disturb_47 : decode cX12_disturb 47 = .ok (.iload_n 1, 1) := by decide +kernel
theorem dX12_disturb_48 : decode cX12_disturb 48 = .ok (.iastore, 1) := by decide +kernel
theorem dX12_disturb_49 : decode cX12_disturb 49 = .ok (.aload_n 0, 1) := by decide +kernel
theorem dX12_disturb_50 : decode cX12_disturb 50 = .ok (.dup, 1) := by decide +kernel
theorem dX12_disturb_51 : decode cX12_disturb 51 = .ok (.getfield 272, 3) := by decide +kernel
theorem dX12_disturb_54 : decode cX12_disturb 54 = .ok (.iconst 1, 1) := by decide +kernel
theorem dX12_disturb_55 : decode cX12_disturb 55 = .ok (.iadd, 1) := by decide +kernel
theorem dX12_disturb_56 : decode cX12_disturb 56 = .ok (.putfield 272, 3) := by decide +kernel
theorem dX12_disturb_59 : decode cX12_disturb 59 = .ok (.aload_n 0, 1) := by decide +kernel
theorem dX12_disturb_60 : decode cX12_disturb 60 = .ok (.getfield 272, 3) := by decide +kernel
theorem dX12_disturb_63 : decode cX12_disturb 63 = .ok (.ireturn, 1) := by decide +kernel
theorem dX12_comesByTime_0 : decode cX12_comesByTime 0 = .ok (.aload_n 0, 1) := by decide +kernel
theorem dX12_comesByTime_1 : decode cX12_comesByTime 1 = .ok (.getfield 37, 3) := by decide +kernel
theorem dX12_comesByTime_4 : decode cX12_comesByTime 4 = .ok (.iload_n 1, 1) := by decide +kernel
theorem dX12_comesByTime_5 : decode cX12_comesByTime 5 = .ok (.iaload, 1) := by decide +kernel
theorem dX12_comesByTime_6 : decode cX12_comesByTime 6 = .ok (.i2l, 1) := by decide +kernel
theorem dX12_comesByTime_7 : decode cX12_comesByTime 7 = .ok (.aload_n 0, 1) := by decide +kernel
theorem dX12_comesByTime_8 : decode cX12_comesByTime 8 = .ok (.getfield 57, 3) := by decide +kernel
theorem dX12_comesByTime_11 : decode cX12_comesByTime 11 = .ok (.iload_n 1, 1) := by decide +kernel
theorem dX12_comesByTime_12 : decode cX12_comesByTime 12 = .ok (.iaload, 1) := by decide +kernel
theorem dX12_comesByTime_13 : decode cX12_comesByTime 13 = .ok (.i2l, 1) := by decide +kernel
theorem dX12_comesByTime_14 : decode cX12_comesByTime 14 = .ok (.aload_n 0, 1) := by decide +kernel
theorem dX12_comesByTime_15 : decode cX12_comesByTime 15 = .ok (.getfield 34, 3) := by decide +kernel
theorem dX12_comesByTime_18 : decode cX12_comesByTime 18 = .ok (.iload_n 1, 1) := by decide +kernel
theorem dX12_comesByTime_19 : decode cX12_comesByTime 19 = .ok (.iaload, 1) := by decide +kernel
theorem dX12_comesByTime_20 : decode cX12_comesByTime 20 = .ok (.i2l, 1) := by decide +kernel
theorem dX12_comesByTime_21 : decode cX12_comesByTime 21 = .ok (.lmul, 1) := by decide +kernel
theorem dX12_comesByTime_22 : decode cX12_comesByTime 22 = .ok (.ladd, 1) := by decide +kernel
theorem dX12_comesByTime_23 : decode cX12_comesByTime 23 = .ok (.lstore_n 2, 1) := by decide +kernel
theorem dX12_comesByTime_24 : decode cX12_comesByTime 24 = .ok (.aload_n 0, 1) := by decide +kernel
theorem dX12_comesByTime_25 : decode cX12_comesByTime 25 = .ok (.getfield 28, 3) := by decide +kernel
theorem dX12_comesByTime_28 : decode cX12_comesByTime 28 = .ok (.iload_n 1, 1) := by decide +kernel
theorem dX12_comesByTime_29 : decode cX12_comesByTime 29 = .ok (.iaload, 1) := by decide +kernel
theorem dX12_comesByTime_30 : decode cX12_comesByTime 30 = .ok (.iconst 1, 1) := by decide +kernel
theorem dX12_comesByTime_31 : decode cX12_comesByTime 31 = .ok (.if_icmp .ne 27, 3) := by decide +kernel
theorem dX12_comesByTime_34 : decode cX12_comesByTime 34 = .ok (.ldc2_w 278, 3) := by decide +kernel
theorem dX12_comesByTime_37 : decode cX12_comesByTime 37 = .ok (.aload_n 0, 1) := by decide +kernel
theorem dX12_comesByTime_38 : decode cX12_comesByTime 38 = .ok (.getfield 57, 3) := by decide +kernel
theorem dX12_comesByTime_41 : decode cX12_comesByTime 41 = .ok (.iload_n 1, 1) := by decide +kernel
theorem dX12_comesByTime_42 : decode cX12_comesByTime 42 = .ok (.iaload, 1) := by decide +kernel
theorem dX12_comesByTime_43 : decode cX12_comesByTime 43 = .ok (.i2l, 1) := by decide +kernel
theorem dX12_comesByTime_44 : decode cX12_comesByTime 44 = .ok (.lmul, 1) := by decide +kernel
theorem dX12_comesByTime_45 : decode cX12_comesByTime 45 = .ok (.aload_n 0, 1) := by decide +kernel
theorem dX12_comesByTime_46 : decode cX12_comesByTime 46 = .ok (.getfield 40, 3) := by decide +kernel
theorem dX12_comesByTime_49 : decode cX12_comesByTime 49 = .ok (.iload_n 1, 1) := by decide +kernel
theorem dX12_comesByTime_50 : decode cX12_comesByTime 50 = .ok (.iaload, 1) := by decide +kernel
theorem dX12_comesByTime_51 : decode cX12_comesByTime 51 = .ok (.iconst 1, 1) := by decide +kernel
theorem dX12_comesByTime_52 : decode cX12_comesByTime 52 = .ok (.iadd, 1) := by decide +kernel
theorem dX12_comesByTime_53 : decode cX12_comesByTime 53 = .ok (.i2l, 1) := by decide +kernel
theorem dX12_comesByTime_54 : decode cX12_comesByTime 54 = .ok (.lrem, 1) := by decide +kernel
theorem dX12_comesByTime_55 : decode cX12_comesByTime 55 = .ok (.goto 4, 3) := by decide +kernel
theorem dX12_comesByTime_58 : decode cX12_comesByTime 58 = .ok (.lconst 0, 1) := by decide +kernel
theorem dX12_comesByTime_59 : decode cX12_comesByTime 59 = .ok (.lstore 4, 2) := by decide +kernel
theorem dX12_comesByTime_61 : decode cX12_comesByTime 61 = .ok (.lload_n 2, 1) := by decide +kernel
theorem dX12_comesByTime_62 : decode cX12_comesByTime 62 = .ok (.lload 4, 2) := by decide +kernel
theorem dX12_comesByTime_64 : decode cX12_comesByTime 64 = .ok (.ladd, 1) := by decide +kernel
theorem dX12_comesByTime_65 : decode cX12_comesByTime 65 = .ok (.aload_n 0, 1) := by decide +kernel
theorem dX12_comesByTime_66 : decode cX12_comesByTime 66 = .ok (.getfield 167, 3) := by decide +kernel
theorem dX12_comesByTime_69 : decode cX12_comesByTime 69 = .ok (.i2l, 1) := by decide +kernel
theorem dX12_comesByTime_70 : decode cX12_comesByTime 70 = .ok (.lcmp, 1) := by decide +kernel
theorem dX12_comesByTime_71 : decode cX12_comesByTime 71 = .ok (.ifCond .le 4, 3) := by decide +kernel
theorem dX12_comesByTime_74 : decode cX12_comesByTime 74 = .ok (.return_, 1) := by decide +kernel
theorem dX12_comesByTime_75 : decode cX12_comesByTime 75 = .ok (.aload_n 0, 1) := by decide +kernel
theorem dX12_comesByTime_76 : decode cX12_comesByTime 76 = .ok (.getfield 57, 3) := by decide +kernel
theorem dX12_comesByTime_79 : decode cX12_comesByTime 79 = .ok (.iload_n 1, 1) := by decide +kernel
theorem dX12_comesByTime_80 : decode cX12_comesByTime 80 = .ok (.dup2, 1) := by decide +kernel
theorem dX12_comesByTime_81 : decode cX12_comesByTime 81 = .ok (.iaload, 1) := by decide +kernel
theorem dX12_comesByTime_82 : decode cX12_comesByTime 82 = .ok (.iconst 1, 1) := by decide +kernel
theorem dX12_comesByTime_83 : decode cX12_comesByTime 83 = .ok (.iadd, 1) := by decide +kernel
theorem dX12_comesByTime_84 : decode cX12_comesByTime 84 = .ok (.iastore, 1) := by decide +kernel
theorem dX12_comesByTime_85 : decode cX12_comesByTime 85 = .ok (.aload_n 0, 1) := by decide +kernel
theorem dX12_comesByTime_86 : decode cX12_comesByTime 86 = .ok (.aload_n 0, 1) := by decide +kernel
theorem dX12_comesByTime_87 : decode cX12_comesByTime 87 = .ok (.getfield 22, 3) := by decide +kernel
theorem dX12_comesByTime_90 : decode cX12_comesByTime 90 = .ok (.iload_n 1, 1) := by decide +kernel
theorem dX12_comesByTime_91 : decode cX12_comesByTime 91 = .ok (.iaload, 1) := by decide +kernel
theorem dX12_comesByTime_92 : decode cX12_comesByTime 92 = .ok (.invokevirtual 269, 3) := by decide +kernel
theorem dX12_comesByTime_95 : decode cX12_comesByTime 95 = .ok (.ifCond .ne 10, 3) := by decide +kernel
theorem dX12_comesByTime_98 : decode cX12_comesByTime 98 = .ok (.aload_n 0, 1) := by decide +kernel
theorem dX12_comesByTime_99 : decode cX12_comesByTime 99 = .ok (.iload_n 1, 1) := by decide +kernel
theorem dX12_comesByTime_100 : decode cX12_comesByTime 100 = .ok (.lload_n 2, 1) := by decide +kernel
theorem dX12_comesByTime_101 : decode cX12_comesByTime 101 = .ok (.l2i, 1) := by decide +kernel
theorem dX12_comesByTime_102 : decode cX12_comesByTime 102 = .ok (.invokevirtual 280, 3) := by decide +kernel
theorem dX12_comesByTime_105 : decode cX12_comesByTime 105 = .ok (.return_, 1) := by decide +kernel
theorem dX12_allCome_0 : decode cX12_allCome 0 = .ok (.iconst 0, 1) := by decide +kernel
theorem dX12_allCome_1 : decode cX12_allCome 1 = .ok (.istore_n 1, 1) := by decide +kernel
theorem dX12_allCome_2 : decode cX12_allCome 2 = .ok (.iload_n 1, 1) := by decide +kernel
theorem dX12_allCome_3 : decode cX12_allCome 3 = .ok (.aload_n 0, 1) := by decide +kernel
theorem dX12_allCome_4 : decode cX12_allCome 4 = .ok (.getfield 133, 3) := by decide +kernel
theorem dX12_allCome_7 : decode cX12_allCome 7 = .ok (.if_icmp .ge 114, 3) := by decide +kernel
theorem dX12_allCome_10 : decode cX12_allCome 10 = .ok (.aload_n 0, 1) := by decide +kernel
theorem dX12_allCome_11 : decode cX12_allCome 11 = .ok (.getfield 28, 3) := by decide +kernel
theorem dX12_allCome_14 : decode cX12_allCome 14 = .ok (.iload_n 1, 1) := by decide +kernel
theorem dX12_allCome_15 : decode cX12_allCome 15 = .ok (.iaload, 1) := by decide +kernel
theorem dX12_allCome_16 : decode cX12_allCome 16 = .ok (.iconst 2, 1) := by decide +kernel
theorem dX12_allCome_17 : decode cX12_allCome 17 = .ok (.if_icmp .ge 8, 3) := by decide +kernel
theorem dX12_allCome_20 : decode cX12_allCome 20 = .ok (.aload_n 0, 1) := by decide +kernel
theorem dX12_allCome_21 : decode cX12_allCome 21 = .ok (.iload_n 1, 1) := by decide +kernel
theorem dX12_allCome_22 : decode cX12_allCome 22 = .ok (.invokevirtual 283, 3) := by decide +kernel
theorem dX12_allCome_25 : decode cX12_allCome 25 = .ok (.aload_n 0, 1) := by decide +kernel
theorem dX12_allCome_26 : decode cX12_allCome 26 = .ok (.getfield 28, 3) := by decide +kernel
theorem dX12_allCome_29 : decode cX12_allCome 29 = .ok (.iload_n 1, 1) := by decide +kernel
theorem dX12_allCome_30 : decode cX12_allCome 30 = .ok (.iaload, 1) := by decide +kernel
theorem dX12_allCome_31 : decode cX12_allCome 31 = .ok (.iconst 3, 1) := by decide +kernel
theorem dX12_allCome_32 : decode cX12_allCome 32 = .ok (.if_icmp .ne 38, 3) := by decide +kernel
theorem dX12_allCome_35 : decode cX12_allCome 35 = .ok (.aload_n 0, 1) := by decide +kernel
theorem dX12_allCome_36 : decode cX12_allCome 36 = .ok (.getfield 60, 3) := by decide +kernel
theorem dX12_allCome_39 : decode cX12_allCome 39 = .ok (.iload_n 1, 1) := by decide +kernel
theorem dX12_allCome_40 : decode cX12_allCome 40 = .ok (.iaload, 1) := by decide +kernel
theorem dX12_allCome_41 : decode cX12_allCome 41 = .ok (.aload_n 0, 1) := by decide +kernel
theorem dX12_allCome_42 : decode cX12_allCome 42 = .ok (.getfield 167, 3) := by decide +kernel
theorem dX12_allCome_45 : decode cX12_allCome 45 = .ok (.if_icmp .ne 25, 3) := by decide +kernel
theorem dX12_allCome_48 : decode cX12_allCome 48 = .ok (.aload_n 0, 1) := by decide +kernel
theorem dX12_allCome_49 : decode cX12_allCome 49 = .ok (.aload_n 0, 1) := by decide +kernel
theorem dX12_allCome_50 : decode cX12_allCome 50 = .ok (.getfield 22, 3) := by decide +kernel
theorem dX12_allCome_53 : decode cX12_allCome 53 = .ok (.iload_n 1, 1) := by decide +kernel
theorem dX12_allCome_54 : decode cX12_allCome 54 = .ok (.iaload, 1) := by decide +kernel
theorem dX12_allCome_55 : decode cX12_allCome 55 = .ok (.invokevirtual 269, 3) := by decide +kernel
theorem dX12_allCome_58 : decode cX12_allCome 58 = .ok (.ifCond .ne 12, 3) := by decide +kernel
theorem dX12_allCome_61 : decode cX12_allCome 61 = .ok (.aload_n 0, 1) := by decide +kernel
theorem dX12_allCome_62 : decode cX12_allCome 62 = .ok (.iload_n 1, 1) := by decide +kernel
theorem dX12_allCome_63 : decode cX12_allCome 63 = .ok (.aload_n 0, 1) := by decide +kernel
theorem dX12_allCome_64 : decode cX12_allCome 64 = .ok (.getfield 167, 3) := by decide +kernel
theorem dX12_allCome_67 : decode cX12_allCome 67 = .ok (.invokevirtual 280, 3) := by decide +kernel
theorem dX12_allCome_70 : decode cX12_allCome 70 = .ok (.aload_n 0, 1) := by decide +kernel
theorem dX12_allCome_71 : decode cX12_allCome 71 = .ok (.getfield 28, 3) := by decide +kernel
theorem dX12_allCome_74 : decode cX12_allCome 74 = .ok (.iload_n 1, 1) := by decide +kernel
theorem dX12_allCome_75 : decode cX12_allCome 75 = .ok (.iaload, 1) := by decide +kernel
theorem dX12_allCome_76 : decode cX12_allCome 76 = .ok (.iconst 2, 1) := by decide +kernel
theorem dX12_allCome_77 : decode cX12_allCome 77 = .ok (.if_icmp .ne 38, 3) := by decide +kernel
theorem dX12_allCome_80 : decode cX12_allCome 80 = .ok (.aload_n 0, 1) := by decide +kernel
theorem dX12_allCome_81 : decode cX12_allCome 81 = .ok (.getfield 63, 3) := by decide +kernel
theorem dX12_allCome_84 : decode cX12_allCome 84 = .ok (.iload_n 1, 1) := by decide +kernel
theorem dX12_allCome_85 : decode cX12_allCome 85 = .ok (.iaload, 1) := by decide +kernel
theorem dX12_allCome_86 : decode cX12_allCome 86 = .ok (.aload_n 0, 1) := by decide +kernel
theorem dX12_allCome_87 : decode cX12_allCome 87 = .ok (.getfield 167, 3) := by decide +kernel
theorem dX12_allCome_90 : decode cX12_allCome 90 = .ok (.if_icmp .ne 25, 3) := by decide +kernel
theorem dX12_allCome_93 : decode cX12_allCome 93 = .ok (.aload_n 0, 1) := by decide +kernel
theorem dX12_allCome_94 : decode cX12_allCome 94 = .ok (.aload_n 0, 1) := by decide +kernel
theorem dX12_allCome_95 : decode cX12_allCome 95 = .ok (.getfield 22, 3) := by decide +kernel
theorem dX12_allCome_98 : decode cX12_allCome 98 = .ok (.iload_n 1, 1) := by decide +kernel
theorem dX12_allCome_99 : decode cX12_allCome 99 = .ok (.iaload, 1) := by decide +kernel
theorem dX12_allCome_100 : decode cX12_allCome 100 = .ok (.invokevirtual 269, 3) := by decide +kernel
theorem dX12_allCome_103 : decode cX12_allCome 103 = .ok (.ifCond .ne 12, 3) := by decide +kernel
theorem dX12_allCome_106 : decode cX12_allCome 106 = .ok (.aload_n 0, 1) := by decide +kernel
theorem dX12_allCome_107 : decode cX12_allCome 107 = .ok (.iload_n 1, 1) := by decide +kernel
theorem dX12_allCome_108 : decode cX12_allCome 108 = .ok (.aload_n 0, 1) := by decide +kernel
theorem dX12_allCome_109 : decode cX12_allCome 109 = .ok (.getfield 167, 3) := by decide +kernel
theorem dX12_allCome_112 : decode cX12_allCome 112 = .ok (.invokevirtual 280, 3) := by decide +kernel
theorem dX12_allCome_115 : decode cX12_allCome 115 = .ok (.iinc 1 1, 3) := by decide +kernel
theorem dX12_allCome_118 : decode cX12_allCome 118 = .ok (.goto (-116), 3) := by decide +kernel
theorem dX12_allCome_121 : decode cX12_allCome 121 = .ok (.return_, 1) := by decide +kernel
theorem dX12_begins_0 : decode cX12_begins 0 = .ok (.iconst (-1), 1) := by decide +kernel
theorem dX12_begins_1 : decode cX12_begins 1 = .ok (.istore_n 1, 1) := by decide +kernel
theorem dX12_begins_2 : decode cX12_begins 2 = .ok (.iconst 0, 1) := by decide +kernel
theorem dX12_begins_3 : decode cX12_begins 3 = .ok (.istore_n 2, 1) := by decide +kernel
theorem dX12_begins_4 : decode cX12_begins 4 = .ok (.iload_n 2, 1) := by decide +kernel
theorem dX12_begins_5 : decode cX12_begins 5 = .ok (.aload_n 0, 1) := by decide +kernel
theorem dX12_begins_6 : decode cX12_begins 6 = .ok (.getfield 133, 3) := by decide +kernel
theorem dX12_begins_9 : decode cX12_begins 9 = .ok (.if_icmp .ge 46, 3) := by decide +kernel
theorem dX12_begins_12 : decode cX12_begins 12 = .ok (.aload_n 0, 1) := by decide +kernel
theorem dX12_begins_13 : decode cX12_begins 13 = .ok (.getfield 50, 3) := by decide +kernel
theorem dX12_begins_16 : decode cX12_begins 16 = .ok (.iload_n 2, 1) := by decide +kernel
theorem dX12_begins_17 : decode cX12_begins 17 = .ok (.baload, 1) := by decide +kernel
theorem dX12_begins_18 : decode cX12_begins 18 = .ok (.ifCond .eq 31, 3) := by decide +kernel
theorem dX12_begins_21 : decode cX12_begins 21 = .ok (.aload_n 0, 1) := by decide +kernel
theorem dX12_begins_22 : decode cX12_begins 22 = .ok (.aload_n 0, 1) := by decide +kernel
theorem dX12_begins_23 : decode cX12_begins 23 = .ok (.getfield 22, 3) := by decide +kernel
theorem dX12_begins_26 : decode cX12_begins 26 = .ok (.iload_n 2, 1) := by decide +kernel
theorem dX12_begins_27 : decode cX12_begins 27 = .ok (.iaload, 1) := by decide +kernel
theorem dX12_begins_28 : decode cX12_begins 28 = .ok (.invokevirtual 269, 3) := by decide +kernel
theorem dX12_begins_31 : decode cX12_begins 31 = .ok (.ifCond .ne 18, 3) := by decide +kernel
theorem dX12_begins_34 : decode cX12_begins 34 = .ok (.iload_n 1, 1) := by decide +kernel
theorem dX12_begins_35 : decode cX12_begins 35 = .ok (.ifCond .lt 12, 3) := by decide +kernel
theorem dX12_begins_38 : decode cX12_begins 38 = .ok (.aload_n 0, 1) := by decide +kernel
theorem dX12_begins_39 : decode cX12_begins 39 = .ok (.iload_n 2, 1) := by decide +kernel
theorem dX12_begins_40 : decode cX12_begins 40 = .ok (.iload_n 1, 1) := by decide +kernel
theorem dX12_begins_41 : decode cX12_begins 41 = .ok (.invokevirtual 215, 3) := by decide +kernel
theorem dX12_begins_44 : decode cX12_begins 44 = .ok (.ifCond .eq 5, 3) := by decide +kernel
theorem dX12_begins_47 : decode cX12_begins 47 = .ok (.iload_n 2, 1) := by decide +kernel
theorem dX12_begins_48 : decode cX12_begins 48 = .ok (.istore_n 1, 1) := by decide +kernel
theorem dX12_begins_49 : decode cX12_begins 49 = .ok (.iinc 2 1, 3) := by decide +kernel
theorem dX12_begins_52 : decode cX12_begins 52 = .ok (.goto (-48), 3) := by decide +kernel
theorem dX12_begins_55 : decode cX12_begins 55 = .ok (.iload_n 1, 1) := by decide +kernel
theorem dX12_begins_56 : decode cX12_begins 56 = .ok (.ifCond .ge 4, 3) := by decide +kernel
theorem dX12_begins_59 : decode cX12_begins 59 = .ok (.return_, 1) := by decide +kernel
theorem dX12_begins_60 : decode cX12_begins 60 = .ok (.aload_n 0, 1) := by decide +kernel
theorem dX12_begins_61 : decode cX12_begins 61 = .ok (.iload_n 1, 1) := by decide +kernel
theorem dX12_begins_62 : decode cX12_begins 62 = .ok (.invokevirtual 208, 3) := by decide +kernel
theorem dX12_begins_65 : decode cX12_begins 65 = .ok (.aload_n 0, 1) := by decide +kernel
theorem dX12_begins_66 : decode cX12_begins 66 = .ok (.iload_n 1, 1) := by decide +kernel
theorem dX12_begins_67 : decode cX12_begins 67 = .ok (.putfield 91, 3) := by decide +kernel
theorem dX12_begins_70 : decode cX12_begins 70 = .ok (.aload_n 0, 1) := by decide +kernel
theorem dX12_begins_71 : decode cX12_begins 71 = .ok (.aload_n 0, 1) := by decide +kernel
theorem dX12_begins_72 : decode cX12_begins 72 = .ok (.getfield 167, 3) := by decide +kernel
theorem dX12_begins_75 : decode cX12_begins 75 = .ok (.putfield 286, 3) := by decide +kernel
theorem dX12_begins_78 : decode cX12_begins 78 = .ok (.aload_n 0, 1) := by decide +kernel
theorem dX12_begins_79 : decode cX12_begins 79 = .ok (.aload_n 0, 1) := by decide +kernel
theorem dX12_begins_80 : decode cX12_begins 80 = .ok (.getfield 167, 3) := by decide +kernel
theorem dX12_begins_83 : decode cX12_begins 83 = .ok (.aload_n 0, 1) := by decide +kernel
theorem dX12_begins_84 : decode cX12_begins 84 = .ok (.getfield 178, 3) := by decide +kernel
theorem dX12_begins_87 : decode cX12_begins 87 = .ok (.iadd, 1) := by decide +kernel
theorem dX12_begins_88 : decode cX12_begins 88 = .ok (.iconst 1, 1) := by decide +kernel
theorem dX12_begins_89 : decode cX12_begins 89 = .ok (.isub, 1) := by decide +kernel
theorem dX12_begins_90 : decode cX12_begins 90 = .ok (.putfield 289, 3) := by decide +kernel
theorem dX12_begins_93 : decode cX12_begins 93 = .ok (.aload_n 0, 1) := by decide +kernel
theorem dX12_begins_94 : decode cX12_begins 94 = .ok (.aload_n 0, 1) := by decide +kernel
theorem dX12_begins_95 : decode cX12_begins 95 = .ok (.getfield 54, 3) := by decide +kernel
theorem dX12_begins_98 : decode cX12_begins 98 = .ok (.iload_n 1, 1) := by decide +kernel
theorem dX12_begins_99 : decode cX12_begins 99 = .ok (.iaload, 1) := by decide +kernel
theorem dX12_begins_100 : decode cX12_begins 100 = .ok (.putfield 292, 3) := by decide +kernel
theorem dX12_begins_103 : decode cX12_begins 103 = .ok (.aload_n 0, 1) := by decide +kernel
theorem dX12_begins_104 : decode cX12_begins 104 = .ok (.getfield 50, 3) := by decide +kernel
theorem dX12_begins_107 : decode cX12_begins 107 = .ok (.iload_n 1, 1) := by decide +kernel
theorem dX12_begins_108 : decode cX12_begins 108 = .ok (.iconst 0, 1) := by decide +kernel
theorem dX12_begins_109 : decode cX12_begins 109 = .ok (.bastore, 1) := by decide +kernel
theorem dX12_begins_110 : decode cX12_begins 110 = .ok (.aload_n 0, 1) := by decide +kernel
theorem dX12_begins_111 : decode cX12_begins 111 = .ok (.iconst 1, 1) := by decide +kernel
theorem dX12_begins_112 : decode cX12_begins 112 = .ok (.putfield 295, 3) := by decide +kernel
theorem dX12_begins_115 : decode cX12_begins 115 = .ok (.iconst 0, 1) := by decide +kernel
theorem dX12_begins_116 : decode cX12_begins 116 = .ok (.istore_n 2, 1) := by decide +kernel
theorem dX12_begins_117 : decode cX12_begins 117 = .ok (.iload_n 2, 1) := by decide +kernel
theorem dX12_begins_118 : decode cX12_begins 118 = .ok (.aload_n 0, 1) := by decide +kernel
theorem dX12_begins_119 : decode cX12_begins 119 = .ok (.getfield 130, 3) := by decide +kernel
theorem dX12_begins_122 : decode cX12_begins 122 = .ok (.if_icmp .ge 43, 3) := by decide +kernel
theorem dX12_begins_125 : decode cX12_begins 125 = .ok (.aload_n 0, 1) := by decide +kernel
theorem dX12_begins_126 : decode cX12_begins 126 = .ok (.aload_n 0, 1) := by decide +kernel
theorem dX12_begins_127 : decode cX12_begins 127 = .ok (.getfield 295, 3) := by decide +kernel
theorem dX12_begins_130 : decode cX12_begins 130 = .ok (.ifCond .eq 25, 3) := by decide +kernel
theorem dX12_begins_133 : decode cX12_begins 133 = .ok (.iload_n 2, 1) := by decide +kernel
theorem dX12_begins_134 : decode cX12_begins 134 = .ok (.aload_n 0, 1) := by decide +kernel
theorem dX12_begins_135 : decode cX12_begins 135 = .ok (.getfield 22, 3) := by decide +kernel
theorem dX12_begins_138 : decode cX12_begins 138 = .ok (.iload_n 1, 1) := by decide +kernel
theorem dX12_begins_139 : decode cX12_begins 139 = .ok (.iaload, 1) := by decide +kernel
theorem dX12_begins_140 : decode cX12_begins 140 = .ok (.if_icmp .eq 11, 3) := by decide +kernel
theorem dX12_begins_143 : decode cX12_begins 143 = .ok (.aload_n 0, 1) := by decide +kernel
theorem dX12_begins_144 : decode cX12_begins 144 = .ok (.iload_n 2, 1) := by decide +kernel
theorem dX12_begins_145 : decode cX12_begins 145 = .ok (.invokevirtual 269, 3) := by decide +kernel
theorem dX12_begins_148 : decode cX12_begins 148 = .ok (.ifCond .eq 7, 3) := by decide +kernel
theorem dX12_begins_151 : decode cX12_begins 151 = .ok (.iconst 1, 1) := by decide +kernel
theorem dX12_begins_152 : decode cX12_begins 152 = .ok (.goto 4, 3) := by decide +kernel
theorem dX12_begins_155 : decode cX12_begins 155 = .ok (.iconst 0, 1) := by decide +kernel
theorem dX12_begins_156 : decode cX12_begins 156 = .ok (.putfield 295, 3) := by decide +kernel
theorem dX12_begins_159 : decode cX12_begins 159 = .ok (.iinc 2 1, 3) := by decide +kernel
theorem dX12_begins_162 : decode cX12_begins 162 = .ok (.goto (-45), 3) := by decide +kernel
theorem dX12_begins_165 : decode cX12_begins 165 = .ok (.return_, 1) := by decide +kernel
theorem dX12_notes_0 : decode cX12_notes 0 = .ok (.bipush 39, 2) := by decide +kernel
theorem dX12_notes_2 : decode cX12_notes 2 = .ok (.istore_n 2, 1) := by decide +kernel
theorem dX12_notes_3 : decode cX12_notes 3 = .ok (.iload_n 2, 1) := by decide +kernel
theorem dX12_notes_4 : decode cX12_notes 4 = .ok (.ifCond .le 65, 3) := by decide +kernel
theorem dX12_notes_7 : decode cX12_notes 7 = .ok (.aload_n 0, 1) := by decide +kernel
theorem dX12_notes_8 : decode cX12_notes 8 = .ok (.getfield 97, 3) := by decide +kernel
theorem dX12_notes_11 : decode cX12_notes 11 = .ok (.iload_n 2, 1) := by decide +kernel
theorem dX12_notes_12 : decode cX12_notes 12 = .ok (.aload_n 0, 1) := by decide +kernel
theorem dX12_notes_13 : decode cX12_notes 13 = .ok (.getfield 97, 3) := by decide +kernel
theorem dX12_notes_16 : decode cX12_notes 16 = .ok (.iload_n 2, 1) := by decide +kernel
theorem dX12_notes_17 : decode cX12_notes 17 = .ok (.iconst 1, 1) := by decide +kernel
theorem dX12_notes_18 : decode cX12_notes 18 = .ok (.isub, 1) := by decide +kernel
theorem dX12_notes_19 : decode cX12_notes 19 = .ok (.iaload, 1) := by decide +kernel
theorem dX12_notes_20 : decode cX12_notes 20 = .ok (.iastore, 1) := by decide +kernel
theorem dX12_notes_21 : decode cX12_notes 21 = .ok (.aload_n 0, 1) := by decide +kernel
theorem dX12_notes_22 : decode cX12_notes 22 = .ok (.getfield 100, 3) := by decide +kernel
theorem dX12_notes_25 : decode cX12_notes 25 = .ok (.iload_n 2, 1) := by decide +kernel
theorem dX12_notes_26 : decode cX12_notes 26 = .ok (.aload_n 0, 1) := by decide +kernel
theorem dX12_notes_27 : decode cX12_notes 27 = .ok (.getfield 100, 3) := by decide +kernel
theorem dX12_notes_30 : decode cX12_notes 30 = .ok (.iload_n 2, 1) := by decide +kernel
theorem dX12_notes_31 : decode cX12_notes 31 = .ok (.iconst 1, 1) := by decide +kernel
theorem dX12_notes_32 : decode cX12_notes 32 = .ok (.isub, 1) := by decide +kernel
theorem dX12_notes_33 : decode cX12_notes 33 = .ok (.iaload, 1) := by decide +kernel
theorem dX12_notes_34 : decode cX12_notes 34 = .ok (.iastore, 1) := by decide +kernel
theorem dX12_notes_35 : decode cX12_notes 35 = .ok (.aload_n 0, 1) := by decide +kernel
theorem dX12_notes_36 : decode cX12_notes 36 = .ok (.getfield 103, 3) := by decide +kernel
theorem dX12_notes_39 : decode cX12_notes 39 = .ok (.iload_n 2, 1) := by decide +kernel
theorem dX12_notes_40 : decode cX12_notes 40 = .ok (.aload_n 0, 1) := by decide +kernel
theorem dX12_notes_41 : decode cX12_notes 41 = .ok (.getfield 103, 3) := by decide +kernel
theorem dX12_notes_44 : decode cX12_notes 44 = .ok (.iload_n 2, 1) := by decide +kernel
theorem dX12_notes_45 : decode cX12_notes 45 = .ok (.iconst 1, 1) := by decide +kernel
theorem dX12_notes_46 : decode cX12_notes 46 = .ok (.isub, 1) := by decide +kernel
theorem dX12_notes_47 : decode cX12_notes 47 = .ok (.iaload, 1) := by decide +kernel
theorem dX12_notes_48 : decode cX12_notes 48 = .ok (.iastore, 1) := by decide +kernel
theorem dX12_notes_49 : decode cX12_notes 49 = .ok (.aload_n 0, 1) := by decide +kernel
theorem dX12_notes_50 : decode cX12_notes 50 = .ok (.getfield 106, 3) := by decide +kernel
theorem dX12_notes_53 : decode cX12_notes 53 = .ok (.iload_n 2, 1) := by decide +kernel
theorem dX12_notes_54 : decode cX12_notes 54 = .ok (.aload_n 0, 1) := by decide +kernel
theorem dX12_notes_55 : decode cX12_notes 55 = .ok (.getfield 106, 3) := by decide +kernel
theorem dX12_notes_58 : decode cX12_notes 58 = .ok (.iload_n 2, 1) := by decide +kernel
theorem dX12_notes_59 : decode cX12_notes 59 = .ok (.iconst 1, 1) := by decide +kernel
theorem dX12_notes_60 : decode cX12_notes 60 = .ok (.isub, 1) := by decide +kernel
theorem dX12_notes_61 : decode cX12_notes 61 = .ok (.iaload, 1) := by decide +kernel
theorem dX12_notes_62 : decode cX12_notes 62 = .ok (.iastore, 1) := by decide +kernel
theorem dX12_notes_63 : decode cX12_notes 63 = .ok (.iinc 2 (-1), 3) := by decide +kernel
theorem dX12_notes_66 : decode cX12_notes 66 = .ok (.goto (-63), 3) := by decide +kernel
theorem dX12_notes_69 : decode cX12_notes 69 = .ok (.aload_n 0, 1) := by decide +kernel
theorem dX12_notes_70 : decode cX12_notes 70 = .ok (.getfield 97, 3) := by decide +kernel
theorem dX12_notes_73 : decode cX12_notes 73 = .ok (.iconst 0, 1) := by decide +kernel
theorem dX12_notes_74 : decode cX12_notes 74 = .ok (.aload_n 0, 1) := by decide +kernel
theorem dX12_notes_75 : decode cX12_notes 75 = .ok (.getfield 91, 3) := by decide +kernel
theorem dX12_notes_78 : decode cX12_notes 78 = .ok (.iastore, 1) := by decide +kernel
theorem dX12_notes_79 : decode cX12_notes 79 = .ok (.aload_n 0, 1) := by decide +kernel
theorem dX12_notes_80 : decode cX12_notes 80 = .ok (.getfield 100, 3) := by decide +kernel
theorem dX12_notes_83 : decode cX12_notes 83 = .ok (.iconst 0, 1) := by decide +kernel
theorem dX12_notes_84 : decode cX12_notes 84 = .ok (.aload_n 0, 1) := by decide +kernel
theorem dX12_notes_85 : decode cX12_notes 85 = .ok (.getfield 286, 3) := by decide +kernel
theorem dX12_notes_88 : decode cX12_notes 88 = .ok (.iastore, 1) := by decide +kernel
theorem dX12_notes_89 : decode cX12_notes 89 = .ok (.aload_n 0, 1) := by decide +kernel
theorem dX12_notes_90 : decode cX12_notes 90 = .ok (.getfield 103, 3) := by decide +kernel
theorem dX12_notes_93 : decode cX12_notes 93 = .ok (.iconst 0, 1) := by decide +kernel
theorem dX12_notes_94 : decode cX12_notes 94 = .ok (.aload_n 0, 1) := by decide +kernel
theorem dX12_notes_95 : decode cX12_notes 95 = .ok (.getfield 167, 3) := by decide +kernel
theorem dX12_notes_98 : decode cX12_notes 98 = .ok (.iastore, 1) := by decide +kernel
theorem dX12_notes_99 : decode cX12_notes 99 = .ok (.aload_n 0, 1) := by decide +kernel
theorem dX12_notes_100 : decode cX12_notes 100 = .ok (.getfield 106, 3) := by decide +kernel
theorem dX12_notes_103 : decode cX12_notes 103 = .ok (.iconst 0, 1) := by decide +kernel
theorem dX12_notes_104 : decode cX12_notes 104 = .ok (.iload_n 1, 1) := by decide +kernel
theorem dX12_notes_105 : decode cX12_notes 105 = .ok (.iastore, 1) := by decide +kernel
theorem dX12_notes_106 : decode cX12_notes 106 = .ok (.aload_n 0, 1) := by decide +kernel
theorem dX12_notes_107 : decode cX12_notes 107 = .ok (.getfield 298, 3) := by decide +kernel
theorem dX12_notes_110 : decode cX12_notes 110 = .ok (.bipush 40, 2) := by decide +kernel
theorem dX12_notes_112 : decode cX12_notes 112 = .ok (.if_icmp .ge 13, 3) := by decide +kernel
theorem dX12_notes_115 : decode cX12_notes 115 = .ok (.aload_n 0, 1) := by decide +kernel
theorem dX12_notes_116 : decode cX12_notes 116 = .ok (.dup, 1) := by decide +kernel
theorem dX12_notes_117 : decode cX12_notes 117 = .ok (.getfield 298, 3) := by decide +kernel
theorem dX12_notes_120 : decode cX12_notes 120 = .ok (.iconst 1, 1) := by decide +kernel
theorem dX12_notes_121 : decode cX12_notes 121 = .ok (.iadd, 1) := by decide +kernel
theorem dX12_notes_122 : decode cX12_notes 122 = .ok (.putfield 298, 3) := by decide +kernel
theorem dX12_notes_125 : decode cX12_notes 125 = .ok (.return_, 1) := by decide +kernel
theorem dX12_fails_0 : decode cX12_fails 0 = .ok (.aload_n 0, 1) := by decide +kernel
theorem dX12_fails_1 : decode cX12_fails 1 = .ok (.getfield 91, 3) := by decide +kernel
theorem dX12_fails_4 : decode cX12_fails 4 = .ok (.istore_n 1, 1) := by decide +kernel
theorem dX12_fails_5 : decode cX12_fails 5 = .ok (.aload_n 0, 1) := by decide +kernel
theorem dX12_fails_6 : decode cX12_fails 6 = .ok (.iconst (-1), 1) := by decide +kernel
theorem dX12_fails_7 : decode cX12_fails 7 = .ok (.invokevirtual 301, 3) := by decide +kernel
theorem dX12_fails_10 : decode cX12_fails 10 = .ok (.aload_n 0, 1) := by decide +kernel
theorem dX12_fails_11 : decode cX12_fails 11 = .ok (.dup, 1) := by decide +kernel
theorem dX12_fails_12 : decode cX12_fails 12 = .ok (.getfield 304, 3) := by decide +kernel
theorem dX12_fails_15 : decode cX12_fails 15 = .ok (.iconst 1, 1) := by decide +kernel
theorem dX12_fails_16 : decode cX12_fails 16 = .ok (.iadd, 1) := by decide +kernel
theorem dX12_fails_17 : decode cX12_fails 17 = .ok (.putfield 304, 3) := by decide +kernel
theorem dX12_fails_20 : decode cX12_fails 20 = .ok (.aload_n 0, 1) := by decide +kernel
theorem dX12_fails_21 : decode cX12_fails 21 = .ok (.getfield 19, 3) := by decide +kernel
theorem dX12_fails_24 : decode cX12_fails 24 = .ok (.aload_n 0, 1) := by decide +kernel
theorem dX12_fails_25 : decode cX12_fails 25 = .ok (.getfield 22, 3) := by decide +kernel
theorem dX12_fails_28 : decode cX12_fails 28 = .ok (.iload_n 1, 1) := by decide +kernel
theorem dX12_fails_29 : decode cX12_fails 29 = .ok (.iaload, 1) := by decide +kernel
theorem dX12_fails_30 : decode cX12_fails 30 = .ok (.dup2, 1) := by decide +kernel
theorem dX12_fails_31 : decode cX12_fails 31 = .ok (.iaload, 1) := by decide +kernel
theorem dX12_fails_32 : decode cX12_fails 32 = .ok (.iconst 1, 1) := by decide +kernel
theorem dX12_fails_33 : decode cX12_fails 33 = .ok (.iadd, 1) := by decide +kernel
theorem dX12_fails_34 : decode cX12_fails 34 = .ok (.iastore, 1) := by decide +kernel
theorem dX12_fails_35 : decode cX12_fails 35 = .ok (.aload_n 0, 1) := by decide +kernel
theorem dX12_fails_36 : decode cX12_fails 36 = .ok (.getfield 50, 3) := by decide +kernel
theorem dX12_fails_39 : decode cX12_fails 39 = .ok (.iload_n 1, 1) := by decide +kernel
theorem dX12_fails_40 : decode cX12_fails 40 = .ok (.baload, 1) := by decide +kernel
theorem dX12_fails_41 : decode cX12_fails 41 = .ok (.ifCond .eq 16, 3) := by decide +kernel
theorem dX12_fails_44 : decode cX12_fails 44 = .ok (.aload_n 0, 1) := by decide +kernel
theorem dX12_fails_45 : decode cX12_fails 45 = .ok (.getfield 69, 3) := by decide +kernel
theorem dX12_fails_48 : decode cX12_fails 48 = .ok (.iload_n 1, 1) := by decide +kernel
theorem dX12_fails_49 : decode cX12_fails 49 = .ok (.dup2, 1) := by decide +kernel
theorem dX12_fails_50 : decode cX12_fails 50 = .ok (.iaload, 1) := by decide +kernel
theorem dX12_fails_51 : decode cX12_fails 51 = .ok (.iconst 1, 1) := by decide +kernel
theorem dX12_fails_52 : decode cX12_fails 52 = .ok (.iadd, 1) := by decide +kernel
theorem dX12_fails_53 : decode cX12_fails 53 = .ok (.iastore, 1) := by decide +kernel
theorem dX12_fails_54 : decode cX12_fails 54 = .ok (.goto 20, 3) := by decide +kernel
theorem dX12_fails_57 : decode cX12_fails 57 = .ok (.aload_n 0, 1) := by decide +kernel
theorem dX12_fails_58 : decode cX12_fails 58 = .ok (.getfield 50, 3) := by decide +kernel
theorem dX12_fails_61 : decode cX12_fails 61 = .ok (.iload_n 1, 1) := by decide +kernel
theorem dX12_fails_62 : decode cX12_fails 62 = .ok (.iconst 1, 1) := by decide +kernel
theorem dX12_fails_63 : decode cX12_fails 63 = .ok (.bastore, 1) := by decide +kernel
theorem dX12_fails_64 : decode cX12_fails 64 = .ok (.aload_n 0, 1) := by decide +kernel
theorem dX12_fails_65 : decode cX12_fails 65 = .ok (.getfield 54, 3) := by decide +kernel
theorem dX12_fails_68 : decode cX12_fails 68 = .ok (.iload_n 1, 1) := by decide +kernel
theorem dX12_fails_69 : decode cX12_fails 69 = .ok (.aload_n 0, 1) := by decide +kernel
theorem dX12_fails_70 : decode cX12_fails 70 = .ok (.getfield 292, 3) := by decide +kernel
theorem dX12_fails_73 : decode cX12_fails 73 = .ok (.iastore, 1) := by decide +kernel
theorem dX12_fails_74 : decode cX12_fails 74 = .ok (.iconst 0, 1) := by decide +kernel
theorem dX12_fails_75 : decode cX12_fails 75 = .ok (.istore_n 2, 1) := by decide +kernel
theorem dX12_fails_76 : decode cX12_fails 76 = .ok (.iload_n 2, 1) := by decide +kernel
theorem dX12_fails_77 : decode cX12_fails 77 = .ok (.aload_n 0, 1) := by decide +kernel
theorem dX12_fails_78 : decode cX12_fails 78 = .ok (.getfield 130, 3) := by decide +kernel
theorem dX12_fails_81 : decode cX12_fails 81 = .ok (.if_icmp .ge 58, 3) := by decide +kernel
theorem dX12_fails_84 : decode cX12_fails 84 = .ok (.aload_n 0, 1) := by decide +kernel
theorem dX12_fails_85 : decode cX12_fails 85 = .ok (.iload_n 2, 1) := by decide +kernel
theorem dX12_fails_86 : decode cX12_fails 86 = .ok (.invokevirtual 269, 3) := by decide +kernel
theorem dX12_fails_89 : decode cX12_fails 89 = .ok (.ifCond .eq 6, 3) := by decide +kernel
theorem dX12_fails_92 : decode cX12_fails 92 = .ok (.goto 41, 3) := by decide +kernel
theorem dX12_fails_95 : decode cX12_fails 95 = .ok (.aload_n 0, 1) := by decide +kernel
theorem dX12_fails_96 : decode cX12_fails 96 = .ok (.getfield 13, 3) := by decide +kernel
theorem dX12_fails_99 : decode cX12_fails 99 = .ok (.iload_n 2, 1) := by decide +kernel
theorem dX12_fails_100 : decode cX12_fails 100 = .ok (.dup2, 1) := by decide +kernel
theorem dX12_fails_101 : decode cX12_fails 101 = .ok (.iaload, 1) := by decide +kernel
theorem dX12_fails_102 : decode cX12_fails 102 = .ok (.iload_n 2, 1) := by decide +kernel
theorem dX12_fails_103 : decode cX12_fails 103 = .ok (.aload_n 0, 1) := by decide +kernel
theorem dX12_fails_104 : decode cX12_fails 104 = .ok (.getfield 22, 3) := by decide +kernel
theorem dX12_fails_107 : decode cX12_fails 107 = .ok (.iload_n 1, 1) := by decide +kernel
theorem dX12_fails_108 : decode cX12_fails 108 = .ok (.iaload, 1) := by decide +kernel
theorem dX12_fails_109 : decode cX12_fails 109 = .ok (.if_icmp .ne 8, 3) := by decide +kernel
theorem dX12_fails_112 : decode cX12_fails 112 = .ok (.bipush 8, 2) := by decide +kernel
theorem dX12_fails_114 : decode cX12_fails 114 = .ok (.goto 4, 3) := by decide +kernel
theorem dX12_fails_117 : decode cX12_fails 117 = .ok (.iconst 1, 1) := by decide +kernel
theorem dX12_fails_118 : decode cX12_fails 118 = .ok (.iadd, 1) := by decide +kernel
theorem dX12_fails_119 : decode cX12_fails 119 = .ok (.iastore, 1) := by decide +kernel
theorem dX12_fails_120 : decode cX12_fails 120 = .ok (.aload_n 0, 1) := by decide +kernel
theorem dX12_fails_121 : decode cX12_fails 121 = .ok (.iload_n 2, 1) := by decide +kernel
theorem dX12_fails_122 : decode cX12_fails 122 = .ok (.invokevirtual 269, 3) := by decide +kernel
theorem dX12_fails_125 : decode cX12_fails 125 = .ok (.ifCond .eq 8, 3) := by decide +kernel
theorem dX12_fails_128 : decode cX12_fails 128 = .ok (.aload_n 0, 1) := by decide +kernel
theorem dX12_fails_129 : decode cX12_fails 129 = .ok (.iload_n 2, 1) := by decide +kernel
theorem dX12_fails_130 : decode cX12_fails 130 = .ok (.invokevirtual 307, 3) := by decide +kernel
theorem dX12_fails_133 : decode cX12_fails 133 = .ok (.iinc 2 1, 3) := by decide +kernel
theorem dX12_fails_136 : decode cX12_fails 136 = .ok (.goto (-60), 3) := by decide +kernel
theorem dX12_fails_139 : decode cX12_fails 139 = .ok (.aload_n 0, 1) := by decide +kernel
theorem dX12_fails_140 : decode cX12_fails 140 = .ok (.iconst (-1), 1) := by decide +kernel
theorem dX12_fails_141 : decode cX12_fails 141 = .ok (.putfield 91, 3) := by decide +kernel
theorem dX12_fails_144 : decode cX12_fails 144 = .ok (.aload_n 0, 1) := by decide +kernel
theorem dX12_fails_145 : decode cX12_fails 145 = .ok (.aload_n 0, 1) := by decide +kernel
theorem dX12_fails_146 : decode cX12_fails 146 = .ok (.getfield 167, 3) := by decide +kernel
theorem dX12_fails_149 : decode cX12_fails 149 = .ok (.bipush 18, 2) := by decide +kernel
theorem dX12_fails_151 : decode cX12_fails 151 = .ok (.iadd, 1) := by decide +kernel
theorem dX12_fails_152 : decode cX12_fails 152 = .ok (.putfield 310, 3) := by decide +kernel
theorem dX12_fails_155 : decode cX12_fails 155 = .ok (.return_, 1) := by decide +kernel
theorem dX12_silences_0 : decode cX12_silences 0 = .ok (.aload_n 0, 1) := by decide +kernel
theorem dX12_silences_1 : decode cX12_silences 1 = .ok (.getfield 16, 3) := by decide +kernel
theorem dX12_silences_4 : decode cX12_silences 4 = .ok (.iload_n 1, 1) := by decide +kernel
theorem dX12_silences_5 : decode cX12_silences 5 = .ok (.aload_n 0, 1) := by decide +kernel
theorem dX12_silences_6 : decode cX12_silences 6 = .ok (.getfield 167, 3) := by decide +kernel
theorem dX12_silences_9 : decode cX12_silences 9 = .ok (.iastore, 1) := by decide +kernel
theorem dX12_silences_10 : decode cX12_silences 10 = .ok (.iconst 0, 1) := by decide +kernel
theorem dX12_silences_11 : decode cX12_silences 11 = .ok (.istore_n 2, 1) := by decide +kernel
theorem dX12_silences_12 : decode cX12_silences 12 = .ok (.iload_n 2, 1) := by decide +kernel
theorem dX12_silences_13 : decode cX12_silences 13 = .ok (.aload_n 0, 1) := by decide +kernel
theorem dX12_silences_14 : decode cX12_silences 14 = .ok (.getfield 133, 3) := by decide +kernel
theorem dX12_silences_17 : decode cX12_silences 17 = .ok (.if_icmp .ge 26, 3) := by decide +kernel
theorem dX12_silences_20 : decode cX12_silences 20 = .ok (.aload_n 0, 1) := by decide +kernel
theorem dX12_silences_21 : decode cX12_silences 21 = .ok (.getfield 22, 3) := by decide +kernel
theorem dX12_silences_24 : decode cX12_silences 24 = .ok (.iload_n 2, 1) := by decide +kernel
theorem dX12_silences_25 : decode cX12_silences 25 = .ok (.iaload, 1) := by decide +kernel
theorem dX12_silences_26 : decode cX12_silences 26 = .ok (.iload_n 1, 1) := by decide +kernel
theorem dX12_silences_27 : decode cX12_silences 27 = .ok (.if_icmp .ne 10, 3) := by decide +kernel
theorem dX12_silences_30 : decode cX12_silences 30 = .ok (.aload_n 0, 1) := by decide +kernel
theorem dX12_silences_31 : decode cX12_silences 31 = .ok (.getfield 50, 3) := by decide +kernel
theorem dX12_silences_34 : decode cX12_silences 34 = .ok (.iload_n 2, 1) := by decide +kernel
theorem dX12_silences_35 : decode cX12_silences 35 = .ok (.iconst 0, 1) := by decide +kernel
theorem dX12_silences_36 : decode cX12_silences 36 = .ok (.bastore, 1) := by decide +kernel
theorem dX12_silences_37 : decode cX12_silences 37 = .ok (.iinc 2 1, 3) := by decide +kernel
theorem dX12_silences_40 : decode cX12_silences 40 = .ok (.goto (-28), 3) := by decide +kernel
theorem dX12_silences_43 : decode cX12_silences 43 = .ok (.return_, 1) := by decide +kernel
theorem dX12_isHeard_0 : decode cX12_isHeard 0 = .ok (.aload_n 0, 1) := by decide +kernel
theorem dX12_isHeard_1 : decode cX12_isHeard 1 = .ok (.getfield 91, 3) := by decide +kernel
theorem dX12_isHeard_4 : decode cX12_isHeard 4 = .ok (.istore_n 1, 1) := by decide +kernel
theorem dX12_isHeard_5 : decode cX12_isHeard 5 = .ok (.aload_n 0, 1) := by decide +kernel
theorem dX12_isHeard_6 : decode cX12_isHeard 6 = .ok (.getfield 167, 3) := by decide +kernel
theorem dX12_isHeard_9 : decode cX12_isHeard 9 = .ok (.aload_n 0, 1) := by decide +kernel
theorem dX12_isHeard_10 : decode cX12_isHeard 10 = .ok (.getfield 292, 3) := by decide +kernel
theorem dX12_isHeard_13 : decode cX12_isHeard 13 = .ok (.isub, 1) := by decide +kernel
theorem dX12_isHeard_14 : decode cX12_isHeard 14 = .ok (.istore_n 2, 1) := by decide +kernel
theorem dX12_isHeard_15 : decode cX12_isHeard 15 = .ok (.aload_n 0, 1) := by decide +kernel
theorem dX12_isHeard_16 : decode cX12_isHeard 16 = .ok (.iload_n 2, 1) := by decide +kernel
theorem dX12_isHeard_17 : decode cX12_isHeard 17 = .ok (.invokevirtual 301, 3) := by decide +kernel
theorem dX12_isHeard_20 : decode cX12_isHeard 20 = .ok (.aload_n 0, 1) := by decide +kernel
theorem dX12_isHeard_21 : decode cX12_isHeard 21 = .ok (.dup, 1) := by decide +kernel
theorem dX12_isHeard_22 : decode cX12_isHeard 22 = .ok (.getfield 313, 3) := by decide +kernel
theorem dX12_isHeard_25 : decode cX12_isHeard 25 = .ok (.iconst 1, 1) := by decide +kernel
theorem dX12_isHeard_26 : decode cX12_isHeard 26 = .ok (.iadd, 1) := by decide +kernel
theorem dX12_isHeard_27 : decode cX12_isHeard 27 = .ok (.putfield 313, 3) := by decide +kernel
theorem dX12_isHeard_30 : decode cX12_isHeard 30 = .ok (.aload_n 0, 1) := by decide +kernel
theorem dX12_isHeard_31 : decode cX12_isHeard 31 = .ok (.getfield 66, 3) := by decide +kernel
theorem dX12_isHeard_34 : decode cX12_isHeard 34 = .ok (.iload_n 1, 1) := by decide +kernel
theorem dX12_isHeard_35 : decode cX12_isHeard 35 = .ok (.dup2, 1) := by decide +kernel
theorem dX12_isHeard_36 : decode cX12_isHeard 36 = .ok (.iaload, 1) := by decide +kernel
theorem dX12_isHeard_37 : decode cX12_isHeard 37 = .ok (.iconst 1, 1) := by decide +kernel
theorem dX12_isHeard_38 : decode cX12_isHeard 38 = .ok (.iadd, 1) := by decide +kernel
theorem dX12_isHeard_39 : decode cX12_isHeard 39 = .ok (.iastore, 1) := by decide +kernel
theorem dX12_isHeard_40 : decode cX12_isHeard 40 = .ok (.iload_n 2, 1) := by decide +kernel
theorem dX12_isHeard_41 : decode cX12_isHeard 41 = .ok (.aload_n 0, 1) := by decide +kernel
theorem dX12_isHeard_42 : decode cX12_isHeard 42 = .ok (.getfield 72, 3) := by decide +kernel
theorem dX12_isHeard_45 : decode cX12_isHeard 45 = .ok (.iload_n 1, 1) := by decide +kernel
theorem dX12_isHeard_46 : decode cX12_isHeard 46 = .ok (.iaload, 1) := by decide +kernel
theorem dX12_isHeard_47 : decode cX12_isHeard 47 = .ok (.if_icmp .le 10, 3) := by decide +kernel
theorem dX12_isHeard_50 : decode cX12_isHeard 50 = .ok (.aload_n 0, 1) := by decide +kernel
theorem dX12_isHeard_51 : decode cX12_isHeard 51 = .ok (.getfield 72, 3) := by decide +kernel
theorem dX12_isHeard_54 : decode cX12_isHeard 54 = .ok (.iload_n 1, 1) := by decide +kernel
theorem dX12_isHeard_55 : decode cX12_isHeard 55 = .ok (.iload_n 2, 1) := by decide +kernel
theorem dX12_isHeard_56 : decode cX12_isHeard 56 = .ok (.iastore, 1) := by decide +kernel
theorem dX12_isHeard_57 : decode cX12_isHeard 57 = .ok (.iconst 0, 1) := by decide +kernel
theorem dX12_isHeard_58 : decode cX12_isHeard 58 = .ok (.istore_n 3, 1) := by decide +kernel
theorem dX12_isHeard_59 : decode cX12_isHeard 59 = .ok (.iload_n 3, 1) := by decide +kernel
theorem dX12_isHeard_60 : decode cX12_isHeard 60 = .ok (.aload_n 0, 1) := by decide +kernel
theorem dX12_isHeard_61 : decode cX12_isHeard 61 = .ok (.getfield 130, 3) := by decide +kernel
theorem dX12_isHeard_64 : decode cX12_isHeard 64 = .ok (.if_icmp .ge 36, 3) := by decide +kernel
theorem dX12_isHeard_67 : decode cX12_isHeard 67 = .ok (.aload_n 0, 1) := by decide +kernel
theorem dX12_isHeard_68 : decode cX12_isHeard 68 = .ok (.iload_n 3, 1) := by decide +kernel
theorem dX12_isHeard_69 : decode cX12_isHeard 69 = .ok (.invokevirtual 269, 3) := by decide +kernel
theorem dX12_isHeard_72 : decode cX12_isHeard 72 = .ok (.ifCond .ne 22, 3) := by decide +kernel
theorem dX12_isHeard_75 : decode cX12_isHeard 75 = .ok (.aload_n 0, 1) := by decide +kernel
theorem dX12_isHeard_76 : decode cX12_isHeard 76 = .ok (.getfield 13, 3) := by decide +kernel
theorem dX12_isHeard_79 : decode cX12_isHeard 79 = .ok (.iload_n 3, 1) := by decide +kernel
theorem dX12_isHeard_80 : decode cX12_isHeard 80 = .ok (.iaload, 1) := by decide +kernel
theorem dX12_isHeard_81 : decode cX12_isHeard 81 = .ok (.ifCond .le 13, 3) := by decide +kernel
theorem dX12_isHeard_84 : decode cX12_isHeard 84 = .ok (.aload_n 0, 1) := by decide +kernel
theorem dX12_isHeard_85 : decode cX12_isHeard 85 = .ok (.getfield 13, 3) := by decide +kernel
theorem dX12_isHeard_88 : decode cX12_isHeard 88 = .ok (.iload_n 3, 1) := by decide +kernel
theorem dX12_isHeard_89 : decode cX12_isHeard 89 = .ok (.dup2, 1) := by decide +kernel
theorem dX12_isHeard_90 : decode cX12_isHeard 90 = .ok (.iaload, 1) := by decide +kernel
theorem dX12_isHeard_91 : decode cX12_isHeard 91 = .ok (.iconst 1, 1) := by decide +kernel
theorem dX12_isHeard_92 : decode cX12_isHeard 92 = .ok (.isub, 1) := by decide +kernel
theorem dX12_isHeard_93 : decode cX12_isHeard 93 = .ok (.iastore, 1) := by decide +kernel
theorem dX12_isHeard_94 : decode cX12_isHeard 94 = .ok (.iinc 3 1, 3) := by decide +kernel
theorem dX12_isHeard_97 : decode cX12_isHeard 97 = .ok (.goto (-38), 3) := by decide +kernel
theorem dX12_isHeard_100 : decode cX12_isHeard 100 = .ok (.iconst 0, 1) := by decide +kernel
theorem dX12_isHeard_101 : decode cX12_isHeard 101 = .ok (.istore_n 3, 1) := by decide +kernel
theorem dX12_isHeard_102 : decode cX12_isHeard 102 = .ok (.iload_n 3, 1) := by decide +kernel
theorem dX12_isHeard_103 : decode cX12_isHeard 103 = .ok (.aload_n 0, 1) := by decide +kernel
theorem dX12_isHeard_104 : decode cX12_isHeard 104 = .ok (.getfield 133, 3) := by decide +kernel
theorem dX12_isHeard_107 : decode cX12_isHeard 107 = .ok (.if_icmp .ge 41, 3) := by decide +kernel
theorem dX12_isHeard_110 : decode cX12_isHeard 110 = .ok (.aload_n 0, 1) := by decide +kernel
theorem dX12_isHeard_111 : decode cX12_isHeard 111 = .ok (.getfield 28, 3) := by decide +kernel
theorem dX12_isHeard_114 : decode cX12_isHeard 114 = .ok (.iload_n 3, 1) := by decide +kernel
theorem dX12_isHeard_115 : decode cX12_isHeard 115 = .ok (.iaload, 1) := by decide +kernel
theorem dX12_isHeard_116 : decode cX12_isHeard 116 = .ok (.iconst 3, 1) := by decide +kernel
theorem dX12_isHeard_117 : decode cX12_isHeard 117 = .ok (.if_icmp .ne 25, 3) := by decide +kernel
theorem dX12_isHeard_120 : decode cX12_isHeard 120 = .ok (.aload_n 0, 1) := by decide +kernel
theorem dX12_isHeard_121 : decode cX12_isHeard 121 = .ok (.getfield 37, 3) := by decide +kernel
theorem dX12_isHeard_124 : decode cX12_isHeard 124 = .ok (.iload_n 3, 1) := by decide +kernel
theorem dX12_isHeard_125 : decode cX12_isHeard 125 = .ok (.iaload, 1) := by decide +kernel
theorem dX12_isHeard_126 : decode cX12_isHeard 126 = .ok (.iload_n 1, 1) := by decide +kernel
theorem dX12_isHeard_127 : decode cX12_isHeard 127 = .ok (.if_icmp .ne 15, 3) := by decide +kernel
theorem dX12_isHeard_130 : decode cX12_isHeard 130 = .ok (.aload_n 0, 1) := by decide +kernel
theorem dX12_isHeard_131 : decode cX12_isHeard 131 = .ok (.getfield 60, 3) := by decide +kernel
theorem dX12_isHeard_134 : decode cX12_isHeard 134 = .ok (.iload_n 3, 1) := by decide +kernel
theorem dX12_isHeard_135 : decode cX12_isHeard 135 = .ok (.aload_n 0, 1) := by decide +kernel
theorem dX12_isHeard_136 : decode cX12_isHeard 136 = .ok (.getfield 167, 3) := by decide +kernel
theorem dX12_isHeard_139 : decode cX12_isHeard 139 = .ok (.iconst 1, 1) := by decide +kernel
theorem dX12_isHeard_140 : decode cX12_isHeard 140 = .ok (.iadd, 1) := by decide +kernel
theorem dX12_isHeard_141 : decode cX12_isHeard 141 = .ok (.iastore, 1) := by decide +kernel
theorem dX12_isHeard_142 : decode cX12_isHeard 142 = .ok (.iinc 3 1, 3) := by decide +kernel
theorem dX12_isHeard_145 : decode cX12_isHeard 145 = .ok (.goto (-43), 3) := by decide +kernel
theorem dX12_isHeard_148 : decode cX12_isHeard 148 = .ok (.aload_n 0, 1) := by decide +kernel
theorem dX12_isHeard_149 : decode cX12_isHeard 149 = .ok (.iconst (-1), 1) := by decide +kernel
theorem dX12_isHeard_150 : decode cX12_isHeard 150 = .ok (.putfield 91, 3) := by decide +kernel
theorem dX12_isHeard_153 : decode cX12_isHeard 153 = .ok (.aload_n 0, 1) := by decide +kernel
theorem dX12_isHeard_154 : decode cX12_isHeard 154 = .ok (.aload_n 0, 1) := by decide +kernel
theorem dX12_isHeard_155 : decode cX12_isHeard 155 = .ok (.getfield 167, 3) := by decide +kernel
theorem dX12_isHeard_158 : decode cX12_isHeard 158 = .ok (.iconst 4, 1) := by decide +kernel
theorem dX12_isHeard_159 : decode cX12_isHeard 159 = .ok (.iadd, 1) := by decide +kernel
theorem dX12_isHeard_160 : decode cX12_isHeard 160 = .ok (.putfield 310, 3) := by decide +kernel
theorem dX12_isHeard_163 : decode cX12_isHeard 163 = .ok (.return_, 1) := by decide +kernel
theorem dX12_goes_0 : decode cX12_goes 0 = .ok (.iconst 0, 1) := by decide +kernel
theorem dX12_goes_1 : decode cX12_goes 1 = .ok (.istore_n 1, 1) := by decide +kernel
theorem dX12_goes_2 : decode cX12_goes 2 = .ok (.iload_n 1, 1) := by decide +kernel
theorem dX12_goes_3 : decode cX12_goes 3 = .ok (.aload_n 0, 1) := by decide +kernel
theorem dX12_goes_4 : decode cX12_goes 4 = .ok (.getfield 130, 3) := by decide +kernel
theorem dX12_goes_7 : decode cX12_goes 7 = .ok (.if_icmp .ge 41, 3) := by decide +kernel
theorem dX12_goes_10 : decode cX12_goes 10 = .ok (.aload_n 0, 1) := by decide +kernel
theorem dX12_goes_11 : decode cX12_goes 11 = .ok (.iload_n 1, 1) := by decide +kernel
theorem dX12_goes_12 : decode cX12_goes 12 = .ok (.invokevirtual 269, 3) := by decide +kernel
theorem dX12_goes_15 : decode cX12_goes 15 = .ok (.ifCond .eq 27, 3) := by decide +kernel
theorem dX12_goes_18 : decode cX12_goes 18 = .ok (.aload_n 0, 1) := by decide +kernel
theorem dX12_goes_19 : decode cX12_goes 19 = .ok (.getfield 167, 3) := by decide +kernel
theorem dX12_goes_22 : decode cX12_goes 22 = .ok (.aload_n 0, 1) := by decide +kernel
theorem dX12_goes_23 : decode cX12_goes 23 = .ok (.getfield 16, 3) := by decide +kernel
theorem dX12_goes_26 : decode cX12_goes 26 = .ok (.iload_n 1, 1) := by decide +kernel
theorem dX12_goes_27 : decode cX12_goes 27 = .ok (.iaload, 1) := by decide +kernel
theorem dX12_goes_28 : decode cX12_goes 28 = .ok (.isub, 1) := by decide +kernel
theorem dX12_goes_29 : decode cX12_goes 29 = .ok (.sipush 1408, 3) := by decide +kernel
theorem dX12_goes_32 : decode cX12_goes 32 = .ok (.if_icmp .lt 10, 3) := by decide +kernel
theorem dX12_goes_35 : decode cX12_goes 35 = .ok (.aload_n 0, 1) := by decide +kernel
theorem dX12_goes_36 : decode cX12_goes 36 = .ok (.getfield 13, 3) := by decide +kernel
theorem dX12_goes_39 : decode cX12_goes 39 = .ok (.iload_n 1, 1) := by decide +kernel
theorem dX12_goes_40 : decode cX12_goes 40 = .ok (.iconst 0, 1) := by decide +kernel
theorem dX12_goes_41 : decode cX12_goes 41 = .ok (.iastore, 1) := by decide +kernel
theorem dX12_goes_42 : decode cX12_goes 42 = .ok (.iinc 1 1, 3) := by decide +kernel
theorem dX12_goes_45 : decode cX12_goes 45 = .ok (.goto (-43), 3) := by decide +kernel
theorem dX12_goes_48 : decode cX12_goes 48 = .ok (.aload_n 0, 1) := by decide +kernel
theorem dX12_goes_49 : decode cX12_goes 49 = .ok (.invokevirtual 316, 3) := by decide +kernel
theorem dX12_goes_52 : decode cX12_goes 52 = .ok (.aload_n 0, 1) := by decide +kernel
theorem dX12_goes_53 : decode cX12_goes 53 = .ok (.getfield 91, 3) := by decide +kernel
theorem dX12_goes_56 : decode cX12_goes 56 = .ok (.ifCond .ge 18, 3) := by decide +kernel
theorem dX12_goes_59 : decode cX12_goes 59 = .ok (.aload_n 0, 1) := by decide +kernel
theorem dX12_goes_60 : decode cX12_goes 60 = .ok (.getfield 167, 3) := by decide +kernel
theorem dX12_goes_63 : decode cX12_goes 63 = .ok (.aload_n 0, 1) := by decide +kernel
theorem dX12_goes_64 : decode cX12_goes 64 = .ok (.getfield 310, 3) := by decide +kernel
theorem dX12_goes_67 : decode cX12_goes 67 = .ok (.if_icmp .lt 7, 3) := by decide +kernel
theorem dX12_goes_70 : decode cX12_goes 70 = .ok (.aload_n 0, 1) := by decide +kernel
theorem dX12_goes_71 : decode cX12_goes 71 = .ok (.invokevirtual 319, 3) := by decide +kernel
theorem dX12_goes_74 : decode cX12_goes 74 = .ok (.aload_n 0, 1) := by decide +kernel
theorem dX12_goes_75 : decode cX12_goes 75 = .ok (.getfield 91, 3) := by decide +kernel
theorem dX12_goes_78 : decode cX12_goes 78 = .ok (.ifCond .lt 57, 3) := by decide +kernel
theorem dX12_goes_81 : decode cX12_goes 81 = .ok (.aload_n 0, 1) := by decide +kernel
theorem dX12_goes_82 : decode cX12_goes 82 = .ok (.aload_n 0, 1) := by decide +kernel
theorem dX12_goes_83 : decode cX12_goes 83 = .ok (.getfield 167, 3) := by decide +kernel
theorem dX12_goes_86 : decode cX12_goes 86 = .ok (.invokevirtual 275, 3) := by decide +kernel
theorem dX12_goes_89 : decode cX12_goes 89 = .ok (.ifCond .ne 24, 3) := by decide +kernel
theorem dX12_goes_92 : decode cX12_goes 92 = .ok (.aload_n 0, 1) := by decide +kernel
theorem dX12_goes_93 : decode cX12_goes 93 = .ok (.getfield 295, 3) := by decide +kernel
theorem dX12_goes_96 : decode cX12_goes 96 = .ok (.ifCond .eq 24, 3) := by decide +kernel
theorem dX12_goes_99 : decode cX12_goes 99 = .ok (.aload_n 0, 1) := by decide +kernel
theorem dX12_goes_100 : decode cX12_goes 100 = .ok (.getfield 167, 3) := by decide +kernel
theorem dX12_goes_103 : decode cX12_goes 103 = .ok (.aload_n 0, 1) := by decide +kernel
theorem dX12_goes_104 : decode cX12_goes 104 = .ok (.getfield 289, 3) := by decide +kernel
theorem dX12_goes_107 : decode cX12_goes 107 = .ok (.bipush 8, 2) := by decide +kernel
theorem dX12_goes_109 : decode cX12_goes 109 = .ok (.isub, 1) := by decide +kernel
theorem dX12_goes_110 : decode cX12_goes 110 = .ok (.if_icmp .ne 10, 3) := by decide +kernel
theorem dX12_goes_113 : decode cX12_goes 113 = .ok (.aload_n 0, 1) := by decide +kernel
theorem dX12_goes_114 : decode cX12_goes 114 = .ok (.invokevirtual 322, 3) := by decide +kernel
theorem dX12_goes_117 : decode cX12_goes 117 = .ok (.goto 18, 3) := by decide +kernel
theorem dX12_goes_120 : decode cX12_goes 120 = .ok (.aload_n 0, 1) := by decide +kernel
theorem dX12_goes_121 : decode cX12_goes 121 = .ok (.getfield 167, 3) := by decide +kernel
theorem dX12_goes_124 : decode cX12_goes 124 = .ok (.aload_n 0, 1) := by decide +kernel
theorem dX12_goes_125 : decode cX12_goes 125 = .ok (.getfield 289, 3) := by decide +kernel
theorem dX12_goes_128 : decode cX12_goes 128 = .ok (.if_icmp .ne 7, 3) := by decide +kernel
theorem dX12_goes_131 : decode cX12_goes 131 = .ok (.aload_n 0, 1) := by decide +kernel
theorem dX12_goes_132 : decode cX12_goes 132 = .ok (.invokevirtual 325, 3) := by decide +kernel
theorem dX12_goes_135 : decode cX12_goes 135 = .ok (.aload_n 0, 1) := by decide +kernel
theorem dX12_goes_136 : decode cX12_goes 136 = .ok (.dup, 1) := by decide +kernel
theorem dX12_goes_137 : decode cX12_goes 137 = .ok (.getfield 167, 3) := by decide +kernel
theorem dX12_goes_140 : decode cX12_goes 140 = .ok (.iconst 1, 1) := by decide +kernel
theorem dX12_goes_141 : decode cX12_goes 141 = .ok (.iadd, 1) := by decide +kernel
theorem dX12_goes_142 : decode cX12_goes 142 = .ok (.putfield 167, 3) := by decide +kernel
theorem dX12_goes_145 : decode cX12_goes 145 = .ok (.aload_n 0, 1) := by decide +kernel
theorem dX12_goes_146 : decode cX12_goes 146 = .ok (.invokevirtual 328, 3) := by decide +kernel
theorem dX12_goes_149 : decode cX12_goes 149 = .ok (.return_, 1) := by decide +kernel
theorem dX12_run_0 : decode cX12_run 0 = .ok (.iload_n 1, 1) := by decide +kernel
theorem dX12_run_1 : decode cX12_run 1 = .ok (.ifCond .ge 10, 3) := by decide +kernel
theorem dX12_run_4 : decode cX12_run 4 = .ok (.aload_n 0, 1) := by decide +kernel
theorem dX12_run_5 : decode cX12_run 5 = .ok (.bipush (-4), 2) := by decide +kernel
theorem dX12_run_7 : decode cX12_run 7 = .ok (.invokevirtual 142, 3) := by decide +kernel
theorem dX12_run_10 : decode cX12_run 10 = .ok (.ireturn, 1) := by decide +kernel
theorem dX12_run_11 : decode cX12_run 11 = .ok (.iload_n 1, 1) := by decide +kernel
theorem dX12_run_12 : decode cX12_run 12 = .ok (.i2l, 1) := by decide +kernel
theorem dX12_run_13 : decode cX12_run 13 = .ok (.lconst 1, 1) := by decide +kernel
theorem dX12_run_14 : decode cX12_run 14 = .ok (.ldc2_w 331, 3) := by decide +kernel
theorem dX12_run_17 : decode cX12_run 17 = .ok (.invokestatic 138, 3) := by decide +kernel
theorem dX12_run_20 : decode cX12_run 20 = .ok (.ifCond .ne 10, 3) := by decide +kernel
theorem dX12_run_23 : decode cX12_run 23 = .ok (.aload_n 0, 1) := by decide +kernel
theorem dX12_run_24 : decode cX12_run 24 = .ok (.bipush (-7), 2) := by decide +kernel
theorem dX12_run_26 : decode cX12_run 26 = .ok (.invokevirtual 142, 3) := by decide +kernel
theorem dX12_run_29 : decode cX12_run 29 = .ok (.ireturn, 1) := by decide +kernel
theorem dX12_run_30 : decode cX12_run 30 = .ok (.aload_n 0, 1) := by decide +kernel
theorem dX12_run_31 : decode cX12_run 31 = .ok (.getfield 313, 3) := by decide +kernel
theorem dX12_run_34 : decode cX12_run 34 = .ok (.istore_n 2, 1) := by decide +kernel
theorem dX12_run_35 : decode cX12_run 35 = .ok (.iconst 0, 1) := by decide +kernel
theorem dX12_run_36 : decode cX12_run 36 = .ok (.istore_n 3, 1) := by decide +kernel
theorem dX12_run_37 : decode cX12_run 37 = .ok (.iload_n 3, 1) := by decide +kernel
theorem dX12_run_38 : decode cX12_run 38 = .ok (.iload_n 1, 1) := by decide +kernel
theorem dX12_run_39 : decode cX12_run 39 = .ok (.if_icmp .ge 13, 3) := by decide +kernel
theorem dX12_run_42 : decode cX12_run 42 = .ok (.aload_n 0, 1) := by decide +kernel
theorem dX12_run_43 : decode cX12_run 43 = .ok (.invokevirtual 333, 3) := by decide +kernel
theorem dX12_run_46 : decode cX12_run 46 = .ok (.iinc 3 1, 3) := by decide +kernel
theorem dX12_run_49 : decode cX12_run 49 = .ok (.goto (-12), 3) := by decide +kernel
theorem dX12_run_52 : decode cX12_run 52 = .ok (.aload_n 0, 1) := by decide +kernel
theorem dX12_run_53 : decode cX12_run 53 = .ok (.getfield 313, 3) := by decide +kernel
theorem dX12_run_56 : decode cX12_run 56 = .ok (.iload_n 2, 1) := by decide +kernel
theorem dX12_run_57 : decode cX12_run 57 = .ok (.isub, 1) := by decide +kernel
theorem dX12_run_58 : decode cX12_run 58 = .ok (.ireturn, 1) := by decide +kernel
theorem dX12_count_0 : decode cX12_count 0 = .ok (.iload_n 1, 1) := by decide +kernel
theorem dX12_count_1 : decode cX12_count 1 = .ok (.tableswitch 98 0 7 #[47, 52, 57, 62, 67, 83, 88, 93], 47) := by decide +kernel
theorem dX12_count_48 : decode cX12_count 48 = .ok (.aload_n 0, 1) := by decide +kernel
theorem dX12_count_49 : decode cX12_count 49 = .ok (.getfield 167, 3) := by decide +kernel
theorem dX12_count_52 : decode cX12_count 52 = .ok (.ireturn, 1) := by decide +kernel
theorem dX12_count_53 : decode cX12_count 53 = .ok (.aload_n 0, 1) := by decide +kernel
theorem dX12_count_54 : decode cX12_count 54 = .ok (.getfield 313, 3) := by decide +kernel
theorem dX12_count_57 : decode cX12_count 57 = .ok (.ireturn, 1) := by decide +kernel
theorem dX12_count_58 : decode cX12_count 58 = .ok (.aload_n 0, 1) := by decide +kernel
theorem dX12_count_59 : decode cX12_count 59 = .ok (.getfield 304, 3) := by decide +kernel
theorem dX12_count_62 : decode cX12_count 62 = .ok (.ireturn, 1) := by decide +kernel
theorem dX12_count_63 : decode cX12_count 63 = .ok (.aload_n 0, 1) := by decide +kernel
theorem dX12_count_64 : decode cX12_count 64 = .ok (.getfield 91, 3) := by decide +kernel
theorem dX12_count_67 : decode cX12_count 67 = .ok (.ireturn, 1) := by decide +kernel
theorem dX12_count_68 : decode cX12_count 68 = .ok (.aload_n 0, 1) := by decide +kernel
theorem dX12_count_69 : decode cX12_count 69 = .ok (.getfield 91, 3) := by decide +kernel
theorem dX12_count_72 : decode cX12_count 72 = .ok (.ifCond .lt 7, 3) := by decide +kernel
theorem dX12_count_75 : decode cX12_count 75 = .ok (.iconst (-1), 1) := by decide +kernel
theorem dX12_count_76 : decode cX12_count 76 = .ok (.goto 7, 3) := by decide +kernel
theorem dX12_count_79 : decode cX12_count 79 = .ok (.aload_n 0, 1) := by decide +kernel
theorem dX12_count_80 : decode cX12_count 80 = .ok (.getfield 310, 3) := by decide +kernel
theorem dX12_count_83 : decode cX12_count 83 = .ok (.ireturn, 1) := by decide +kernel
theorem dX12_count_84 : decode cX12_count 84 = .ok (.aload_n 0, 1) := by decide +kernel
theorem dX12_count_85 : decode cX12_count 85 = .ok (.getfield 130, 3) := by decide +kernel
theorem dX12_count_88 : decode cX12_count 88 = .ok (.ireturn, 1) := by decide +kernel
theorem dX12_count_89 : decode cX12_count 89 = .ok (.aload_n 0, 1) := by decide +kernel
theorem dX12_count_90 : decode cX12_count 90 = .ok (.getfield 133, 3) := by decide +kernel
theorem dX12_count_93 : decode cX12_count 93 = .ok (.ireturn, 1) := by decide +kernel
theorem dX12_count_94 : decode cX12_count 94 = .ok (.aload_n 0, 1) := by decide +kernel
theorem dX12_count_95 : decode cX12_count 95 = .ok (.getfield 272, 3) := by decide +kernel
theorem dX12_count_98 : decode cX12_count 98 = .ok (.ireturn, 1) := by decide +kernel
theorem dX12_count_99 : decode cX12_count 99 = .ok (.aload_n 0, 1) := by decide +kernel
theorem dX12_count_100 : decode cX12_count 100 = .ok (.bipush (-7), 2) := by decide +kernel
theorem dX12_count_102 : decode cX12_count 102 = .ok (.invokevirtual 142, 3) := by decide +kernel
theorem dX12_count_105 : decode cX12_count 105 = .ok (.ireturn, 1) := by decide +kernel
theorem dX12_log_0 : decode cX12_log 0 = .ok (.iload_n 1, 1) := by decide +kernel
theorem dX12_log_1 : decode cX12_log 1 = .ok (.i2l, 1) := by decide +kernel
theorem dX12_log_2 : decode cX12_log 2 = .ok (.lconst 0, 1) := by decide +kernel
theorem dX12_log_3 : decode cX12_log 3 = .ok (.aload_n 0, 1) := by decide +kernel
theorem dX12_log_4 : decode cX12_log 4 = .ok (.getfield 298, 3) := by decide +kernel
theorem dX12_log_7 : decode cX12_log 7 = .ok (.iconst 1, 1) := by decide +kernel
theorem dX12_log_8 : decode cX12_log 8 = .ok (.isub, 1) := by decide +kernel
theorem dX12_log_9 : decode cX12_log 9 = .ok (.i2l, 1) := by decide +kernel
theorem dX12_log_10 : decode cX12_log 10 = .ok (.invokestatic 138, 3) := by decide +kernel
theorem dX12_log_13 : decode cX12_log 13 = .ok (.ifCond .ne 10, 3) := by decide +kernel
theorem dX12_log_16 : decode cX12_log 16 = .ok (.aload_n 0, 1) := by decide +kernel
theorem dX12_log_17 : decode cX12_log 17 = .ok (.bipush (-3), 2) := by decide +kernel
theorem dX12_log_19 : decode cX12_log 19 = .ok (.invokevirtual 142, 3) := by decide +kernel
theorem dX12_log_22 : decode cX12_log 22 = .ok (.ireturn, 1) := by decide +kernel
theorem dX12_log_23 : decode cX12_log 23 = .ok (.iload_n 2, 1) := by decide +kernel
theorem dX12_log_24 : decode cX12_log 24 = .ok (.tableswitch 60 0 3 #[32, 39, 46, 53], 32) := by decide +kernel
theorem dX12_log_56 : decode cX12_log 56 = .ok (.aload_n 0, 1) := by decide +kernel
theorem dX12_log_57 : decode cX12_log 57 = .ok (.getfield 97, 3) := by decide +kernel
theorem dX12_log_60 : decode cX12_log 60 = .ok (.iload_n 1, 1) := by decide +kernel
theorem dX12_log_61 : decode cX12_log 61 = .ok (.iaload, 1) := by decide +kernel
theorem dX12_log_62 : decode cX12_log 62 = .ok (.ireturn, 1) := by decide +kernel
theorem dX12_log_63 : decode cX12_log 63 = .ok (.aload_n 0, 1) := by decide +kernel
theorem dX12_log_64 : decode cX12_log 64 = .ok (.getfield 100, 3) := by decide +kernel
theorem dX12_log_67 : decode cX12_log 67 = .ok (.iload_n 1, 1) := by decide +kernel
theorem dX12_log_68 : decode cX12_log 68 = .ok (.iaload, 1) := by decide +kernel
theorem dX12_log_69 : decode cX12_log 69 = .ok (.ireturn, 1) := by decide +kernel
theorem dX12_log_70 : decode cX12_log 70 = .ok (.aload_n 0, 1) := by decide +kernel
theorem dX12_log_71 : decode cX12_log 71 = .ok (.getfield 103, 3) := by decide +kernel
theorem dX12_log_74 : decode cX12_log 74 = .ok (.iload_n 1, 1) := by decide +kernel
theorem dX12_log_75 : decode cX12_log 75 = .ok (.iaload, 1) := by decide +kernel
theorem dX12_log_76 : decode cX12_log 76 = .ok (.ireturn, 1) := by decide +kernel
theorem dX12_log_77 : decode cX12_log 77 = .ok (.aload_n 0, 1) := by decide +kernel
theorem dX12_log_78 : decode cX12_log 78 = .ok (.getfield 106, 3) := by decide +kernel
theorem dX12_log_81 : decode cX12_log 81 = .ok (.iload_n 1, 1) := by decide +kernel
theorem dX12_log_82 : decode cX12_log 82 = .ok (.iaload, 1) := by decide +kernel
theorem dX12_log_83 : decode cX12_log 83 = .ok (.ireturn, 1) := by decide +kernel
theorem dX12_log_84 : decode cX12_log 84 = .ok (.aload_n 0, 1) := by decide +kernel
theorem dX12_log_85 : decode cX12_log 85 = .ok (.bipush (-7), 2) := by decide +kernel
theorem dX12_log_87 : decode cX12_log 87 = .ok (.invokevirtual 142, 3) := by decide +kernel
theorem dX12_log_90 : decode cX12_log 90 = .ok (.ireturn, 1) := by decide +kernel
theorem dX12_every_0 : decode cX12_every 0 = .ok (.iload_n 1, 1) := by decide +kernel
theorem dX12_every_1 : decode cX12_every 1 = .ok (.ifCond .eq 24, 3) := by decide +kernel
theorem dX12_every_4 : decode cX12_every 4 = .ok (.iload_n 1, 1) := by decide +kernel
theorem dX12_every_5 : decode cX12_every 5 = .ok (.i2l, 1) := by decide +kernel
theorem dX12_every_6 : decode cX12_every 6 = .ok (.ldc2_w 160, 3) := by decide +kernel
theorem dX12_every_9 : decode cX12_every 9 = .ok (.ldc2_w 176, 3) := by decide +kernel
theorem dX12_every_12 : decode cX12_every 12 = .ok (.invokestatic 138, 3) := by decide +kernel
theorem dX12_every_15 : decode cX12_every 15 = .ok (.ifCond .ne 10, 3) := by decide +kernel
theorem dX12_every_18 : decode cX12_every 18 = .ok (.aload_n 0, 1) := by decide +kernel
theorem dX12_every_19 : decode cX12_every 19 = .ok (.bipush (-7), 2) := by decide +kernel
theorem dX12_every_21 : decode cX12_every 21 = .ok (.invokevirtual 142, 3) := by decide +kernel
theorem dX12_every_24 : decode cX12_every 24 = .ok (.ireturn, 1) := by decide +kernel
theorem dX12_every_25 : decode cX12_every 25 = .ok (.aload_n 0, 1) := by decide +kernel
theorem dX12_every_26 : decode cX12_every 26 = .ok (.getfield 336, 3) := by decide +kernel
theorem dX12_every_29 : decode cX12_every 29 = .ok (.istore_n 2, 1) := by decide +kernel
theorem dX12_every_30 : decode cX12_every 30 = .ok (.aload_n 0, 1) := by decide +kernel
theorem dX12_every_31 : decode cX12_every 31 = .ok (.iload_n 1, 1) := by decide +kernel
theorem dX12_every_32 : decode cX12_every 32 = .ok (.putfield 336, 3) := by decide +kernel
theorem dX12_every_35 : decode cX12_every 35 = .ok (.aload_n 0, 1) := by decide +kernel
theorem dX12_every_36 : decode cX12_every 36 = .ok (.aload_n 0, 1) := by decide +kernel
theorem dX12_every_37 : decode cX12_every 37 = .ok (.getfield 170, 3) := by decide +kernel
theorem dX12_every_40 : decode cX12_every 40 = .ok (.ifCond .eq 12, 3) := by decide +kernel
theorem dX12_every_43 : decode cX12_every 43 = .ok (.iload_n 2, 1) := by decide +kernel
theorem dX12_every_44 : decode cX12_every 44 = .ok (.iload_n 1, 1) := by decide +kernel
theorem dX12_every_45 : decode cX12_every 45 = .ok (.if_icmp .ne 7, 3) := by decide +kernel
theorem dX12_every_48 : decode cX12_every 48 = .ok (.iconst 1, 1) := by decide +kernel
theorem dX12_every_49 : decode cX12_every 49 = .ok (.goto 4, 3) := by decide +kernel
theorem dX12_every_52 : decode cX12_every 52 = .ok (.iconst 0, 1) := by decide +kernel
theorem dX12_every_53 : decode cX12_every 53 = .ok (.putfield 170, 3) := by decide +kernel
theorem dX12_every_56 : decode cX12_every 56 = .ok (.iload_n 2, 1) := by decide +kernel
theorem dX12_every_57 : decode cX12_every 57 = .ok (.ireturn, 1) := by decide +kernel
theorem dX12_mostOf_0 : decode cX12_mostOf 0 = .ok (.bipush 32, 2) := by decide +kernel
theorem dX12_mostOf_2 : decode cX12_mostOf 2 = .ok (.bipush 8, 2) := by decide +kernel
theorem dX12_mostOf_4 : decode cX12_mostOf 4 = .ok (.aload_n 0, 1) := by decide +kernel
theorem dX12_mostOf_5 : decode cX12_mostOf 5 = .ok (.getfield 31, 3) := by decide +kernel
theorem dX12_mostOf_8 : decode cX12_mostOf 8 = .ok (.iload_n 1, 1) := by decide +kernel
theorem dX12_mostOf_9 : decode cX12_mostOf 9 = .ok (.iaload, 1) := by decide +kernel
theorem dX12_mostOf_10 : decode cX12_mostOf 10 = .ok (.imul, 1) := by decide +kernel
theorem dX12_mostOf_11 : decode cX12_mostOf 11 = .ok (.iadd, 1) := by decide +kernel
theorem dX12_mostOf_12 : decode cX12_mostOf 12 = .ok (.aload_n 0, 1) := by decide +kernel
theorem dX12_mostOf_13 : decode cX12_mostOf 13 = .ok (.getfield 25, 3) := by decide +kernel
theorem dX12_mostOf_16 : decode cX12_mostOf 16 = .ok (.iload_n 1, 1) := by decide +kernel
theorem dX12_mostOf_17 : decode cX12_mostOf 17 = .ok (.iaload, 1) := by decide +kernel
theorem dX12_mostOf_18 : decode cX12_mostOf 18 = .ok (.sipush 2048, 3) := by decide +kernel
theorem dX12_mostOf_21 : decode cX12_mostOf 21 = .ok (.if_icmp .ge 7, 3) := by decide +kernel
theorem dX12_mostOf_24 : decode cX12_mostOf 24 = .ok (.iconst 0, 1) := by decide +kernel
theorem dX12_mostOf_25 : decode cX12_mostOf 25 = .ok (.goto 5, 3) := by decide +kernel
theorem dX12_mostOf_28 : decode cX12_mostOf 28 = .ok (.bipush 18, 2) := by decide +kernel
theorem dX12_mostOf_30 : decode cX12_mostOf 30 = .ok (.iadd, 1) := by decide +kernel
theorem dX12_mostOf_31 : decode cX12_mostOf 31 = .ok (.istore_n 2, 1) := by decide +kernel
theorem dX12_mostOf_32 : decode cX12_mostOf 32 = .ok (.iload_n 2, 1) := by decide +kernel
theorem dX12_mostOf_33 : decode cX12_mostOf 33 = .ok (.iload_n 2, 1) := by decide +kernel
theorem dX12_mostOf_34 : decode cX12_mostOf 34 = .ok (.iconst 1, 1) := by decide +kernel
theorem dX12_mostOf_35 : decode cX12_mostOf 35 = .ok (.isub, 1) := by decide +kernel
theorem dX12_mostOf_36 : decode cX12_mostOf 36 = .ok (.iconst 4, 1) := by decide +kernel
theorem dX12_mostOf_37 : decode cX12_mostOf 37 = .ok (.idiv, 1) := by decide +kernel
theorem dX12_mostOf_38 : decode cX12_mostOf 38 = .ok (.iadd, 1) := by decide +kernel
theorem dX12_mostOf_39 : decode cX12_mostOf 39 = .ok (.bipush 13, 2) := by decide +kernel
theorem dX12_mostOf_41 : decode cX12_mostOf 41 = .ok (.iadd, 1) := by decide +kernel
theorem dX12_mostOf_42 : decode cX12_mostOf 42 = .ok (.ireturn, 1) := by decide +kernel
theorem dX12_most_0 : decode cX12_most 0 = .ok (.aload_n 0, 1) := by decide +kernel
theorem dX12_most_1 : decode cX12_most 1 = .ok (.iload_n 1, 1) := by decide +kernel
theorem dX12_most_2 : decode cX12_most 2 = .ok (.invokevirtual 154, 3) := by decide +kernel
theorem dX12_most_5 : decode cX12_most 5 = .ok (.ifCond .eq 11, 3) := by decide +kernel
theorem dX12_most_8 : decode cX12_most 8 = .ok (.aload_n 0, 1) := by decide +kernel
theorem dX12_most_9 : decode cX12_most 9 = .ok (.iload_n 1, 1) := by decide +kernel
theorem dX12_most_10 : decode cX12_most 10 = .ok (.invokevirtual 339, 3) := by decide +kernel
theorem dX12_most_13 : decode cX12_most 13 = .ok (.goto 9, 3) := by decide +kernel
theorem dX12_most_16 : decode cX12_most 16 = .ok (.aload_n 0, 1) := by decide +kernel
theorem dX12_most_17 : decode cX12_most 17 = .ok (.bipush (-3), 2) := by decide +kernel
theorem dX12_most_19 : decode cX12_most 19 = .ok (.invokevirtual 142, 3) := by decide +kernel
theorem dX12_most_22 : decode cX12_most 22 = .ok (.ireturn, 1) := by decide +kernel
theorem dX12_blocked_0 : decode cX12_blocked 0 = .ok (.iconst 0, 1) := by decide +kernel
theorem dX12_blocked_1 : decode cX12_blocked 1 = .ok (.istore_n 2, 1) := by decide +kernel
theorem dX12_blocked_2 : decode cX12_blocked 2 = .ok (.iconst 0, 1) := by decide +kernel
theorem dX12_blocked_3 : decode cX12_blocked 3 = .ok (.istore_n 3, 1) := by decide +kernel
theorem dX12_blocked_4 : decode cX12_blocked 4 = .ok (.iload_n 3, 1) := by decide +kernel
theorem dX12_blocked_5 : decode cX12_blocked 5 = .ok (.aload_n 0, 1) := by decide +kernel
theorem dX12_blocked_6 : decode cX12_blocked 6 = .ok (.getfield 133, 3) := by decide +kernel
theorem dX12_blocked_9 : decode cX12_blocked 9 = .ok (.if_icmp .ge 42, 3) := by decide +kernel
theorem dX12_blocked_12 : decode cX12_blocked 12 = .ok (.iload_n 3, 1) := by decide +kernel
theorem dX12_blocked_13 : decode cX12_blocked 13 = .ok (.iload_n 1, 1) := by decide +kernel
theorem dX12_blocked_14 : decode cX12_blocked 14 = .ok (.if_icmp .eq 31, 3) := by decide +kernel
theorem dX12_blocked_17 : decode cX12_blocked 17 = .ok (.aload_n 0, 1) := by decide +kernel
theorem dX12_blocked_18 : decode cX12_blocked 18 = .ok (.getfield 109, 3) := by decide +kernel
theorem dX12_blocked_21 : decode cX12_blocked 21 = .ok (.iload_n 3, 1) := by decide +kernel
theorem dX12_blocked_22 : decode cX12_blocked 22 = .ok (.baload, 1) := by decide +kernel
theorem dX12_blocked_23 : decode cX12_blocked 23 = .ok (.ifCond .ne 22, 3) := by decide +kernel
theorem dX12_blocked_26 : decode cX12_blocked 26 = .ok (.aload_n 0, 1) := by decide +kernel
theorem dX12_blocked_27 : decode cX12_blocked 27 = .ok (.iload_n 3, 1) := by decide +kernel
theorem dX12_blocked_28 : decode cX12_blocked 28 = .ok (.invokevirtual 339, 3) := by decide +kernel
theorem dX12_blocked_31 : decode cX12_blocked 31 = .ok (.iconst 1, 1) := by decide +kernel
theorem dX12_blocked_32 : decode cX12_blocked 32 = .ok (.isub, 1) := by decide +kernel
theorem dX12_blocked_33 : decode cX12_blocked 33 = .ok (.iload_n 2, 1) := by decide +kernel
theorem dX12_blocked_34 : decode cX12_blocked 34 = .ok (.if_icmp .le 11, 3) := by decide +kernel
theorem dX12_blocked_37 : decode cX12_blocked 37 = .ok (.aload_n 0, 1) := by decide +kernel
theorem dX12_blocked_38 : decode cX12_blocked 38 = .ok (.iload_n 3, 1) := by decide +kernel
theorem dX12_blocked_39 : decode cX12_blocked 39 = .ok (.invokevirtual 339, 3) := by decide +kernel
theorem dX12_blocked_42 : decode cX12_blocked 42 = .ok (.iconst 1, 1) := by decide +kernel
theorem dX12_blocked_43 : decode cX12_blocked 43 = .ok (.isub, 1) := by decide +kernel
theorem dX12_blocked_44 : decode cX12_blocked 44 = .ok (.istore_n 2, 1) := by decide +kernel
theorem dX12_blocked_45 : decode cX12_blocked 45 = .ok (.iinc 3 1, 3) := by decide +kernel
theorem dX12_blocked_48 : decode cX12_blocked 48 = .ok (.goto (-44), 3) := by decide +kernel
theorem dX12_blocked_51 : decode cX12_blocked 51 = .ok (.iload_n 2, 1) := by decide +kernel
theorem dX12_blocked_52 : decode cX12_blocked 52 = .ok (.ireturn, 1) := by decide +kernel
theorem dX12_faulty_0 : decode cX12_faulty 0 = .ok (.aload_n 0, 1) := by decide +kernel
theorem dX12_faulty_1 : decode cX12_faulty 1 = .ok (.getfield 336, 3) := by decide +kernel
theorem dX12_faulty_4 : decode cX12_faulty 4 = .ok (.ifCond .ne 5, 3) := by decide +kernel
theorem dX12_faulty_7 : decode cX12_faulty 7 = .ok (.lconst 0, 1) := by decide +kernel
theorem dX12_faulty_8 : decode cX12_faulty 8 = .ok (.lreturn, 1) := by decide +kernel
theorem dX12_faulty_9 : decode cX12_faulty 9 = .ok (.aload_n 0, 1) := by decide +kernel
theorem dX12_faulty_10 : decode cX12_faulty 10 = .ok (.iload_n 3, 1) := by decide +kernel
theorem dX12_faulty_11 : decode cX12_faulty 11 = .ok (.invokevirtual 339, 3) := by decide +kernel
theorem dX12_faulty_14 : decode cX12_faulty 14 = .ok (.istore 4, 2) := by decide +kernel
theorem dX12_faulty_16 : decode cX12_faulty 16 = .ok (.iconst 0, 1) := by decide +kernel
theorem dX12_faulty_17 : decode cX12_faulty 17 = .ok (.istore 5, 2) := by decide +kernel
theorem dX12_faulty_19 : decode cX12_faulty 19 = .ok (.iload 5, 2) := by decide +kernel
theorem dX12_faulty_21 : decode cX12_faulty 21 = .ok (.aload_n 0, 1) := by decide +kernel
theorem dX12_faulty_22 : decode cX12_faulty 22 = .ok (.getfield 133, 3) := by decide +kernel
theorem dX12_faulty_25 : decode cX12_faulty 25 = .ok (.if_icmp .ge 38, 3) := by decide +kernel
theorem dX12_faulty_28 : decode cX12_faulty 28 = .ok (.aload_n 0, 1) := by decide +kernel
theorem dX12_faulty_29 : decode cX12_faulty 29 = .ok (.getfield 109, 3) := by decide +kernel
theorem dX12_faulty_32 : decode cX12_faulty 32 = .ok (.iload 5, 2) := by decide +kernel
theorem dX12_faulty_34 : decode cX12_faulty 34 = .ok (.baload, 1) := by decide +kernel
theorem dX12_faulty_35 : decode cX12_faulty 35 = .ok (.ifCond .eq 22, 3) := by decide +kernel
theorem dX12_faulty_38 : decode cX12_faulty 38 = .ok (.aload_n 0, 1) := by decide +kernel
theorem dX12_faulty_39 : decode cX12_faulty 39 = .ok (.iload 5, 2) := by decide +kernel
theorem dX12_faulty_41 : decode cX12_faulty 41 = .ok (.invokevirtual 339, 3) := by decide +kernel
theorem dX12_faulty_44 : decode cX12_faulty 44 = .ok (.iload 4, 2) := by decide +kernel
theorem dX12_faulty_46 : decode cX12_faulty 46 = .ok (.if_icmp .le 11, 3) := by decide +kernel
theorem dX12_faulty_49 : decode cX12_faulty 49 = .ok (.aload_n 0, 1) := by decide +kernel
theorem dX12_faulty_50 : decode cX12_faulty 50 = .ok (.iload 5, 2) := by decide +kernel
theorem dX12_faulty_52 : decode cX12_faulty 52 = .ok (.invokevirtual 339, 3) := by decide +kernel
theorem dX12_faulty_55 : decode cX12_faulty 55 = .ok (.istore 4, 2) := by decide +kernel
theorem dX12_faulty_57 : decode cX12_faulty 57 = .ok (.iinc 5 1, 3) := by decide +kernel
theorem dX12_faulty_60 : decode cX12_faulty 60 = .ok (.goto (-41), 3) := by decide +kernel
theorem dX12_faulty_63 : decode cX12_faulty 63 = .ok (.lload_n 1, 1) := by decide +kernel
theorem dX12_faulty_64 : decode cX12_faulty 64 = .ok (.aload_n 0, 1) := by decide +kernel
theorem dX12_faulty_65 : decode cX12_faulty 65 = .ok (.getfield 336, 3) := by decide +kernel
theorem dX12_faulty_68 : decode cX12_faulty 68 = .ok (.i2l, 1) := by decide +kernel
theorem dX12_faulty_69 : decode cX12_faulty 69 = .ok (.ladd, 1) := by decide +kernel
theorem dX12_faulty_70 : decode cX12_faulty 70 = .ok (.aload_n 0, 1) := by decide +kernel
theorem dX12_faulty_71 : decode cX12_faulty 71 = .ok (.getfield 336, 3) := by decide +kernel
theorem dX12_faulty_74 : decode cX12_faulty 74 = .ok (.i2l, 1) := by decide +kernel
theorem dX12_faulty_75 : decode cX12_faulty 75 = .ok (.ldiv, 1) := by decide +kernel
theorem dX12_faulty_76 : decode cX12_faulty 76 = .ok (.ldc2_w 342, 3) := by decide +kernel
theorem dX12_faulty_79 : decode cX12_faulty 79 = .ok (.iload 4, 2) := by decide +kernel
theorem dX12_faulty_81 : decode cX12_faulty 81 = .ok (.i2l, 1) := by decide +kernel
theorem dX12_faulty_82 : decode cX12_faulty 82 = .ok (.ladd, 1) := by decide +kernel
theorem dX12_faulty_83 : decode cX12_faulty 83 = .ok (.lmul, 1) := by decide +kernel
theorem dX12_faulty_84 : decode cX12_faulty 84 = .ok (.lreturn, 1) := by decide +kernel
theorem dX12_busy_0 : decode cX12_busy 0 = .ok (.lconst 1, 1) := by decide +kernel
theorem dX12_busy_1 : decode cX12_busy 1 = .ok (.lstore_n 2, 1) := by decide +kernel
theorem dX12_busy_2 : decode cX12_busy 2 = .ok (.aload_n 0, 1) := by decide +kernel
theorem dX12_busy_3 : decode cX12_busy 3 = .ok (.iload_n 1, 1) := by decide +kernel
theorem dX12_busy_4 : decode cX12_busy 4 = .ok (.invokevirtual 344, 3) := by decide +kernel
theorem dX12_busy_7 : decode cX12_busy 7 = .ok (.istore 4, 2) := by decide +kernel
theorem dX12_busy_9 : decode cX12_busy 9 = .ok (.iload 4, 2) := by decide +kernel
theorem dX12_busy_11 : decode cX12_busy 11 = .ok (.i2l, 1) := by decide +kernel
theorem dX12_busy_12 : decode cX12_busy 12 = .ok (.aload_n 0, 1) := by decide +kernel
theorem dX12_busy_13 : decode cX12_busy 13 = .ok (.lload_n 2, 1) := by decide +kernel
theorem dX12_busy_14 : decode cX12_busy 14 = .ok (.iload_n 1, 1) := by decide +kernel
theorem dX12_busy_15 : decode cX12_busy 15 = .ok (.invokevirtual 347, 3) := by decide +kernel
theorem dX12_busy_18 : decode cX12_busy 18 = .ok (.ladd, 1) := by decide +kernel
theorem dX12_busy_19 : decode cX12_busy 19 = .ok (.lstore 5, 2) := by decide +kernel
theorem dX12_busy_21 : decode cX12_busy 21 = .ok (.iconst 0, 1) := by decide +kernel
theorem dX12_busy_22 : decode cX12_busy 22 = .ok (.istore 7, 2) := by decide +kernel
theorem dX12_busy_24 : decode cX12_busy 24 = .ok (.iload 7, 2) := by decide +kernel
theorem dX12_busy_26 : decode cX12_busy 26 = .ok (.aload_n 0, 1) := by decide +kernel
theorem dX12_busy_27 : decode cX12_busy 27 = .ok (.getfield 133, 3) := by decide +kernel
theorem dX12_busy_30 : decode cX12_busy 30 = .ok (.if_icmp .ge 68, 3) := by decide +kernel
theorem dX12_busy_33 : decode cX12_busy 33 = .ok (.iload 7, 2) := by decide +kernel
theorem dX12_busy_35 : decode cX12_busy 35 = .ok (.iload_n 1, 1) := by decide +kernel
theorem dX12_busy_36 : decode cX12_busy 36 = .ok (.if_icmp .eq 13, 3) := by decide +kernel
theorem dX12_busy_39 : decode cX12_busy 39 = .ok (.aload_n 0, 1) := by decide +kernel
theorem dX12_busy_40 : decode cX12_busy 40 = .ok (.getfield 109, 3) := by decide +kernel
theorem dX12_busy_43 : decode cX12_busy 43 = .ok (.iload 7, 2) := by decide +kernel
theorem dX12_busy_45 : decode cX12_busy 45 = .ok (.baload, 1) := by decide +kernel
theorem dX12_busy_46 : decode cX12_busy 46 = .ok (.ifCond .eq 46, 3) := by decide +kernel
theorem dX12_busy_49 : decode cX12_busy 49 = .ok (.lload 5, 2) := by decide +kernel
theorem dX12_busy_51 : decode cX12_busy 51 = .ok (.lload_n 2, 1) := by decide +kernel
theorem dX12_busy_52 : decode cX12_busy 52 = .ok (.aload_n 0, 1) := by decide +kernel
theorem dX12_busy_53 : decode cX12_busy 53 = .ok (.getfield 40, 3) := by decide +kernel
theorem dX12_busy_56 : decode cX12_busy 56 = .ok (.iload 7, 2) := by decide +kernel
theorem dX12_busy_58 : decode cX12_busy 58 = .ok (.iaload, 1) := by decide +kernel
theorem dX12_busy_59 : decode cX12_busy 59 = .ok (.i2l, 1) := by decide +kernel
theorem dX12_busy_60 : decode cX12_busy 60 = .ok (.ladd, 1) := by decide +kernel
theorem dX12_busy_61 : decode cX12_busy 61 = .ok (.aload_n 0, 1) := by decide +kernel
theorem dX12_busy_62 : decode cX12_busy 62 = .ok (.getfield 34, 3) := by decide +kernel
theorem dX12_busy_65 : decode cX12_busy 65 = .ok (.iload 7, 2) := by decide +kernel
theorem dX12_busy_67 : decode cX12_busy 67 = .ok (.iaload, 1) := by decide +kernel
theorem dX12_busy_68 : decode cX12_busy 68 = .ok (.i2l, 1) := by decide +kernel
theorem dX12_busy_69 : decode cX12_busy 69 = .ok (.ladd, 1) := by decide +kernel
theorem dX12_busy_70 : decode cX12_busy 70 = .ok (.lconst 1, 1) := by decide +kernel
theorem dX12_busy_71 : decode cX12_busy 71 = .ok (.lsub, 1) := by decide +kernel
theorem dX12_busy_72 : decode cX12_busy 72 = .ok (.aload_n 0, 1) := by decide +kernel
theorem dX12_busy_73 : decode cX12_busy 73 = .ok (.getfield 34, 3) := by decide +kernel
theorem dX12_busy_76 : decode cX12_busy 76 = .ok (.iload 7, 2) := by decide +kernel
theorem dX12_busy_78 : decode cX12_busy 78 = .ok (.iaload, 1) := by decide +kernel
theorem dX12_busy_79 : decode cX12_busy 79 = .ok (.i2l, 1) := by decide +kernel
theorem dX12_busy_80 : decode cX12_busy 80 = .ok (.ldiv, 1) := by decide +kernel
theorem dX12_busy_81 : decode cX12_busy 81 = .ok (.aload_n 0, 1) := by decide +kernel
theorem dX12_busy_82 : decode cX12_busy 82 = .ok (.iload 7, 2) := by decide +kernel
theorem dX12_busy_84 : decode cX12_busy 84 = .ok (.invokevirtual 339, 3) := by decide +kernel
theorem dX12_busy_87 : decode cX12_busy 87 = .ok (.i2l, 1) := by decide +kernel
theorem dX12_busy_88 : decode cX12_busy 88 = .ok (.lmul, 1) := by decide +kernel
theorem dX12_busy_89 : decode cX12_busy 89 = .ok (.ladd, 1) := by decide +kernel
theorem dX12_busy_90 : decode cX12_busy 90 = .ok (.lstore 5, 2) := by decide +kernel
theorem dX12_busy_92 : decode cX12_busy 92 = .ok (.iinc 7 1, 3) := by decide +kernel
theorem dX12_busy_95 : decode cX12_busy 95 = .ok (.goto (-71), 3) := by decide +kernel
theorem dX12_busy_98 : decode cX12_busy 98 = .ok (.lload 5, 2) := by decide +kernel
theorem dX12_busy_100 : decode cX12_busy 100 = .ok (.lload_n 2, 1) := by decide +kernel
theorem dX12_busy_101 : decode cX12_busy 101 = .ok (.lcmp, 1) := by decide +kernel
theorem dX12_busy_102 : decode cX12_busy 102 = .ok (.ifCond .ne 6, 3) := by decide +kernel
theorem dX12_busy_105 : decode cX12_busy 105 = .ok (.lload_n 2, 1) := by decide +kernel
theorem dX12_busy_106 : decode cX12_busy 106 = .ok (.l2i, 1) := by decide +kernel
theorem dX12_busy_107 : decode cX12_busy 107 = .ok (.ireturn, 1) := by decide +kernel
theorem dX12_busy_108 : decode cX12_busy 108 = .ok (.lload 5, 2) := by decide +kernel
theorem dX12_busy_110 : decode cX12_busy 110 = .ok (.ldc2_w 351, 3) := by decide +kernel
theorem dX12_busy_113 : decode cX12_busy 113 = .ok (.lcmp, 1) := by decide +kernel
theorem dX12_busy_114 : decode cX12_busy 114 = .ok (.ifCond .le 5, 3) := by decide +kernel
theorem dX12_busy_117 : decode cX12_busy 117 = .ok (.iconst (-1), 1) := by decide +kernel
theorem dX12_busy_118 : decode cX12_busy 118 = .ok (.ireturn, 1) := by decide +kernel
theorem dX12_busy_119 : decode cX12_busy 119 = .ok (.lload 5, 2) := by decide +kernel
theorem dX12_busy_121 : decode cX12_busy 121 = .ok (.lstore_n 2, 1) := by decide +kernel
theorem dX12_busy_122 : decode cX12_busy 122 = .ok (.goto (-113), 3) := by decide +kernel
theorem dX12_waitOf_0 : decode cX12_waitOf 0 = .ok (.lconst 0, 1) := by decide +kernel
theorem dX12_waitOf_1 : decode cX12_waitOf 1 = .ok (.lstore_n 3, 1) := by decide +kernel
theorem dX12_waitOf_2 : decode cX12_waitOf 2 = .ok (.aload_n 0, 1) := by decide +kernel
theorem dX12_waitOf_3 : decode cX12_waitOf 3 = .ok (.iload_n 1, 1) := by decide +kernel
theorem dX12_waitOf_4 : decode cX12_waitOf 4 = .ok (.invokevirtual 344, 3) := by decide +kernel
theorem dX12_waitOf_7 : decode cX12_waitOf 7 = .ok (.istore 5, 2) := by decide +kernel
theorem dX12_waitOf_9 : decode cX12_waitOf 9 = .ok (.iload 5, 2) := by decide +kernel
theorem dX12_waitOf_11 : decode cX12_waitOf 11 = .ok (.i2l, 1) := by decide +kernel
theorem dX12_waitOf_12 : decode cX12_waitOf 12 = .ok (.aload_n 0, 1) := by decide +kernel
theorem dX12_waitOf_13 : decode cX12_waitOf 13 = .ok (.lload_n 3, 1) := by decide +kernel
theorem dX12_waitOf_14 : decode cX12_waitOf 14 = .ok (.iload_n 1, 1) := by decide +kernel
theorem dX12_waitOf_15 : decode cX12_waitOf 15 = .ok (.invokevirtual 347, 3) := by decide +kernel
theorem dX12_waitOf_18 : decode cX12_waitOf 18 = .ok (.ladd, 1) := by decide +kernel
theorem dX12_waitOf_19 : decode cX12_waitOf 19 = .ok (.iload_n 2, 1) := by decide +kernel
theorem dX12_waitOf_20 : decode cX12_waitOf 20 = .ok (.i2l, 1) := by decide +kernel
theorem dX12_waitOf_21 : decode cX12_waitOf 21 = .ok (.aload_n 0, 1) := by decide +kernel
theorem dX12_waitOf_22 : decode cX12_waitOf 22 = .ok (.iload_n 1, 1) := by decide +kernel
theorem dX12_waitOf_23 : decode cX12_waitOf 23 = .ok (.invokevirtual 339, 3) := by decide +kernel
theorem dX12_waitOf_26 : decode cX12_waitOf 26 = .ok (.i2l, 1) := by decide +kernel
theorem dX12_waitOf_27 : decode cX12_waitOf 27 = .ok (.lmul, 1) := by decide +kernel
theorem dX12_waitOf_28 : decode cX12_waitOf 28 = .ok (.ladd, 1) := by decide +kernel
theorem dX12_waitOf_29 : decode cX12_waitOf 29 = .ok (.lstore 6, 2) := by decide +kernel
theorem dX12_waitOf_31 : decode cX12_waitOf 31 = .ok (.iconst 0, 1) := by decide +kernel
theorem dX12_waitOf_32 : decode cX12_waitOf 32 = .ok (.istore 8, 2) := by decide +kernel
theorem dX12_waitOf_34 : decode cX12_waitOf 34 = .ok (.iload 8, 2) := by decide +kernel
theorem dX12_waitOf_36 : decode cX12_waitOf 36 = .ok (.aload_n 0, 1) := by decide +kernel
theorem dX12_waitOf_37 : decode cX12_waitOf 37 = .ok (.getfield 133, 3) := by decide +kernel
theorem dX12_waitOf_40 : decode cX12_waitOf 40 = .ok (.if_icmp .ge 60, 3) := by decide +kernel
theorem dX12_waitOf_43 : decode cX12_waitOf 43 = .ok (.aload_n 0, 1) := by decide +kernel
theorem dX12_waitOf_44 : decode cX12_waitOf 44 = .ok (.getfield 109, 3) := by decide +kernel
theorem dX12_waitOf_47 : decode cX12_waitOf 47 = .ok (.iload 8, 2) := by decide +kernel
theorem dX12_waitOf_49 : decode cX12_waitOf 49 = .ok (.baload, 1) := by decide +kernel
theorem dX12_waitOf_50 : decode cX12_waitOf 50 = .ok (.ifCond .eq 44, 3) := by decide +kernel
theorem dX12_waitOf_53 : decode cX12_waitOf 53 = .ok (.lload 6, 2) := by decide +kernel
theorem dX12_waitOf_55 : decode cX12_waitOf 55 = .ok (.lload_n 3, 1) := by decide +kernel
theorem dX12_waitOf_56 : decode cX12_waitOf 56 = .ok (.aload_n 0, 1) := by decide +kernel
theorem dX12_waitOf_57 : decode cX12_waitOf 57 = .ok (.getfield 40, 3) := by decide +kernel
theorem dX12_waitOf_60 : decode cX12_waitOf 60 = .ok (.iload 8, 2) := by decide +kernel
theorem dX12_waitOf_62 : decode cX12_waitOf 62 = .ok (.iaload, 1) := by decide +kernel
theorem dX12_waitOf_63 : decode cX12_waitOf 63 = .ok (.i2l, 1) := by decide +kernel
theorem dX12_waitOf_64 : decode cX12_waitOf 64 = .ok (.ladd, 1) := by decide +kernel
theorem dX12_waitOf_65 : decode cX12_waitOf 65 = .ok (.aload_n 0, 1) := by decide +kernel
theorem dX12_waitOf_66 : decode cX12_waitOf 66 = .ok (.getfield 34, 3) := by decide +kernel
theorem dX12_waitOf_69 : decode cX12_waitOf 69 = .ok (.iload 8, 2) := by decide +kernel
theorem dX12_waitOf_71 : decode cX12_waitOf 71 = .ok (.iaload, 1) := by decide +kernel
theorem dX12_waitOf_72 : decode cX12_waitOf 72 = .ok (.i2l, 1) := by decide +kernel
theorem dX12_waitOf_73 : decode cX12_waitOf 73 = .ok (.ladd, 1) := by decide +kernel
theorem dX12_waitOf_74 : decode cX12_waitOf 74 = .ok (.aload_n 0, 1) := by decide +kernel
theorem dX12_waitOf_75 : decode cX12_waitOf 75 = .ok (.getfield 34, 3) := by decide +kernel
theorem dX12_waitOf_78 : decode cX12_waitOf 78 = .ok (.iload 8, 2) := by decide +kernel
theorem dX12_waitOf_80 : decode cX12_waitOf 80 = .ok (.iaload, 1) := by decide +kernel
theorem dX12_waitOf_81 : decode cX12_waitOf 81 = .ok (.i2l, 1) := by decide +kernel
theorem dX12_waitOf_82 : decode cX12_waitOf 82 = .ok (.ldiv, 1) := by decide +kernel
theorem dX12_waitOf_83 : decode cX12_waitOf 83 = .ok (.aload_n 0, 1) := by decide +kernel
theorem dX12_waitOf_84 : decode cX12_waitOf 84 = .ok (.iload 8, 2) := by decide +kernel
theorem dX12_waitOf_86 : decode cX12_waitOf 86 = .ok (.invokevirtual 339, 3) := by decide +kernel
theorem dX12_waitOf_89 : decode cX12_waitOf 89 = .ok (.i2l, 1) := by decide +kernel
theorem dX12_waitOf_90 : decode cX12_waitOf 90 = .ok (.lmul, 1) := by decide +kernel
theorem dX12_waitOf_91 : decode cX12_waitOf 91 = .ok (.ladd, 1) := by decide +kernel
theorem dX12_waitOf_92 : decode cX12_waitOf 92 = .ok (.lstore 6, 2) := by decide +kernel
theorem dX12_waitOf_94 : decode cX12_waitOf 94 = .ok (.iinc 8 1, 3) := by decide +kernel
theorem dX12_waitOf_97 : decode cX12_waitOf 97 = .ok (.goto (-63), 3) := by decide +kernel
theorem dX12_waitOf_100 : decode cX12_waitOf 100 = .ok (.lload 6, 2) := by decide +kernel
theorem dX12_waitOf_102 : decode cX12_waitOf 102 = .ok (.lload_n 3, 1) := by decide +kernel
theorem dX12_waitOf_103 : decode cX12_waitOf 103 = .ok (.lcmp, 1) := by decide +kernel
theorem dX12_waitOf_104 : decode cX12_waitOf 104 = .ok (.ifCond .ne 6, 3) := by decide +kernel
theorem dX12_waitOf_107 : decode cX12_waitOf 107 = .ok (.lload_n 3, 1) := by decide +kernel
theorem dX12_waitOf_108 : decode cX12_waitOf 108 = .ok (.l2i, 1) := by decide +kernel
theorem dX12_waitOf_109 : decode cX12_waitOf 109 = .ok (.ireturn, 1) := by decide +kernel
theorem dX12_waitOf_110 : decode cX12_waitOf 110 = .ok (.lload 6, 2) := by decide +kernel
theorem dX12_waitOf_112 : decode cX12_waitOf 112 = .ok (.ldc2_w 351, 3) := by decide +kernel
theorem dX12_waitOf_115 : decode cX12_waitOf 115 = .ok (.lcmp, 1) := by decide +kernel
theorem dX12_waitOf_116 : decode cX12_waitOf 116 = .ok (.ifCond .le 5, 3) := by decide +kernel
theorem dX12_waitOf_119 : decode cX12_waitOf 119 = .ok (.iconst (-1), 1) := by decide +kernel
theorem dX12_waitOf_120 : decode cX12_waitOf 120 = .ok (.ireturn, 1) := by decide +kernel
theorem dX12_waitOf_121 : decode cX12_waitOf 121 = .ok (.lload 6, 2) := by decide +kernel
theorem dX12_waitOf_123 : decode cX12_waitOf 123 = .ok (.lstore_n 3, 1) := by decide +kernel
theorem dX12_waitOf_124 : decode cX12_waitOf 124 = .ok (.goto (-115), 3) := by decide +kernel
theorem dX12_worstOf_0 : decode cX12_worstOf 0 = .ok (.aload_n 0, 1) := by decide +kernel
theorem dX12_worstOf_1 : decode cX12_worstOf 1 = .ok (.iload_n 1, 1) := by decide +kernel
theorem dX12_worstOf_2 : decode cX12_worstOf 2 = .ok (.invokevirtual 353, 3) := by decide +kernel
theorem dX12_worstOf_5 : decode cX12_worstOf 5 = .ok (.istore_n 2, 1) := by decide +kernel
theorem dX12_worstOf_6 : decode cX12_worstOf 6 = .ok (.iload_n 2, 1) := by decide +kernel
theorem dX12_worstOf_7 : decode cX12_worstOf 7 = .ok (.ifCond .ge 5, 3) := by decide +kernel
theorem dX12_worstOf_10 : decode cX12_worstOf 10 = .ok (.iconst (-1), 1) := by decide +kernel
theorem dX12_worstOf_11 : decode cX12_worstOf 11 = .ok (.ireturn, 1) := by decide +kernel
theorem dX12_worstOf_12 : decode cX12_worstOf 12 = .ok (.iconst 0, 1) := by decide +kernel
theorem dX12_worstOf_13 : decode cX12_worstOf 13 = .ok (.istore_n 3, 1) := by decide +kernel
theorem dX12_worstOf_14 : decode cX12_worstOf 14 = .ok (.iconst 0, 1) := by decide +kernel
theorem dX12_worstOf_15 : decode cX12_worstOf 15 = .ok (.istore 4, 2) := by decide +kernel
theorem dX12_worstOf_17 : decode cX12_worstOf 17 = .ok (.iload 4, 2) := by decide +kernel
theorem dX12_worstOf_19 : decode cX12_worstOf 19 = .ok (.i2l, 1) := by decide +kernel
theorem dX12_worstOf_20 : decode cX12_worstOf 20 = .ok (.aload_n 0, 1) := by decide +kernel
theorem dX12_worstOf_21 : decode cX12_worstOf 21 = .ok (.getfield 34, 3) := by decide +kernel
theorem dX12_worstOf_24 : decode cX12_worstOf 24 = .ok (.iload_n 1, 1) := by decide +kernel
theorem dX12_worstOf_25 : decode cX12_worstOf 25 = .ok (.iaload, 1) := by decide +kernel
theorem dX12_worstOf_26 : decode cX12_worstOf 26 = .ok (.i2l, 1) := by decide +kernel
theorem dX12_worstOf_27 : decode cX12_worstOf 27 = .ok (.lmul, 1) := by decide +kernel
theorem dX12_worstOf_28 : decode cX12_worstOf 28 = .ok (.iload_n 2, 1) := by decide +kernel
theorem dX12_worstOf_29 : decode cX12_worstOf 29 = .ok (.aload_n 0, 1) := by decide +kernel
theorem dX12_worstOf_30 : decode cX12_worstOf 30 = .ok (.getfield 40, 3) := by decide +kernel
theorem dX12_worstOf_33 : decode cX12_worstOf 33 = .ok (.iload_n 1, 1) := by decide +kernel
theorem dX12_worstOf_34 : decode cX12_worstOf 34 = .ok (.iaload, 1) := by decide +kernel
theorem dX12_worstOf_35 : decode cX12_worstOf 35 = .ok (.iadd, 1) := by decide +kernel
theorem dX12_worstOf_36 : decode cX12_worstOf 36 = .ok (.i2l, 1) := by decide +kernel
theorem dX12_worstOf_37 : decode cX12_worstOf 37 = .ok (.lcmp, 1) := by decide +kernel
theorem dX12_worstOf_38 : decode cX12_worstOf 38 = .ok (.ifCond .ge 66, 3) := by decide +kernel
theorem dX12_worstOf_41 : decode cX12_worstOf 41 = .ok (.aload_n 0, 1) := by decide +kernel
theorem dX12_worstOf_42 : decode cX12_worstOf 42 = .ok (.iload_n 1, 1) := by decide +kernel
theorem dX12_worstOf_43 : decode cX12_worstOf 43 = .ok (.iload 4, 2) := by decide +kernel
theorem dX12_worstOf_45 : decode cX12_worstOf 45 = .ok (.invokevirtual 356, 3) := by decide +kernel
theorem dX12_worstOf_48 : decode cX12_worstOf 48 = .ok (.istore 5, 2) := by decide +kernel
theorem dX12_worstOf_50 : decode cX12_worstOf 50 = .ok (.iload 5, 2) := by decide +kernel
theorem dX12_worstOf_52 : decode cX12_worstOf 52 = .ok (.ifCond .ge 5, 3) := by decide +kernel
theorem dX12_worstOf_55 : decode cX12_worstOf 55 = .ok (.iconst (-1), 1) := by decide +kernel
theorem dX12_worstOf_56 : decode cX12_worstOf 56 = .ok (.ireturn, 1) := by decide +kernel
theorem dX12_worstOf_57 : decode cX12_worstOf 57 = .ok (.aload_n 0, 1) := by decide +kernel
theorem dX12_worstOf_58 : decode cX12_worstOf 58 = .ok (.getfield 40, 3) := by decide +kernel
theorem dX12_worstOf_61 : decode cX12_worstOf 61 = .ok (.iload_n 1, 1) := by decide +kernel
theorem dX12_worstOf_62 : decode cX12_worstOf 62 = .ok (.iaload, 1) := by decide +kernel
theorem dX12_worstOf_63 : decode cX12_worstOf 63 = .ok (.iload 5, 2) := by decide +kernel
theorem dX12_worstOf_65 : decode cX12_worstOf 65 = .ok (.iadd, 1) := by decide +kernel
theorem dX12_worstOf_66 : decode cX12_worstOf 66 = .ok (.iload 4, 2) := by decide +kernel
theorem dX12_worstOf_68 : decode cX12_worstOf 68 = .ok (.aload_n 0, 1) := by decide +kernel
theorem dX12_worstOf_69 : decode cX12_worstOf 69 = .ok (.getfield 34, 3) := by decide +kernel
theorem dX12_worstOf_72 : decode cX12_worstOf 72 = .ok (.iload_n 1, 1) := by decide +kernel
theorem dX12_worstOf_73 : decode cX12_worstOf 73 = .ok (.iaload, 1) := by decide +kernel
theorem dX12_worstOf_74 : decode cX12_worstOf 74 = .ok (.imul, 1) := by decide +kernel
theorem dX12_worstOf_75 : decode cX12_worstOf 75 = .ok (.isub, 1) := by decide +kernel
theorem dX12_worstOf_76 : decode cX12_worstOf 76 = .ok (.aload_n 0, 1) := by decide +kernel
theorem dX12_worstOf_77 : decode cX12_worstOf 77 = .ok (.iload_n 1, 1) := by decide +kernel
theorem dX12_worstOf_78 : decode cX12_worstOf 78 = .ok (.invokevirtual 339, 3) := by decide +kernel
theorem dX12_worstOf_81 : decode cX12_worstOf 81 = .ok (.iadd, 1) := by decide +kernel
theorem dX12_worstOf_82 : decode cX12_worstOf 82 = .ok (.istore 6, 2) := by decide +kernel
theorem dX12_worstOf_84 : decode cX12_worstOf 84 = .ok (.iload 4, 2) := by decide +kernel
theorem dX12_worstOf_86 : decode cX12_worstOf 86 = .ok (.ifCond .eq 9, 3) := by decide +kernel
theorem dX12_worstOf_89 : decode cX12_worstOf 89 = .ok (.iload 6, 2) := by decide +kernel
theorem dX12_worstOf_91 : decode cX12_worstOf 91 = .ok (.iload_n 3, 1) := by decide +kernel
theorem dX12_worstOf_92 : decode cX12_worstOf 92 = .ok (.if_icmp .le 6, 3) := by decide +kernel
theorem dX12_worstOf_95 : decode cX12_worstOf 95 = .ok (.iload 6, 2) := by decide +kernel
theorem dX12_worstOf_97 : decode cX12_worstOf 97 = .ok (.istore_n 3, 1) := by decide +kernel
theorem dX12_worstOf_98 : decode cX12_worstOf 98 = .ok (.iinc 4 1, 3) := by decide +kernel
theorem dX12_worstOf_101 : decode cX12_worstOf 101 = .ok (.goto (-84), 3) := by decide +kernel
theorem dX12_worstOf_104 : decode cX12_worstOf 104 = .ok (.iload_n 3, 1) := by decide +kernel
theorem dX12_worstOf_105 : decode cX12_worstOf 105 = .ok (.ireturn, 1) := by decide +kernel
theorem dX12_looksAt_0 : decode cX12_looksAt 0 = .ok (.iconst 0, 1) := by decide +kernel
theorem dX12_looksAt_1 : decode cX12_looksAt 1 = .ok (.istore_n 2, 1) := by decide +kernel
theorem dX12_looksAt_2 : decode cX12_looksAt 2 = .ok (.iload_n 2, 1) := by decide +kernel
theorem dX12_looksAt_3 : decode cX12_looksAt 3 = .ok (.aload_n 0, 1) := by decide +kernel
theorem dX12_looksAt_4 : decode cX12_looksAt 4 = .ok (.getfield 133, 3) := by decide +kernel
theorem dX12_looksAt_7 : decode cX12_looksAt 7 = .ok (.if_icmp .ge 34, 3) := by decide +kernel
theorem dX12_looksAt_10 : decode cX12_looksAt 10 = .ok (.aload_n 0, 1) := by decide +kernel
theorem dX12_looksAt_11 : decode cX12_looksAt 11 = .ok (.getfield 109, 3) := by decide +kernel
theorem dX12_looksAt_14 : decode cX12_looksAt 14 = .ok (.iload_n 2, 1) := by decide +kernel
theorem dX12_looksAt_15 : decode cX12_looksAt 15 = .ok (.iload_n 2, 1) := by decide +kernel
theorem dX12_looksAt_16 : decode cX12_looksAt 16 = .ok (.iload_n 1, 1) := by decide +kernel
theorem dX12_looksAt_17 : decode cX12_looksAt 17 = .ok (.if_icmp .eq 16, 3) := by decide +kernel
theorem dX12_looksAt_20 : decode cX12_looksAt 20 = .ok (.aload_n 0, 1) := by decide +kernel
theorem dX12_looksAt_21 : decode cX12_looksAt 21 = .ok (.iload_n 2, 1) := by decide +kernel
theorem dX12_looksAt_22 : decode cX12_looksAt 22 = .ok (.iload_n 1, 1) := by decide +kernel
theorem dX12_looksAt_23 : decode cX12_looksAt 23 = .ok (.invokevirtual 215, 3) := by decide +kernel
theorem dX12_looksAt_26 : decode cX12_looksAt 26 = .ok (.ifCond .eq 7, 3) := by decide +kernel
theorem dX12_looksAt_29 : decode cX12_looksAt 29 = .ok (.iconst 1, 1) := by decide +kernel
theorem dX12_looksAt_30 : decode cX12_looksAt 30 = .ok (.goto 4, 3) := by decide +kernel
theorem dX12_looksAt_33 : decode cX12_looksAt 33 = .ok (.iconst 0, 1) := by decide +kernel
theorem dX12_looksAt_34 : decode cX12_looksAt 34 = .ok (.bastore, 1) := by decide +kernel
theorem dX12_looksAt_35 : decode cX12_looksAt 35 = .ok (.iinc 2 1, 3) := by decide +kernel
theorem dX12_looksAt_38 : decode cX12_looksAt 38 = .ok (.goto (-36), 3) := by decide +kernel
theorem dX12_looksAt_41 : decode cX12_looksAt 41 = .ok (.return_, 1) := by decide +kernel
theorem dX12_fits_0 : decode cX12_fits 0 = .ok (.aload_n 0, 1) := by decide +kernel
theorem dX12_fits_1 : decode cX12_fits 1 = .ok (.iload_n 1, 1) := by decide +kernel
theorem dX12_fits_2 : decode cX12_fits 2 = .ok (.invokevirtual 359, 3) := by decide +kernel
theorem dX12_fits_5 : decode cX12_fits 5 = .ok (.istore_n 2, 1) := by decide +kernel
theorem dX12_fits_6 : decode cX12_fits 6 = .ok (.iload_n 2, 1) := by decide +kernel
theorem dX12_fits_7 : decode cX12_fits 7 = .ok (.ifCond .lt 17, 3) := by decide +kernel
theorem dX12_fits_10 : decode cX12_fits 10 = .ok (.iload_n 2, 1) := by decide +kernel
theorem dX12_fits_11 : decode cX12_fits 11 = .ok (.aload_n 0, 1) := by decide +kernel
theorem dX12_fits_12 : decode cX12_fits 12 = .ok (.getfield 43, 3) := by decide +kernel
theorem dX12_fits_15 : decode cX12_fits 15 = .ok (.iload_n 1, 1) := by decide +kernel
theorem dX12_fits_16 : decode cX12_fits 16 = .ok (.iaload, 1) := by decide +kernel
theorem dX12_fits_17 : decode cX12_fits 17 = .ok (.if_icmp .gt 7, 3) := by decide +kernel
theorem dX12_fits_20 : decode cX12_fits 20 = .ok (.iconst 1, 1) := by decide +kernel
theorem dX12_fits_21 : decode cX12_fits 21 = .ok (.goto 4, 3) := by decide +kernel
theorem dX12_fits_24 : decode cX12_fits 24 = .ok (.iconst 0, 1) := by decide +kernel
theorem dX12_fits_25 : decode cX12_fits 25 = .ok (.ireturn, 1) := by decide +kernel
theorem dX12_worst_0 : decode cX12_worst 0 = .ok (.aload_n 0, 1) := by decide +kernel
theorem dX12_worst_1 : decode cX12_worst 1 = .ok (.iload_n 1, 1) := by decide +kernel
theorem dX12_worst_2 : decode cX12_worst 2 = .ok (.invokevirtual 154, 3) := by decide +kernel
theorem dX12_worst_5 : decode cX12_worst 5 = .ok (.ifCond .ne 10, 3) := by decide +kernel
theorem dX12_worst_8 : decode cX12_worst 8 = .ok (.aload_n 0, 1) := by decide +kernel
theorem dX12_worst_9 : decode cX12_worst 9 = .ok (.bipush (-3), 2) := by decide +kernel
theorem dX12_worst_11 : decode cX12_worst 11 = .ok (.invokevirtual 142, 3) := by decide +kernel
theorem dX12_worst_14 : decode cX12_worst 14 = .ok (.ireturn, 1) := by decide +kernel
theorem dX12_worst_15 : decode cX12_worst 15 = .ok (.aload_n 0, 1) := by decide +kernel
theorem dX12_worst_16 : decode cX12_worst 16 = .ok (.iload_n 1, 1) := by decide +kernel
theorem dX12_worst_17 : decode cX12_worst 17 = .ok (.invokevirtual 362, 3) := by decide +kernel
theorem dX12_worst_20 : decode cX12_worst 20 = .ok (.aload_n 0, 1) := by decide +kernel
theorem dX12_worst_21 : decode cX12_worst 21 = .ok (.iload_n 1, 1) := by decide +kernel
theorem dX12_worst_22 : decode cX12_worst 22 = .ok (.invokevirtual 359, 3) := by decide +kernel
theorem dX12_worst_25 : decode cX12_worst 25 = .ok (.ireturn, 1) := by decide +kernel
theorem dX12_misses_0 : decode cX12_misses 0 = .ok (.iconst 0, 1) := by decide +kernel
theorem dX12_misses_1 : decode cX12_misses 1 = .ok (.istore_n 1, 1) := by decide +kernel
theorem dX12_misses_2 : decode cX12_misses 2 = .ok (.iconst 0, 1) := by decide +kernel
theorem dX12_misses_3 : decode cX12_misses 3 = .ok (.istore_n 2, 1) := by decide +kernel
theorem dX12_misses_4 : decode cX12_misses 4 = .ok (.iload_n 2, 1) := by decide +kernel
theorem dX12_misses_5 : decode cX12_misses 5 = .ok (.aload_n 0, 1) := by decide +kernel
theorem dX12_misses_6 : decode cX12_misses 6 = .ok (.getfield 133, 3) := by decide +kernel
theorem dX12_misses_9 : decode cX12_misses 9 = .ok (.if_icmp .ge 30, 3) := by decide +kernel
theorem dX12_misses_12 : decode cX12_misses 12 = .ok (.aload_n 0, 1) := by decide +kernel
theorem dX12_misses_13 : decode cX12_misses 13 = .ok (.iload_n 2, 1) := by decide +kernel
theorem dX12_misses_14 : decode cX12_misses 14 = .ok (.invokevirtual 362, 3) := by decide +kernel
theorem dX12_misses_17 : decode cX12_misses 17 = .ok (.iload_n 1, 1) := by decide +kernel
theorem dX12_misses_18 : decode cX12_misses 18 = .ok (.aload_n 0, 1) := by decide +kernel
theorem dX12_misses_19 : decode cX12_misses 19 = .ok (.iload_n 2, 1) := by decide +kernel
theorem dX12_misses_20 : decode cX12_misses 20 = .ok (.invokevirtual 365, 3) := by decide +kernel
theorem dX12_misses_23 : decode cX12_misses 23 = .ok (.ifCond .eq 7, 3) := by decide +kernel
theorem dX12_misses_26 : decode cX12_misses 26 = .ok (.iconst 0, 1) := by decide +kernel
theorem dX12_misses_27 : decode cX12_misses 27 = .ok (.goto 4, 3) := by decide +kernel
theorem dX12_misses_30 : decode cX12_misses 30 = .ok (.iconst 1, 1) := by decide +kernel
theorem dX12_misses_31 : decode cX12_misses 31 = .ok (.iadd, 1) := by decide +kernel
theorem dX12_misses_32 : decode cX12_misses 32 = .ok (.istore_n 1, 1) := by decide +kernel
theorem dX12_misses_33 : decode cX12_misses 33 = .ok (.iinc 2 1, 3) := by decide +kernel
theorem dX12_misses_36 : decode cX12_misses 36 = .ok (.goto (-32), 3) := by decide +kernel
theorem dX12_misses_39 : decode cX12_misses 39 = .ok (.iload_n 1, 1) := by decide +kernel
theorem dX12_misses_40 : decode cX12_misses 40 = .ok (.ireturn, 1) := by decide +kernel
theorem dX12_load_0 : decode cX12_load 0 = .ok (.lconst 0, 1) := by decide +kernel
theorem dX12_load_1 : decode cX12_load 1 = .ok (.lstore_n 1, 1) := by decide +kernel
theorem dX12_load_2 : decode cX12_load 2 = .ok (.iconst 0, 1) := by decide +kernel
theorem dX12_load_3 : decode cX12_load 3 = .ok (.istore_n 3, 1) := by decide +kernel
theorem dX12_load_4 : decode cX12_load 4 = .ok (.iload_n 3, 1) := by decide +kernel
theorem dX12_load_5 : decode cX12_load 5 = .ok (.aload_n 0, 1) := by decide +kernel
theorem dX12_load_6 : decode cX12_load 6 = .ok (.getfield 133, 3) := by decide +kernel
theorem dX12_load_9 : decode cX12_load 9 = .ok (.if_icmp .ge 30, 3) := by decide +kernel
theorem dX12_load_12 : decode cX12_load 12 = .ok (.lload_n 1, 1) := by decide +kernel
theorem dX12_load_13 : decode cX12_load 13 = .ok (.ldc2_w 176, 3) := by decide +kernel
theorem dX12_load_16 : decode cX12_load 16 = .ok (.aload_n 0, 1) := by decide +kernel
theorem dX12_load_17 : decode cX12_load 17 = .ok (.iload_n 3, 1) := by decide +kernel
theorem dX12_load_18 : decode cX12_load 18 = .ok (.invokevirtual 339, 3) := by decide +kernel
theorem dX12_load_21 : decode cX12_load 21 = .ok (.i2l, 1) := by decide +kernel
theorem dX12_load_22 : decode cX12_load 22 = .ok (.lmul, 1) := by decide +kernel
theorem dX12_load_23 : decode cX12_load 23 = .ok (.aload_n 0, 1) := by decide +kernel
theorem dX12_load_24 : decode cX12_load 24 = .ok (.getfield 34, 3) := by decide +kernel
theorem dX12_load_27 : decode cX12_load 27 = .ok (.iload_n 3, 1) := by decide +kernel
theorem dX12_load_28 : decode cX12_load 28 = .ok (.iaload, 1) := by decide +kernel
theorem dX12_load_29 : decode cX12_load 29 = .ok (.i2l, 1) := by decide +kernel
theorem dX12_load_30 : decode cX12_load 30 = .ok (.ldiv, 1) := by decide +kernel
theorem dX12_load_31 : decode cX12_load 31 = .ok (.ladd, 1) := by decide +kernel
theorem dX12_load_32 : decode cX12_load 32 = .ok (.lstore_n 1, 1) := by decide +kernel
theorem dX12_load_33 : decode cX12_load 33 = .ok (.iinc 3 1, 3) := by decide +kernel
theorem dX12_load_36 : decode cX12_load 36 = .ok (.goto (-32), 3) := by decide +kernel
theorem dX12_load_39 : decode cX12_load 39 = .ok (.lload_n 1, 1) := by decide +kernel
theorem dX12_load_40 : decode cX12_load 40 = .ok (.lreturn, 1) := by decide +kernel
theorem dX12_order_0 : decode cX12_order 0 = .ok (.aload_n 0, 1) := by decide +kernel
theorem dX12_order_1 : decode cX12_order 1 = .ok (.iconst 0, 1) := by decide +kernel
theorem dX12_order_2 : decode cX12_order 2 = .ok (.putfield 170, 3) := by decide +kernel
theorem dX12_order_5 : decode cX12_order 5 = .ok (.iconst 0, 1) := by decide +kernel
theorem dX12_order_6 : decode cX12_order 6 = .ok (.istore_n 1, 1) := by decide +kernel
theorem dX12_order_7 : decode cX12_order 7 = .ok (.iload_n 1, 1) := by decide +kernel
theorem dX12_order_8 : decode cX12_order 8 = .ok (.aload_n 0, 1) := by decide +kernel
theorem dX12_order_9 : decode cX12_order 9 = .ok (.getfield 133, 3) := by decide +kernel
theorem dX12_order_12 : decode cX12_order 12 = .ok (.if_icmp .ge 16, 3) := by decide +kernel
theorem dX12_order_15 : decode cX12_order 15 = .ok (.aload_n 0, 1) := by decide +kernel
theorem dX12_order_16 : decode cX12_order 16 = .ok (.getfield 115, 3) := by decide +kernel
theorem dX12_order_19 : decode cX12_order 19 = .ok (.iload_n 1, 1) := by decide +kernel
theorem dX12_order_20 : decode cX12_order 20 = .ok (.iconst 0, 1) := by decide +kernel
theorem dX12_order_21 : decode cX12_order 21 = .ok (.bastore, 1) := by decide +kernel
theorem dX12_order_22 : decode cX12_order 22 = .ok (.iinc 1 1, 3) := by decide +kernel
theorem dX12_order_25 : decode cX12_order 25 = .ok (.goto (-18), 3) := by decide +kernel
theorem dX12_order_28 : decode cX12_order 28 = .ok (.aload_n 0, 1) := by decide +kernel
theorem dX12_order_29 : decode cX12_order 29 = .ok (.getfield 133, 3) := by decide +kernel
theorem dX12_order_32 : decode cX12_order 32 = .ok (.iconst 1, 1) := by decide +kernel
theorem dX12_order_33 : decode cX12_order 33 = .ok (.isub, 1) := by decide +kernel
theorem dX12_order_34 : decode cX12_order 34 = .ok (.istore_n 1, 1) := by decide +kernel
theorem dX12_order_35 : decode cX12_order 35 = .ok (.iload_n 1, 1) := by decide +kernel
theorem dX12_order_36 : decode cX12_order 36 = .ok (.ifCond .lt 119, 3) := by decide +kernel
theorem dX12_order_39 : decode cX12_order 39 = .ok (.iconst (-1), 1) := by decide +kernel
theorem dX12_order_40 : decode cX12_order 40 = .ok (.istore_n 2, 1) := by decide +kernel
theorem dX12_order_41 : decode cX12_order 41 = .ok (.iconst 0, 1) := by decide +kernel
theorem dX12_order_42 : decode cX12_order 42 = .ok (.istore_n 3, 1) := by decide +kernel
theorem dX12_order_43 : decode cX12_order 43 = .ok (.iload_n 3, 1) := by decide +kernel
theorem dX12_order_44 : decode cX12_order 44 = .ok (.aload_n 0, 1) := by decide +kernel
theorem dX12_order_45 : decode cX12_order 45 = .ok (.getfield 133, 3) := by decide +kernel
theorem dX12_order_48 : decode cX12_order 48 = .ok (.if_icmp .ge 81, 3) := by decide +kernel
theorem dX12_order_51 : decode cX12_order 51 = .ok (.iload_n 2, 1) := by decide +kernel
theorem dX12_order_52 : decode cX12_order 52 = .ok (.ifCond .ge 77, 3) := by decide +kernel
theorem dX12_order_55 : decode cX12_order 55 = .ok (.aload_n 0, 1) := by decide +kernel
theorem dX12_order_56 : decode cX12_order 56 = .ok (.getfield 115, 3) := by decide +kernel
theorem dX12_order_59 : decode cX12_order 59 = .ok (.iload_n 3, 1) := by decide +kernel
theorem dX12_order_60 : decode cX12_order 60 = .ok (.baload, 1) := by decide +kernel
theorem dX12_order_61 : decode cX12_order 61 = .ok (.ifCond .eq 6, 3) := by decide +kernel
theorem dX12_order_64 : decode cX12_order 64 = .ok (.goto 59, 3) := by decide +kernel
theorem dX12_order_67 : decode cX12_order 67 = .ok (.iconst 0, 1) := by decide +kernel
theorem dX12_order_68 : decode cX12_order 68 = .ok (.istore 4, 2) := by decide +kernel
theorem dX12_order_70 : decode cX12_order 70 = .ok (.iload 4, 2) := by decide +kernel
theorem dX12_order_72 : decode cX12_order 72 = .ok (.aload_n 0, 1) := by decide +kernel
theorem dX12_order_73 : decode cX12_order 73 = .ok (.getfield 133, 3) := by decide +kernel
theorem dX12_order_76 : decode cX12_order 76 = .ok (.if_icmp .ge 37, 3) := by decide +kernel
theorem dX12_order_79 : decode cX12_order 79 = .ok (.aload_n 0, 1) := by decide +kernel
theorem dX12_order_80 : decode cX12_order 80 = .ok (.getfield 109, 3) := by decide +kernel
theorem dX12_order_83 : decode cX12_order 83 = .ok (.iload 4, 2) := by decide +kernel
theorem dX12_order_85 : decode cX12_order 85 = .ok (.iload 4, 2) := by decide +kernel
theorem dX12_order_87 : decode cX12_order 87 = .ok (.iload_n 3, 1) := by decide +kernel
theorem dX12_order_88 : decode cX12_order 88 = .ok (.if_icmp .eq 17, 3) := by decide +kernel
theorem dX12_order_91 : decode cX12_order 91 = .ok (.aload_n 0, 1) := by decide +kernel
theorem dX12_order_92 : decode cX12_order 92 = .ok (.getfield 115, 3) := by decide +kernel
theorem dX12_order_95 : decode cX12_order 95 = .ok (.iload 4, 2) := by decide +kernel
theorem dX12_order_97 : decode cX12_order 97 = .ok (.baload, 1) := by decide +kernel
theorem dX12_order_98 : decode cX12_order 98 = .ok (.ifCond .ne 7, 3) := by decide +kernel
theorem dX12_order_101 : decode cX12_order 101 = .ok (.iconst 1, 1) := by decide +kernel
theorem dX12_order_102 : decode cX12_order 102 = .ok (.goto 4, 3) := by decide +kernel
theorem dX12_order_105 : decode cX12_order 105 = .ok (.iconst 0, 1) := by decide +kernel
theorem dX12_order_106 : decode cX12_order 106 = .ok (.bastore, 1) := by decide +kernel
theorem dX12_order_107 : decode cX12_order 107 = .ok (.iinc 4 1, 3) := by decide +kernel
theorem dX12_order_110 : decode cX12_order 110 = .ok (.goto (-40), 3) := by decide +kernel
theorem dX12_order_113 : decode cX12_order 113 = .ok (.aload_n 0, 1) := by decide +kernel
theorem dX12_order_114 : decode cX12_order 114 = .ok (.iload_n 3, 1) := by decide +kernel
theorem dX12_order_115 : decode cX12_order 115 = .ok (.invokevirtual 365, 3) := by decide +kernel
theorem dX12_order_118 : decode cX12_order 118 = .ok (.ifCond .eq 5, 3) := by decide +kernel
theorem dX12_order_121 : decode cX12_order 121 = .ok (.iload_n 3, 1) := by decide +kernel
theorem dX12_order_122 : decode cX12_order 122 = .ok (.istore_n 2, 1) := by decide +kernel
theorem dX12_order_123 : decode cX12_order 123 = .ok (.iinc 3 1, 3) := by decide +kernel
theorem dX12_order_126 : decode cX12_order 126 = .ok (.goto (-83), 3) := by decide +kernel
theorem dX12_order_129 : decode cX12_order 129 = .ok (.iload_n 2, 1) := by decide +kernel
theorem dX12_order_130 : decode cX12_order 130 = .ok (.ifCond .ge 5, 3) := by decide +kernel
theorem dX12_order_133 : decode cX12_order 133 = .ok (.iconst 0, 1) := by decide +kernel
theorem dX12_order_134 : decode cX12_order 134 = .ok (.ireturn, 1) := by decide +kernel
theorem dX12_order_135 : decode cX12_order 135 = .ok (.aload_n 0, 1) := by decide +kernel
theorem dX12_order_136 : decode cX12_order 136 = .ok (.getfield 112, 3) := by decide +kernel
theorem dX12_order_139 : decode cX12_order 139 = .ok (.iload_n 1, 1) := by decide +kernel
theorem dX12_order_140 : decode cX12_order 140 = .ok (.iload_n 2, 1) := by decide +kernel
theorem dX12_order_141 : decode cX12_order 141 = .ok (.iastore, 1) := by decide +kernel
theorem dX12_order_142 : decode cX12_order 142 = .ok (.aload_n 0, 1) := by decide +kernel
theorem dX12_order_143 : decode cX12_order 143 = .ok (.getfield 115, 3) := by decide +kernel
theorem dX12_order_146 : decode cX12_order 146 = .ok (.iload_n 2, 1) := by decide +kernel
theorem dX12_order_147 : decode cX12_order 147 = .ok (.iconst 1, 1) := by decide +kernel
theorem dX12_order_148 : decode cX12_order 148 = .ok (.bastore, 1) := by decide +kernel
theorem dX12_order_149 : decode cX12_order 149 = .ok (.iinc 1 (-1), 3) := by decide +kernel
theorem dX12_order_152 : decode cX12_order 152 = .ok (.goto (-117), 3) := by decide +kernel
theorem dX12_order_155 : decode cX12_order 155 = .ok (.aload_n 0, 1) := by decide +kernel
theorem dX12_order_156 : decode cX12_order 156 = .ok (.iconst 1, 1) := by decide +kernel
theorem dX12_order_157 : decode cX12_order 157 = .ok (.putfield 170, 3) := by decide +kernel
theorem dX12_order_160 : decode cX12_order 160 = .ok (.iconst 1, 1) := by decide +kernel
theorem dX12_order_161 : decode cX12_order 161 = .ok (.ireturn, 1) := by decide +kernel
theorem dX12_place_0 : decode cX12_place 0 = .ok (.aload_n 0, 1) := by decide +kernel
theorem dX12_place_1 : decode cX12_place 1 = .ok (.getfield 170, 3) := by decide +kernel
theorem dX12_place_4 : decode cX12_place 4 = .ok (.ifCond .ne 10, 3) := by decide +kernel
theorem dX12_place_7 : decode cX12_place 7 = .ok (.aload_n 0, 1) := by decide +kernel
theorem dX12_place_8 : decode cX12_place 8 = .ok (.bipush (-2), 2) := by decide +kernel
theorem dX12_place_10 : decode cX12_place 10 = .ok (.invokevirtual 142, 3) := by decide +kernel
theorem dX12_place_13 : decode cX12_place 13 = .ok (.ireturn, 1) := by decide +kernel
theorem dX12_place_14 : decode cX12_place 14 = .ok (.iload_n 1, 1) := by decide +kernel
theorem dX12_place_15 : decode cX12_place 15 = .ok (.i2l, 1) := by decide +kernel
theorem dX12_place_16 : decode cX12_place 16 = .ok (.lconst 0, 1) := by decide +kernel
theorem dX12_place_17 : decode cX12_place 17 = .ok (.aload_n 0, 1) := by decide +kernel
theorem dX12_place_18 : decode cX12_place 18 = .ok (.getfield 133, 3) := by decide +kernel
theorem dX12_place_21 : decode cX12_place 21 = .ok (.iconst 1, 1) := by decide +kernel
theorem dX12_place_22 : decode cX12_place 22 = .ok (.isub, 1) := by decide +kernel
theorem dX12_place_23 : decode cX12_place 23 = .ok (.i2l, 1) := by decide +kernel
theorem dX12_place_24 : decode cX12_place 24 = .ok (.invokestatic 138, 3) := by decide +kernel
theorem dX12_place_27 : decode cX12_place 27 = .ok (.ifCond .eq 12, 3) := by decide +kernel
theorem dX12_place_30 : decode cX12_place 30 = .ok (.aload_n 0, 1) := by decide +kernel
theorem dX12_place_31 : decode cX12_place 31 = .ok (.getfield 112, 3) := by decide +kernel
theorem dX12_place_34 : decode cX12_place 34 = .ok (.iload_n 1, 1) := by decide +kernel
theorem dX12_place_35 : decode cX12_place 35 = .ok (.iaload, 1) := by decide +kernel
theorem dX12_place_36 : decode cX12_place 36 = .ok (.goto 9, 3) := by decide +kernel
theorem dX12_place_39 : decode cX12_place 39 = .ok (.aload_n 0, 1) := by decide +kernel
theorem dX12_place_40 : decode cX12_place 40 = .ok (.bipush (-3), 2) := by decide +kernel
theorem dX12_place_42 : decode cX12_place 42 = .ok (.invokevirtual 142, 3) := by decide +kernel
theorem dX12_place_45 : decode cX12_place 45 = .ok (.ireturn, 1) := by decide +kernel
theorem dX12_give_0 : decode cX12_give 0 = .ok (.aload_n 0, 1) := by decide +kernel
theorem dX12_give_1 : decode cX12_give 1 = .ok (.getfield 170, 3) := by decide +kernel
theorem dX12_give_4 : decode cX12_give 4 = .ok (.ifCond .ne 10, 3) := by decide +kernel
theorem dX12_give_7 : decode cX12_give 7 = .ok (.aload_n 0, 1) := by decide +kernel
theorem dX12_give_8 : decode cX12_give 8 = .ok (.bipush (-2), 2) := by decide +kernel
theorem dX12_give_10 : decode cX12_give 10 = .ok (.invokevirtual 142, 3) := by decide +kernel
theorem dX12_give_13 : decode cX12_give 13 = .ok (.ireturn, 1) := by decide +kernel
theorem dX12_give_14 : decode cX12_give 14 = .ok (.iconst 0, 1) := by decide +kernel
theorem dX12_give_15 : decode cX12_give 15 = .ok (.istore_n 1, 1) := by decide +kernel
theorem dX12_give_16 : decode cX12_give 16 = .ok (.iload_n 1, 1) := by decide +kernel
theorem dX12_give_17 : decode cX12_give 17 = .ok (.aload_n 0, 1) := by decide +kernel
theorem dX12_give_18 : decode cX12_give 18 = .ok (.getfield 133, 3) := by decide +kernel
theorem dX12_give_21 : decode cX12_give 21 = .ok (.if_icmp .ge 70, 3) := by decide +kernel
theorem dX12_give_24 : decode cX12_give 24 = .ok (.iload_n 1, 1) := by decide +kernel
theorem dX12_give_25 : decode cX12_give 25 = .ok (.istore_n 2, 1) := by decide +kernel
theorem dX12_give_26 : decode cX12_give 26 = .ok (.iload_n 2, 1) := by decide +kernel
theorem dX12_give_27 : decode cX12_give 27 = .ok (.ifCond .le 46, 3) := by decide +kernel
theorem dX12_give_30 : decode cX12_give 30 = .ok (.aload_n 0, 1) := by decide +kernel
theorem dX12_give_31 : decode cX12_give 31 = .ok (.getfield 118, 3) := by decide +kernel
theorem dX12_give_34 : decode cX12_give 34 = .ok (.iload_n 2, 1) := by decide +kernel
theorem dX12_give_35 : decode cX12_give 35 = .ok (.iconst 1, 1) := by decide +kernel
theorem dX12_give_36 : decode cX12_give 36 = .ok (.isub, 1) := by decide +kernel
theorem dX12_give_37 : decode cX12_give 37 = .ok (.iaload, 1) := by decide +kernel
theorem dX12_give_38 : decode cX12_give 38 = .ok (.invokestatic 212, 3) := by decide +kernel
theorem dX12_give_41 : decode cX12_give 41 = .ok (.aload_n 0, 1) := by decide +kernel
theorem dX12_give_42 : decode cX12_give 42 = .ok (.getfield 25, 3) := by decide +kernel
theorem dX12_give_45 : decode cX12_give 45 = .ok (.iload_n 1, 1) := by decide +kernel
theorem dX12_give_46 : decode cX12_give 46 = .ok (.iaload, 1) := by decide +kernel
theorem dX12_give_47 : decode cX12_give 47 = .ok (.invokestatic 212, 3) := by decide +kernel
theorem dX12_give_50 : decode cX12_give 50 = .ok (.if_icmp .le 23, 3) := by decide +kernel
theorem dX12_give_53 : decode cX12_give 53 = .ok (.aload_n 0, 1) := by decide +kernel
theorem dX12_give_54 : decode cX12_give 54 = .ok (.getfield 118, 3) := by decide +kernel
theorem dX12_give_57 : decode cX12_give 57 = .ok (.iload_n 2, 1) := by decide +kernel
theorem dX12_give_58 : decode cX12_give 58 = .ok (.aload_n 0, 1) := by decide +kernel
theorem dX12_give_59 : decode cX12_give 59 = .ok (.getfield 118, 3) := by decide +kernel
theorem dX12_give_62 : decode cX12_give 62 = .ok (.iload_n 2, 1) := by decide +kernel
theorem dX12_give_63 : decode cX12_give 63 = .ok (.iconst 1, 1) := by decide +kernel
theorem dX12_give_64 : decode cX12_give 64 = .ok (.isub, 1) := by decide +kernel
theorem dX12_give_65 : decode cX12_give 65 = .ok (.iaload, 1) := by decide +kernel
theorem dX12_give_66 : decode cX12_give 66 = .ok (.iastore, 1) := by decide +kernel
theorem dX12_give_67 : decode cX12_give 67 = .ok (.iinc 2 (-1), 3) := by decide +kernel
theorem dX12_give_70 : decode cX12_give 70 = .ok (.goto (-44), 3) := by decide +kernel
theorem dX12_give_73 : decode cX12_give 73 = .ok (.aload_n 0, 1) := by decide +kernel
theorem dX12_give_74 : decode cX12_give 74 = .ok (.getfield 118, 3) := by decide +kernel
theorem dX12_give_77 : decode cX12_give 77 = .ok (.iload_n 2, 1) := by decide +kernel
theorem dX12_give_78 : decode cX12_give 78 = .ok (.aload_n 0, 1) := by decide +kernel
theorem dX12_give_79 : decode cX12_give 79 = .ok (.getfield 25, 3) := by decide +kernel
theorem dX12_give_82 : decode cX12_give 82 = .ok (.iload_n 1, 1) := by decide +kernel
theorem dX12_give_83 : decode cX12_give 83 = .ok (.iaload, 1) := by decide +kernel
theorem dX12_give_84 : decode cX12_give 84 = .ok (.iastore, 1) := by decide +kernel
theorem dX12_give_85 : decode cX12_give 85 = .ok (.iinc 1 1, 3) := by decide +kernel
theorem dX12_give_88 : decode cX12_give 88 = .ok (.goto (-72), 3) := by decide +kernel
theorem dX12_give_91 : decode cX12_give 91 = .ok (.iconst 0, 1) := by decide +kernel
theorem dX12_give_92 : decode cX12_give 92 = .ok (.istore_n 1, 1) := by decide +kernel
theorem dX12_give_93 : decode cX12_give 93 = .ok (.iload_n 1, 1) := by decide +kernel
theorem dX12_give_94 : decode cX12_give 94 = .ok (.aload_n 0, 1) := by decide +kernel
theorem dX12_give_95 : decode cX12_give 95 = .ok (.getfield 133, 3) := by decide +kernel
theorem dX12_give_98 : decode cX12_give 98 = .ok (.if_icmp .ge 62, 3) := by decide +kernel
theorem dX12_give_101 : decode cX12_give 101 = .ok (.aload_n 0, 1) := by decide +kernel
theorem dX12_give_102 : decode cX12_give 102 = .ok (.aload_n 0, 1) := by decide +kernel
theorem dX12_give_103 : decode cX12_give 103 = .ok (.getfield 170, 3) := by decide +kernel
theorem dX12_give_106 : decode cX12_give 106 = .ok (.ifCond .eq 27, 3) := by decide +kernel
theorem dX12_give_109 : decode cX12_give 109 = .ok (.aload_n 0, 1) := by decide +kernel
theorem dX12_give_110 : decode cX12_give 110 = .ok (.getfield 25, 3) := by decide +kernel
theorem dX12_give_113 : decode cX12_give 113 = .ok (.aload_n 0, 1) := by decide +kernel
theorem dX12_give_114 : decode cX12_give 114 = .ok (.getfield 112, 3) := by decide +kernel
theorem dX12_give_117 : decode cX12_give 117 = .ok (.iload_n 1, 1) := by decide +kernel
theorem dX12_give_118 : decode cX12_give 118 = .ok (.iaload, 1) := by decide +kernel
theorem dX12_give_119 : decode cX12_give 119 = .ok (.iaload, 1) := by decide +kernel
theorem dX12_give_120 : decode cX12_give 120 = .ok (.aload_n 0, 1) := by decide +kernel
theorem dX12_give_121 : decode cX12_give 121 = .ok (.getfield 118, 3) := by decide +kernel
theorem dX12_give_124 : decode cX12_give 124 = .ok (.iload_n 1, 1) := by decide +kernel
theorem dX12_give_125 : decode cX12_give 125 = .ok (.iaload, 1) := by decide +kernel
theorem dX12_give_126 : decode cX12_give 126 = .ok (.if_icmp .ne 7, 3) := by decide +kernel
theorem dX12_give_129 : decode cX12_give 129 = .ok (.iconst 1, 1) := by decide +kernel
theorem dX12_give_130 : decode cX12_give 130 = .ok (.goto 4, 3) := by decide +kernel
theorem dX12_give_133 : decode cX12_give 133 = .ok (.iconst 0, 1) := by decide +kernel
theorem dX12_give_134 : decode cX12_give 134 = .ok (.putfield 170, 3) := by decide +kernel
theorem dX12_give_137 : decode cX12_give 137 = .ok (.aload_n 0, 1) := by decide +kernel
theorem dX12_give_138 : decode cX12_give 138 = .ok (.getfield 25, 3) := by decide +kernel
theorem dX12_give_141 : decode cX12_give 141 = .ok (.aload_n 0, 1) := by decide +kernel
theorem dX12_give_142 : decode cX12_give 142 = .ok (.getfield 112, 3) := by decide +kernel
theorem dX12_give_145 : decode cX12_give 145 = .ok (.iload_n 1, 1) := by decide +kernel
theorem dX12_give_146 : decode cX12_give 146 = .ok (.iaload, 1) := by decide +kernel
theorem dX12_give_147 : decode cX12_give 147 = .ok (.aload_n 0, 1) := by decide +kernel
theorem dX12_give_148 : decode cX12_give 148 = .ok (.getfield 118, 3) := by decide +kernel
theorem dX12_give_151 : decode cX12_give 151 = .ok (.iload_n 1, 1) := by decide +kernel
theorem dX12_give_152 : decode cX12_give 152 = .ok (.iaload, 1) := by decide +kernel
theorem dX12_give_153 : decode cX12_give 153 = .ok (.iastore, 1) := by decide +kernel
theorem dX12_give_154 : decode cX12_give 154 = .ok (.iinc 1 1, 3) := by decide +kernel
theorem dX12_give_157 : decode cX12_give 157 = .ok (.goto (-64), 3) := by decide +kernel
theorem dX12_give_160 : decode cX12_give 160 = .ok (.iconst 1, 1) := by decide +kernel
theorem dX12_give_161 : decode cX12_give 161 = .ok (.ireturn, 1) := by decide +kernel
theorem dX12_put_0 : decode cX12_put 0 = .ok (.aload_n 0, 1) := by decide +kernel
theorem dX12_put_1 : decode cX12_put 1 = .ok (.iload_n 1, 1) := by decide +kernel
theorem dX12_put_2 : decode cX12_put 2 = .ok (.invokevirtual 154, 3) := by decide +kernel
theorem dX12_put_5 : decode cX12_put 5 = .ok (.ifCond .ne 10, 3) := by decide +kernel
theorem dX12_put_8 : decode cX12_put 8 = .ok (.aload_n 0, 1) := by decide +kernel
theorem dX12_put_9 : decode cX12_put 9 = .ok (.bipush (-3), 2) := by decide +kernel
theorem dX12_put_11 : decode cX12_put 11 = .ok (.invokevirtual 142, 3) := by decide +kernel
theorem dX12_put_14 : decode cX12_put 14 = .ok (.ireturn, 1) := by decide +kernel
theorem dX12_put_15 : decode cX12_put 15 = .ok (.aload_n 0, 1) := by decide +kernel
theorem dX12_put_16 : decode cX12_put 16 = .ok (.aload_n 0, 1) := by decide +kernel
theorem dX12_put_17 : decode cX12_put 17 = .ok (.getfield 31, 3) := by decide +kernel
theorem dX12_put_20 : decode cX12_put 20 = .ok (.iload_n 1, 1) := by decide +kernel
theorem dX12_put_21 : decode cX12_put 21 = .ok (.iaload, 1) := by decide +kernel
theorem dX12_put_22 : decode cX12_put 22 = .ok (.putfield 127, 3) := by decide +kernel
theorem dX12_put_25 : decode cX12_put 25 = .ok (.iconst 0, 1) := by decide +kernel
theorem dX12_put_26 : decode cX12_put 26 = .ok (.istore_n 2, 1) := by decide +kernel
theorem dX12_put_27 : decode cX12_put 27 = .ok (.iload_n 2, 1) := by decide +kernel
theorem dX12_put_28 : decode cX12_put 28 = .ok (.aload_n 0, 1) := by decide +kernel
theorem dX12_put_29 : decode cX12_put 29 = .ok (.getfield 127, 3) := by decide +kernel
theorem dX12_put_32 : decode cX12_put 32 = .ok (.if_icmp .ge 54, 3) := by decide +kernel
theorem dX12_put_35 : decode cX12_put 35 = .ok (.aload_n 0, 1) := by decide +kernel
theorem dX12_put_36 : decode cX12_put 36 = .ok (.getfield 46, 3) := by decide +kernel
theorem dX12_put_39 : decode cX12_put 39 = .ok (.iload_n 1, 1) := by decide +kernel
theorem dX12_put_40 : decode cX12_put 40 = .ok (.laload, 1) := by decide +kernel
theorem dX12_put_41 : decode cX12_put 41 = .ok (.bipush 8, 2) := by decide +kernel
theorem dX12_put_43 : decode cX12_put 43 = .ok (.aload_n 0, 1) := by decide +kernel
theorem dX12_put_44 : decode cX12_put 44 = .ok (.getfield 127, 3) := by decide +kernel
theorem dX12_put_47 : decode cX12_put 47 = .ok (.iconst 1, 1) := by decide +kernel
theorem dX12_put_48 : decode cX12_put 48 = .ok (.isub, 1) := by decide +kernel
theorem dX12_put_49 : decode cX12_put 49 = .ok (.iload_n 2, 1) := by decide +kernel
theorem dX12_put_50 : decode cX12_put 50 = .ok (.isub, 1) := by decide +kernel
theorem dX12_put_51 : decode cX12_put 51 = .ok (.imul, 1) := by decide +kernel
theorem dX12_put_52 : decode cX12_put 52 = .ok (.lshr, 1) := by decide +kernel
theorem dX12_put_53 : decode cX12_put 53 = .ok (.ldc2_w 206, 3) := by decide +kernel
theorem dX12_put_56 : decode cX12_put 56 = .ok (.land, 1) := by decide +kernel
theorem dX12_put_57 : decode cX12_put 57 = .ok (.l2i, 1) := by decide +kernel
theorem dX12_put_58 : decode cX12_put 58 = .ok (.istore_n 3, 1) := by decide +kernel
theorem dX12_put_59 : decode cX12_put 59 = .ok (.aload_n 0, 1) := by decide +kernel
theorem dX12_put_60 : decode cX12_put 60 = .ok (.getfield 121, 3) := by decide +kernel
theorem dX12_put_63 : decode cX12_put 63 = .ok (.iload_n 2, 1) := by decide +kernel
theorem dX12_put_64 : decode cX12_put 64 = .ok (.iload_n 3, 1) := by decide +kernel
theorem dX12_put_65 : decode cX12_put 65 = .ok (.bipush 127, 2) := by decide +kernel
theorem dX12_put_67 : decode cX12_put 67 = .ok (.if_icmp .le 11, 3) := by decide +kernel
theorem dX12_put_70 : decode cX12_put 70 = .ok (.iload_n 3, 1) := by decide +kernel
theorem dX12_put_71 : decode cX12_put 71 = .ok (.sipush 256, 3) := by decide +kernel
theorem dX12_put_74 : decode cX12_put 74 = .ok (.isub, 1) := by decide +kernel
theorem dX12_put_75 : decode cX12_put 75 = .ok (.goto 4, 3) := by decide +kernel
theorem dX12_put_78 : decode cX12_put 78 = .ok (.iload_n 3, 1) := by decide +kernel
theorem dX12_put_79 : decode cX12_put 79 = .ok (.iastore, 1) := by decide +kernel
theorem dX12_put_80 : decode cX12_put 80 = .ok (.iinc 2 1, 3) := by decide +kernel
theorem dX12_put_83 : decode cX12_put 83 = .ok (.goto (-56), 3) := by decide +kernel
theorem dX12_put_86 : decode cX12_put 86 = .ok (.aload_n 0, 1) := by decide +kernel
theorem dX12_put_87 : decode cX12_put 87 = .ok (.getfield 127, 3) := by decide +kernel
theorem dX12_put_90 : decode cX12_put 90 = .ok (.ireturn, 1) := by decide +kernel
theorem dX12_tear_0 : decode cX12_tear 0 = .ok (.aload_n 0, 1) := by decide +kernel
theorem dX12_tear_1 : decode cX12_tear 1 = .ok (.getfield 127, 3) := by decide +kernel
theorem dX12_tear_4 : decode cX12_tear 4 = .ok (.ifCond .lt 7, 3) := by decide +kernel
theorem dX12_tear_7 : decode cX12_tear 7 = .ok (.iconst 1, 1) := by decide +kernel
theorem dX12_tear_8 : decode cX12_tear 8 = .ok (.goto 4, 3) := by decide +kernel
theorem dX12_tear_11 : decode cX12_tear 11 = .ok (.iconst 0, 1) := by decide +kernel
theorem dX12_tear_12 : decode cX12_tear 12 = .ok (.istore_n 1, 1) := by decide +kernel
theorem dX12_tear_13 : decode cX12_tear 13 = .ok (.aload_n 0, 1) := by decide +kernel
theorem dX12_tear_14 : decode cX12_tear 14 = .ok (.iconst (-1), 1) := by decide +kernel
theorem dX12_tear_15 : decode cX12_tear 15 = .ok (.putfield 127, 3) := by decide +kernel
theorem dX12_tear_18 : decode cX12_tear 18 = .ok (.iload_n 1, 1) := by decide +kernel
theorem dX12_tear_19 : decode cX12_tear 19 = .ok (.ireturn, 1) := by decide +kernel
theorem dX12_row_0 : decode cX12_row 0 = .ok (.aload_n 0, 1) := by decide +kernel
theorem dX12_row_1 : decode cX12_row 1 = .ok (.getfield 127, 3) := by decide +kernel
theorem dX12_row_4 : decode cX12_row 4 = .ok (.ifCond .ge 10, 3) := by decide +kernel
theorem dX12_row_7 : decode cX12_row 7 = .ok (.aload_n 0, 1) := by decide +kernel
theorem dX12_row_8 : decode cX12_row 8 = .ok (.bipush (-2), 2) := by decide +kernel
theorem dX12_row_10 : decode cX12_row 10 = .ok (.invokevirtual 142, 3) := by decide +kernel
theorem dX12_row_13 : decode cX12_row 13 = .ok (.ireturn, 1) := by decide +kernel
theorem dX12_row_14 : decode cX12_row 14 = .ok (.iload_n 1, 1) := by decide +kernel
theorem dX12_row_15 : decode cX12_row 15 = .ok (.i2l, 1) := by decide +kernel
theorem dX12_row_16 : decode cX12_row 16 = .ok (.lconst 0, 1) := by decide +kernel
theorem dX12_row_17 : decode cX12_row 17 = .ok (.aload_n 0, 1) := by decide +kernel
theorem dX12_row_18 : decode cX12_row 18 = .ok (.getfield 127, 3) := by decide +kernel
theorem dX12_row_21 : decode cX12_row 21 = .ok (.iconst 1, 1) := by decide +kernel
theorem dX12_row_22 : decode cX12_row 22 = .ok (.isub, 1) := by decide +kernel
theorem dX12_row_23 : decode cX12_row 23 = .ok (.i2l, 1) := by decide +kernel
theorem dX12_row_24 : decode cX12_row 24 = .ok (.invokestatic 138, 3) := by decide +kernel
theorem dX12_row_27 : decode cX12_row 27 = .ok (.ifCond .eq 12, 3) := by decide +kernel
theorem dX12_row_30 : decode cX12_row 30 = .ok (.aload_n 0, 1) := by decide +kernel
theorem dX12_row_31 : decode cX12_row 31 = .ok (.getfield 121, 3) := by decide +kernel
theorem dX12_row_34 : decode cX12_row 34 = .ok (.iload_n 1, 1) := by decide +kernel
theorem dX12_row_35 : decode cX12_row 35 = .ok (.iaload, 1) := by decide +kernel
theorem dX12_row_36 : decode cX12_row 36 = .ok (.goto 9, 3) := by decide +kernel
theorem dX12_row_39 : decode cX12_row 39 = .ok (.aload_n 0, 1) := by decide +kernel
theorem dX12_row_40 : decode cX12_row 40 = .ok (.bipush (-3), 2) := by decide +kernel
theorem dX12_row_42 : decode cX12_row 42 = .ok (.invokevirtual 142, 3) := by decide +kernel
theorem dX12_row_45 : decode cX12_row 45 = .ok (.ireturn, 1) := by decide +kernel
theorem dX12_copy_0 : decode cX12_copy 0 = .ok (.aload_n 0, 1) := by decide +kernel
theorem dX12_copy_1 : decode cX12_copy 1 = .ok (.getfield 127, 3) := by decide +kernel
theorem dX12_copy_4 : decode cX12_copy 4 = .ok (.ifCond .ge 10, 3) := by decide +kernel
theorem dX12_copy_7 : decode cX12_copy 7 = .ok (.aload_n 0, 1) := by decide +kernel
theorem dX12_copy_8 : decode cX12_copy 8 = .ok (.bipush (-2), 2) := by decide +kernel
theorem dX12_copy_10 : decode cX12_copy 10 = .ok (.invokevirtual 142, 3) := by decide +kernel
theorem dX12_copy_13 : decode cX12_copy 13 = .ok (.ireturn, 1) := by decide +kernel
theorem dX12_copy_14 : decode cX12_copy 14 = .ok (.iload_n 3, 1) := by decide +kernel
theorem dX12_copy_15 : decode cX12_copy 15 = .ok (.ifCond .ge 10, 3) := by decide +kernel
theorem dX12_copy_18 : decode cX12_copy 18 = .ok (.aload_n 0, 1) := by decide +kernel
theorem dX12_copy_19 : decode cX12_copy 19 = .ok (.bipush (-4), 2) := by decide +kernel
theorem dX12_copy_21 : decode cX12_copy 21 = .ok (.invokevirtual 142, 3) := by decide +kernel
theorem dX12_copy_24 : decode cX12_copy 24 = .ok (.ireturn, 1) := by decide +kernel
theorem dX12_copy_25 : decode cX12_copy 25 = .ok (.iload_n 1, 1) := by decide +kernel
theorem dX12_copy_26 : decode cX12_copy 26 = .ok (.ifCond .lt 35, 3) := by decide +kernel
theorem dX12_copy_29 : decode cX12_copy 29 = .ok (.iload_n 2, 1) := by decide +kernel
theorem dX12_copy_30 : decode cX12_copy 30 = .ok (.ifCond .lt 31, 3) := by decide +kernel
theorem dX12_copy_33 : decode cX12_copy 33 = .ok (.iload_n 1, 1) := by decide +kernel
theorem dX12_copy_34 : decode cX12_copy 34 = .ok (.i2l, 1) := by decide +kernel
theorem dX12_copy_35 : decode cX12_copy 35 = .ok (.iload_n 3, 1) := by decide +kernel
theorem dX12_copy_36 : decode cX12_copy 36 = .ok (.i2l, 1) := by decide +kernel
theorem dX12_copy_37 : decode cX12_copy 37 = .ok (.ladd, 1) := by decide +kernel
theorem dX12_copy_38 : decode cX12_copy 38 = .ok (.aload_n 0, 1) := by decide +kernel
theorem dX12_copy_39 : decode cX12_copy 39 = .ok (.getfield 127, 3) := by decide +kernel
theorem dX12_copy_42 : decode cX12_copy 42 = .ok (.i2l, 1) := by decide +kernel
theorem dX12_copy_43 : decode cX12_copy 43 = .ok (.lcmp, 1) := by decide +kernel
theorem dX12_copy_44 : decode cX12_copy 44 = .ok (.ifCond .gt 17, 3) := by decide +kernel
theorem dX12_copy_47 : decode cX12_copy 47 = .ok (.iload_n 2, 1) := by decide +kernel
theorem dX12_copy_48 : decode cX12_copy 48 = .ok (.i2l, 1) := by decide +kernel
theorem dX12_copy_49 : decode cX12_copy 49 = .ok (.iload_n 3, 1) := by decide +kernel
theorem dX12_copy_50 : decode cX12_copy 50 = .ok (.i2l, 1) := by decide +kernel
theorem dX12_copy_51 : decode cX12_copy 51 = .ok (.ladd, 1) := by decide +kernel
theorem dX12_copy_52 : decode cX12_copy 52 = .ok (.aload_n 0, 1) := by decide +kernel
theorem dX12_copy_53 : decode cX12_copy 53 = .ok (.getfield 127, 3) := by decide +kernel
theorem dX12_copy_56 : decode cX12_copy 56 = .ok (.i2l, 1) := by decide +kernel
theorem dX12_copy_57 : decode cX12_copy 57 = .ok (.lcmp, 1) := by decide +kernel
theorem dX12_copy_58 : decode cX12_copy 58 = .ok (.ifCond .le 10, 3) := by decide +kernel
theorem dX12_copy_61 : decode cX12_copy 61 = .ok (.aload_n 0, 1) := by decide +kernel
theorem dX12_copy_62 : decode cX12_copy 62 = .ok (.bipush (-6), 2) := by decide +kernel
theorem dX12_copy_64 : decode cX12_copy 64 = .ok (.invokevirtual 142, 3) := by decide +kernel
theorem dX12_copy_67 : decode cX12_copy 67 = .ok (.ireturn, 1) := by decide +kernel
theorem dX12_copy_68 : decode cX12_copy 68 = .ok (.iconst 0, 1) := by decide +kernel
theorem dX12_copy_69 : decode cX12_copy 69 = .ok (.istore 4, 2) := by decide +kernel
theorem dX12_copy_71 : decode cX12_copy 71 = .ok (.iload 4, 2) := by decide +kernel
theorem dX12_copy_73 : decode cX12_copy 73 = .ok (.iload_n 3, 1) := by decide +kernel
theorem dX12_copy_74 : decode cX12_copy 74 = .ok (.if_icmp .ge 25, 3) := by decide +kernel
theorem dX12_copy_77 : decode cX12_copy 77 = .ok (.aload_n 0, 1) := by decide +kernel
theorem dX12_copy_78 : decode cX12_copy 78 = .ok (.getfield 124, 3) := by decide +kernel
theorem dX12_copy_81 : decode cX12_copy 81 = .ok (.iload 4, 2) := by decide +kernel
theorem dX12_copy_83 : decode cX12_copy 83 = .ok (.aload_n 0, 1) := by decide +kernel
theorem dX12_copy_84 : decode cX12_copy 84 = .ok (.getfield 121, 3) := by decide +kernel
theorem dX12_copy_87 : decode cX12_copy 87 = .ok (.iload_n 1, 1) := by decide +kernel
theorem dX12_copy_88 : decode cX12_copy 88 = .ok (.iload 4, 2) := by decide +kernel
theorem dX12_copy_90 : decode cX12_copy 90 = .ok (.iadd, 1) := by decide +kernel
theorem dX12_copy_91 : decode cX12_copy 91 = .ok (.iaload, 1) := by decide +kernel
theorem dX12_copy_92 : decode cX12_copy 92 = .ok (.iastore, 1) := by decide +kernel
theorem dX12_copy_93 : decode cX12_copy 93 = .ok (.iinc 4 1, 3) := by decide +kernel
theorem dX12_copy_96 : decode cX12_copy 96 = .ok (.goto (-25), 3) := by decide +kernel
theorem dX12_copy_99 : decode cX12_copy 99 = .ok (.iconst 0, 1) := by decide +kernel
theorem dX12_copy_100 : decode cX12_copy 100 = .ok (.istore 4, 2) := by decide +kernel
theorem dX12_copy_102 : decode cX12_copy 102 = .ok (.iload 4, 2) := by decide +kernel
theorem dX12_copy_104 : decode cX12_copy 104 = .ok (.iload_n 3, 1) := by decide +kernel
theorem dX12_copy_105 : decode cX12_copy 105 = .ok (.if_icmp .ge 25, 3) := by decide +kernel
theorem dX12_copy_108 : decode cX12_copy 108 = .ok (.aload_n 0, 1) := by decide +kernel
theorem dX12_copy_109 : decode cX12_copy 109 = .ok (.getfield 121, 3) := by decide +kernel
theorem dX12_copy_112 : decode cX12_copy 112 = .ok (.iload_n 2, 1) := by decide +kernel
theorem dX12_copy_113 : decode cX12_copy 113 = .ok (.iload 4, 2) := by decide +kernel
theorem dX12_copy_115 : decode cX12_copy 115 = .ok (.iadd, 1) := by decide +kernel
theorem dX12_copy_116 : decode cX12_copy 116 = .ok (.aload_n 0, 1) := by decide +kernel
theorem dX12_copy_117 : decode cX12_copy 117 = .ok (.getfield 124, 3) := by decide +kernel
theorem dX12_copy_120 : decode cX12_copy 120 = .ok (.iload 4, 2) := by decide +kernel
theorem dX12_copy_122 : decode cX12_copy 122 = .ok (.iaload, 1) := by decide +kernel
theorem dX12_copy_123 : decode cX12_copy 123 = .ok (.iastore, 1) := by decide +kernel
theorem dX12_copy_124 : decode cX12_copy 124 = .ok (.iinc 4 1, 3) := by decide +kernel
theorem dX12_copy_127 : decode cX12_copy 127 = .ok (.goto (-25), 3) := by decide +kernel
theorem dX12_copy_130 : decode cX12_copy 130 = .ok (.iload_n 3, 1) := by decide +kernel
theorem dX12_copy_131 : decode cX12_copy 131 = .ok (.ireturn, 1) := by decide +kernel
theorem dX12_status_0 : decode cX12_status 0 = .ok (.iload_n 1, 1) := by decide +kernel
theorem dX12_status_1 : decode cX12_status 1 = .ok (.i2l, 1) := by decide +kernel
theorem dX12_status_2 : decode cX12_status 2 = .ok (.ldc2_w 368, 3) := by decide +kernel
theorem dX12_status_5 : decode cX12_status 5 = .ok (.ldc2_w 370, 3) := by decide +kernel
theorem dX12_status_8 : decode cX12_status 8 = .ok (.invokestatic 138, 3) := by decide +kernel
theorem dX12_status_11 : decode cX12_status 11 = .ok (.ifCond .eq 13, 3) := by decide +kernel
theorem dX12_status_14 : decode cX12_status 14 = .ok (.aload_n 0, 1) := by decide +kernel
theorem dX12_status_15 : decode cX12_status 15 = .ok (.getfield 7, 3) := by decide +kernel
theorem dX12_status_18 : decode cX12_status 18 = .ok (.iload_n 1, 1) := by decide +kernel
theorem dX12_status_19 : decode cX12_status 19 = .ok (.ineg, 1) := by decide +kernel
theorem dX12_status_20 : decode cX12_status 20 = .ok (.iaload, 1) := by decide +kernel
theorem dX12_status_21 : decode cX12_status 21 = .ok (.goto 9, 3) := by decide +kernel
theorem dX12_status_24 : decode cX12_status 24 = .ok (.aload_n 0, 1) := by decide +kernel
theorem dX12_status_25 : decode cX12_status 25 = .ok (.bipush (-7), 2) := by decide +kernel
theorem dX12_status_27 : decode cX12_status 27 = .ok (.invokevirtual 142, 3) := by decide +kernel
theorem dX12_status_30 : decode cX12_status 30 = .ok (.ireturn, 1) := by decide +kernel
theorem dL_law_0 : decode cL_law 0 = .ok (.new 7, 3) := by decide +kernel
theorem dL_law_3 : decode cL_law 3 = .ok (.dup, 1) := by decide +kernel
theorem dL_law_4 : decode cL_law 4 = .ok (.invokespecial 9, 3) := by decide +kernel
theorem dL_law_7 : decode cL_law 7 = .ok (.astore_n 1, 1) := by decide +kernel
theorem dL_law_8 : decode cL_law 8 = .ok (.new 10, 3) := by decide +kernel
theorem dL_law_11 : decode cL_law 11 = .ok (.dup, 1) := by decide +kernel
theorem dL_law_12 : decode cL_law 12 = .ok (.invokespecial 12, 3) := by decide +kernel
theorem dL_law_15 : decode cL_law 15 = .ok (.astore_n 2, 1) := by decide +kernel
theorem dL_law_16 : decode cL_law 16 = .ok (.iconst 0, 1) := by decide +kernel
theorem dL_law_17 : decode cL_law 17 = .ok (.istore_n 3, 1) := by decide +kernel
theorem dL_law_18 : decode cL_law 18 = .ok (.iload_n 3, 1) := by decide +kernel
theorem dL_law_19 : decode cL_law 19 = .ok (.aload_n 0, 1) := by decide +kernel
theorem dL_law_20 : decode cL_law 20 = .ok (.arraylength, 1) := by decide +kernel
theorem dL_law_21 : decode cL_law 21 = .ok (.bipush 6, 2) := by decide +kernel
theorem dL_law_23 : decode cL_law 23 = .ok (.isub, 1) := by decide +kernel
theorem dL_law_24 : decode cL_law 24 = .ok (.if_icmp .gt 1168, 3) := by decide +kernel
theorem dL_law_27 : decode cL_law 27 = .ok (.aload_n 0, 1) := by decide +kernel
theorem dL_law_28 : decode cL_law 28 = .ok (.iload_n 3, 1) := by decide +kernel
theorem dL_law_29 : decode cL_law 29 = .ok (.iaload, 1) := by decide +kernel
theorem dL_law_30 : decode cL_law 30 = .ok (.bipush 63, 2) := by decide +kernel
theorem dL_law_32 : decode cL_law 32 = .ok (.iand, 1) := by decide +kernel
theorem dL_law_33 : decode cL_law 33 = .ok (.tableswitch 1153 0 37 #[167, 180, 243, 276, 309, 372, 405, 438, 471, 494, 527, 550, 573, 606, 639, 662, 685, 698, 721, 744, 758, 781, 804, 827, 850, 883, 906, 929, 952, 965, 979, 992, 1015, 1028, 1051, 1064, 1087, 1130], 167) := by decide +kernel
theorem dL_law_200 : decode cL_law 200 = .ok (.aload_n 1, 1) := by decide +kernel
theorem dL_law_201 : decode cL_law 201 = .ok (.invokevirtual 13, 3) := by decide +kernel
theorem dL_law_204 : decode cL_law 204 = .ok (.aload_n 2, 1) := by decide +kernel
theorem dL_law_205 : decode cL_law 205 = .ok (.invokevirtual 17, 3) := by decide +kernel
theorem dL_law_208 : decode cL_law 208 = .ok (.if_icmp .eq 978, 3) := by decide +kernel
theorem dL_law_211 : decode cL_law 211 = .ok (.iconst 0, 1) := by decide +kernel
theorem dL_law_212 : decode cL_law 212 = .ok (.ireturn, 1) := by decide +kernel
theorem dL_law_213 : decode cL_law 213 = .ok (.aload_n 1, 1) := by decide +kernel
theorem dL_law_214 : decode cL_law 214 = .ok (.aload_n 0, 1) := by decide +kernel
theorem dL_law_215 : decode cL_law 215 = .ok (.iload_n 3, 1) := by decide +kernel
theorem dL_law_216 : decode cL_law 216 = .ok (.iconst 1, 1) := by decide +kernel
theorem dL_law_217 : decode cL_law 217 = .ok (.iadd, 1) := by decide +kernel
theorem dL_law_218 : decode cL_law 218 = .ok (.iaload, 1) := by decide +kernel
theorem dL_law_219 : decode cL_law 219 = .ok (.aload_n 0, 1) := by decide +kernel
theorem dL_law_220 : decode cL_law 220 = .ok (.iload_n 3, 1) := by decide +kernel
theorem dL_law_221 : decode cL_law 221 = .ok (.iconst 2, 1) := by decide +kernel
theorem dL_law_222 : decode cL_law 222 = .ok (.iadd, 1) := by decide +kernel
theorem dL_law_223 : decode cL_law 223 = .ok (.iaload, 1) := by decide +kernel
theorem dL_law_224 : decode cL_law 224 = .ok (.aload_n 0, 1) := by decide +kernel
theorem dL_law_225 : decode cL_law 225 = .ok (.iload_n 3, 1) := by decide +kernel
theorem dL_law_226 : decode cL_law 226 = .ok (.iconst 3, 1) := by decide +kernel
theorem dL_law_227 : decode cL_law 227 = .ok (.iadd, 1) := by decide +kernel
theorem dL_law_228 : decode cL_law 228 = .ok (.iaload, 1) := by decide +kernel
theorem dL_law_229 : decode cL_law 229 = .ok (.aload_n 0, 1) := by decide +kernel
theorem dL_law_230 : decode cL_law 230 = .ok (.iload_n 3, 1) := by decide +kernel
theorem dL_law_231 : decode cL_law 231 = .ok (.iconst 4, 1) := by decide +kernel
theorem dL_law_232 : decode cL_law 232 = .ok (.iadd, 1) := by decide +kernel
theorem dL_law_233 : decode cL_law 233 = .ok (.iaload, 1) := by decide +kernel
theorem dL_law_234 : decode cL_law 234 = .ok (.aload_n 0, 1) := by decide +kernel
theorem dL_law_235 : decode cL_law 235 = .ok (.iload_n 3, 1) := by decide +kernel
theorem dL_law_236 : decode cL_law 236 = .ok (.iconst 5, 1) := by decide +kernel
theorem dL_law_237 : decode cL_law 237 = .ok (.iadd, 1) := by decide +kernel
theorem dL_law_238 : decode cL_law 238 = .ok (.iaload, 1) := by decide +kernel
theorem dL_law_239 : decode cL_law 239 = .ok (.invokevirtual 18, 3) := by decide +kernel
theorem dL_law_242 : decode cL_law 242 = .ok (.aload_n 2, 1) := by decide +kernel
theorem dL_law_243 : decode cL_law 243 = .ok (.aload_n 0, 1) := by decide +kernel
theorem dL_law_244 : decode cL_law 244 = .ok (.iload_n 3, 1) := by decide +kernel
theorem dL_law_245 : decode cL_law 245 = .ok (.iconst 1, 1) := by decide +kernel
theorem dL_law_246 : decode cL_law 246 = .ok (.iadd, 1) := by decide +kernel
theorem dL_law_247 : decode cL_law 247 = .ok (.iaload, 1) := by decide +kernel
theorem dL_law_248 : decode cL_law 248 = .ok (.aload_n 0, 1) := by decide +kernel
theorem dL_law_249 : decode cL_law 249 = .ok (.iload_n 3, 1) := by decide +kernel
theorem dL_law_250 : decode cL_law 250 = .ok (.iconst 2, 1) := by decide +kernel
theorem dL_law_251 : decode cL_law 251 = .ok (.iadd, 1) := by decide +kernel
theorem dL_law_252 : decode cL_law 252 = .ok (.iaload, 1) := by decide +kernel
theorem dL_law_253 : decode cL_law 253 = .ok (.aload_n 0, 1) := by decide +kernel
theorem dL_law_254 : decode cL_law 254 = .ok (.iload_n 3, 1) := by decide +kernel
theorem dL_law_255 : decode cL_law 255 = .ok (.iconst 3, 1) := by decide +kernel
theorem dL_law_256 : decode cL_law 256 = .ok (.iadd, 1) := by decide +kernel
theorem dL_law_257 : decode cL_law 257 = .ok (.iaload, 1) := by decide +kernel
theorem dL_law_258 : decode cL_law 258 = .ok (.aload_n 0, 1) := by decide +kernel
theorem dL_law_259 : decode cL_law 259 = .ok (.iload_n 3, 1) := by decide +kernel
theorem dL_law_260 : decode cL_law 260 = .ok (.iconst 4, 1) := by decide +kernel
theorem dL_law_261 : decode cL_law 261 = .ok (.iadd, 1) := by decide +kernel
theorem dL_law_262 : decode cL_law 262 = .ok (.iaload, 1) := by decide +kernel
theorem dL_law_263 : decode cL_law 263 = .ok (.aload_n 0, 1) := by decide +kernel
theorem dL_law_264 : decode cL_law 264 = .ok (.iload_n 3, 1) := by decide +kernel
theorem dL_law_265 : decode cL_law 265 = .ok (.iconst 5, 1) := by decide +kernel
theorem dL_law_266 : decode cL_law 266 = .ok (.iadd, 1) := by decide +kernel
theorem dL_law_267 : decode cL_law 267 = .ok (.iaload, 1) := by decide +kernel
theorem dL_law_268 : decode cL_law 268 = .ok (.invokevirtual 22, 3) := by decide +kernel
theorem dL_law_271 : decode cL_law 271 = .ok (.if_icmp .eq 915, 3) := by decide +kernel
theorem dL_law_274 : decode cL_law 274 = .ok (.iconst 0, 1) := by decide +kernel
theorem dL_law_275 : decode cL_law 275 = .ok (.ireturn, 1) := by decide +kernel
theorem dL_law_276 : decode cL_law 276 = .ok (.aload_n 1, 1) := by decide +kernel
theorem dL_law_277 : decode cL_law 277 = .ok (.aload_n 0, 1) := by decide +kernel
theorem dL_law_278 : decode cL_law 278 = .ok (.iload_n 3, 1) := by decide +kernel
theorem dL_law_279 : decode cL_law 279 = .ok (.iconst 1, 1) := by decide +kernel
theorem dL_law_280 : decode cL_law 280 = .ok (.iadd, 1) := by decide +kernel
theorem dL_law_281 : decode cL_law 281 = .ok (.iaload, 1) := by decide +kernel
theorem dL_law_282 : decode cL_law 282 = .ok (.aload_n 0, 1) := by decide +kernel
theorem dL_law_283 : decode cL_law 283 = .ok (.iload_n 3, 1) := by decide +kernel
theorem dL_law_284 : decode cL_law 284 = .ok (.iconst 2, 1) := by decide +kernel
theorem dL_law_285 : decode cL_law 285 = .ok (.iadd, 1) := by decide +kernel
theorem dL_law_286 : decode cL_law 286 = .ok (.iaload, 1) := by decide +kernel
theorem dL_law_287 : decode cL_law 287 = .ok (.invokevirtual 23, 3) := by decide +kernel
theorem dL_law_290 : decode cL_law 290 = .ok (.aload_n 2, 1) := by decide +kernel
theorem dL_law_291 : decode cL_law 291 = .ok (.aload_n 0, 1) := by decide +kernel
theorem dL_law_292 : decode cL_law 292 = .ok (.iload_n 3, 1) := by decide +kernel
theorem dL_law_293 : decode cL_law 293 = .ok (.iconst 1, 1) := by decide +kernel
theorem dL_law_294 : decode cL_law 294 = .ok (.iadd, 1) := by decide +kernel
theorem dL_law_295 : decode cL_law 295 = .ok (.iaload, 1) := by decide +kernel
theorem dL_law_296 : decode cL_law 296 = .ok (.aload_n 0, 1) := by decide +kernel
theorem dL_law_297 : decode cL_law 297 = .ok (.iload_n 3, 1) := by decide +kernel
theorem dL_law_298 : decode cL_law 298 = .ok (.iconst 2, 1) := by decide +kernel
theorem dL_law_299 : decode cL_law 299 = .ok (.iadd, 1) := by decide +kernel
theorem dL_law_300 : decode cL_law 300 = .ok (.iaload, 1) := by decide +kernel
theorem dL_law_301 : decode cL_law 301 = .ok (.invokevirtual 27, 3) := by decide +kernel
theorem dL_law_304 : decode cL_law 304 = .ok (.if_icmp .eq 882, 3) := by decide +kernel
theorem dL_law_307 : decode cL_law 307 = .ok (.iconst 0, 1) := by decide +kernel
theorem dL_law_308 : decode cL_law 308 = .ok (.ireturn, 1) := by decide +kernel
theorem dL_law_309 : decode cL_law 309 = .ok (.aload_n 1, 1) := by decide +kernel
theorem dL_law_310 : decode cL_law 310 = .ok (.aload_n 0, 1) := by decide +kernel
theorem dL_law_311 : decode cL_law 311 = .ok (.iload_n 3, 1) := by decide +kernel
theorem dL_law_312 : decode cL_law 312 = .ok (.iconst 1, 1) := by decide +kernel
theorem dL_law_313 : decode cL_law 313 = .ok (.iadd, 1) := by decide +kernel
theorem dL_law_314 : decode cL_law 314 = .ok (.iaload, 1) := by decide +kernel
theorem dL_law_315 : decode cL_law 315 = .ok (.aload_n 0, 1) := by decide +kernel
theorem dL_law_316 : decode cL_law 316 = .ok (.iload_n 3, 1) := by decide +kernel
theorem dL_law_317 : decode cL_law 317 = .ok (.iconst 2, 1) := by decide +kernel
theorem dL_law_318 : decode cL_law 318 = .ok (.iadd, 1) := by decide +kernel
theorem dL_law_319 : decode cL_law 319 = .ok (.iaload, 1) := by decide +kernel
theorem dL_law_320 : decode cL_law 320 = .ok (.invokevirtual 28, 3) := by decide +kernel
theorem dL_law_323 : decode cL_law 323 = .ok (.aload_n 2, 1) := by decide +kernel
theorem dL_law_324 : decode cL_law 324 = .ok (.aload_n 0, 1) := by decide +kernel
theorem dL_law_325 : decode cL_law 325 = .ok (.iload_n 3, 1) := by decide +kernel
theorem dL_law_326 : decode cL_law 326 = .ok (.iconst 1, 1) := by decide +kernel
theorem dL_law_327 : decode cL_law 327 = .ok (.iadd, 1) := by decide +kernel
theorem dL_law_328 : decode cL_law 328 = .ok (.iaload, 1) := by decide +kernel
theorem dL_law_329 : decode cL_law 329 = .ok (.aload_n 0, 1) := by decide +kernel
theorem dL_law_330 : decode cL_law 330 = .ok (.iload_n 3, 1) := by decide +kernel
theorem dL_law_331 : decode cL_law 331 = .ok (.iconst 2, 1) := by decide +kernel
theorem dL_law_332 : decode cL_law 332 = .ok (.iadd, 1) := by decide +kernel
theorem dL_law_333 : decode cL_law 333 = .ok (.iaload, 1) := by decide +kernel
theorem dL_law_334 : decode cL_law 334 = .ok (.invokevirtual 31, 3) := by decide +kernel
theorem dL_law_337 : decode cL_law 337 = .ok (.if_icmp .eq 849, 3) := by decide +kernel
theorem dL_law_340 : decode cL_law 340 = .ok (.iconst 0, 1) := by decide +kernel
theorem dL_law_341 : decode cL_law 341 = .ok (.ireturn, 1) := by decide +kernel
theorem dL_law_342 : decode cL_law 342 = .ok (.aload_n 1, 1) := by decide +kernel
theorem dL_law_343 : decode cL_law 343 = .ok (.aload_n 0, 1) := by decide +kernel
theorem dL_law_344 : decode cL_law 344 = .ok (.iload_n 3, 1) := by decide +kernel
theorem dL_law_345 : decode cL_law 345 = .ok (.iconst 1, 1) := by decide +kernel
theorem dL_law_346 : decode cL_law 346 = .ok (.iadd, 1) := by decide +kernel
theorem dL_law_347 : decode cL_law 347 = .ok (.iaload, 1) := by decide +kernel
theorem dL_law_348 : decode cL_law 348 = .ok (.aload_n 0, 1) := by decide +kernel
theorem dL_law_349 : decode cL_law 349 = .ok (.iload_n 3, 1) := by decide +kernel
theorem dL_law_350 : decode cL_law 350 = .ok (.iconst 2, 1) := by decide +kernel
theorem dL_law_351 : decode cL_law 351 = .ok (.iadd, 1) := by decide +kernel
theorem dL_law_352 : decode cL_law 352 = .ok (.iaload, 1) := by decide +kernel
theorem dL_law_353 : decode cL_law 353 = .ok (.i2l, 1) := by decide +kernel
theorem dL_law_354 : decode cL_law 354 = .ok (.bipush 32, 2) := by decide +kernel
theorem dL_law_356 : decode cL_law 356 = .ok (.lshl, 1) := by decide +kernel
theorem dL_law_357 : decode cL_law 357 = .ok (.aload_n 0, 1) := by decide +kernel
theorem dL_law_358 : decode cL_law 358 = .ok (.iload_n 3, 1) := by decide +kernel
theorem dL_law_359 : decode cL_law 359 = .ok (.iconst 3, 1) := by decide +kernel
theorem dL_law_360 : decode cL_law 360 = .ok (.iadd, 1) := by decide +kernel
theorem dL_law_361 : decode cL_law 361 = .ok (.iaload, 1) := by decide +kernel
theorem dL_law_362 : decode cL_law 362 = .ok (.i2l, 1) := by decide +kernel
theorem dL_law_363 : decode cL_law 363 = .ok (.ldc2_w 32, 3) := by decide +kernel
theorem dL_law_366 : decode cL_law 366 = .ok (.land, 1) := by decide +kernel
theorem dL_law_367 : decode cL_law 367 = .ok (.lor, 1) := by decide +kernel
theorem dL_law_368 : decode cL_law 368 = .ok (.invokevirtual 34, 3) := by decide +kernel
theorem dL_law_371 : decode cL_law 371 = .ok (.aload_n 2, 1) := by decide +kernel
theorem dL_law_372 : decode cL_law 372 = .ok (.aload_n 0, 1) := by decide +kernel
theorem dL_law_373 : decode cL_law 373 = .ok (.iload_n 3, 1) := by decide +kernel
theorem dL_law_374 : decode cL_law 374 = .ok (.iconst 1, 1) := by decide +kernel
theorem dL_law_375 : decode cL_law 375 = .ok (.iadd, 1) := by decide +kernel
theorem dL_law_376 : decode cL_law 376 = .ok (.iaload, 1) := by decide +kernel
theorem dL_law_377 : decode cL_law 377 = .ok (.aload_n 0, 1) := by decide +kernel
theorem dL_law_378 : decode cL_law 378 = .ok (.iload_n 3, 1) := by decide +kernel
theorem dL_law_379 : decode cL_law 379 = .ok (.iconst 2, 1) := by decide +kernel
theorem dL_law_380 : decode cL_law 380 = .ok (.iadd, 1) := by decide +kernel
theorem dL_law_381 : decode cL_law 381 = .ok (.iaload, 1) := by decide +kernel
theorem dL_law_382 : decode cL_law 382 = .ok (.i2l, 1) := by decide +kernel
theorem dL_law_383 : decode cL_law 383 = .ok (.bipush 32, 2) := by decide +kernel
theorem dL_law_385 : decode cL_law 385 = .ok (.lshl, 1) := by decide +kernel
theorem dL_law_386 : decode cL_law 386 = .ok (.aload_n 0, 1) := by decide +kernel
theorem dL_law_387 : decode cL_law 387 = .ok (.iload_n 3, 1) := by decide +kernel
theorem dL_law_388 : decode cL_law 388 = .ok (.iconst 3, 1) := by decide +kernel
theorem dL_law_389 : decode cL_law 389 = .ok (.iadd, 1) := by decide +kernel
theorem dL_law_390 : decode cL_law 390 = .ok (.iaload, 1) := by decide +kernel
theorem dL_law_391 : decode cL_law 391 = .ok (.i2l, 1) := by decide +kernel
theorem dL_law_392 : decode cL_law 392 = .ok (.ldc2_w 32, 3) := by decide +kernel
theorem dL_law_395 : decode cL_law 395 = .ok (.land, 1) := by decide +kernel
theorem dL_law_396 : decode cL_law 396 = .ok (.lor, 1) := by decide +kernel
theorem dL_law_397 : decode cL_law 397 = .ok (.invokevirtual 38, 3) := by decide +kernel
theorem dL_law_400 : decode cL_law 400 = .ok (.if_icmp .eq 786, 3) := by decide +kernel
theorem dL_law_403 : decode cL_law 403 = .ok (.iconst 0, 1) := by decide +kernel
theorem dL_law_404 : decode cL_law 404 = .ok (.ireturn, 1) := by decide +kernel
theorem dL_law_405 : decode cL_law 405 = .ok (.aload_n 1, 1) := by decide +kernel
theorem dL_law_406 : decode cL_law 406 = .ok (.aload_n 0, 1) := by decide +kernel
theorem dL_law_407 : decode cL_law 407 = .ok (.iload_n 3, 1) := by decide +kernel
theorem dL_law_408 : decode cL_law 408 = .ok (.iconst 1, 1) := by decide +kernel
theorem dL_law_409 : decode cL_law 409 = .ok (.iadd, 1) := by decide +kernel
theorem dL_law_410 : decode cL_law 410 = .ok (.iaload, 1) := by decide +kernel
theorem dL_law_411 : decode cL_law 411 = .ok (.aload_n 0, 1) := by decide +kernel
theorem dL_law_412 : decode cL_law 412 = .ok (.iload_n 3, 1) := by decide +kernel
theorem dL_law_413 : decode cL_law 413 = .ok (.iconst 2, 1) := by decide +kernel
theorem dL_law_414 : decode cL_law 414 = .ok (.iadd, 1) := by decide +kernel
theorem dL_law_415 : decode cL_law 415 = .ok (.iaload, 1) := by decide +kernel
theorem dL_law_416 : decode cL_law 416 = .ok (.invokevirtual 39, 3) := by decide +kernel
theorem dL_law_419 : decode cL_law 419 = .ok (.aload_n 2, 1) := by decide +kernel
theorem dL_law_420 : decode cL_law 420 = .ok (.aload_n 0, 1) := by decide +kernel
theorem dL_law_421 : decode cL_law 421 = .ok (.iload_n 3, 1) := by decide +kernel
theorem dL_law_422 : decode cL_law 422 = .ok (.iconst 1, 1) := by decide +kernel
theorem dL_law_423 : decode cL_law 423 = .ok (.iadd, 1) := by decide +kernel
theorem dL_law_424 : decode cL_law 424 = .ok (.iaload, 1) := by decide +kernel
theorem dL_law_425 : decode cL_law 425 = .ok (.aload_n 0, 1) := by decide +kernel
theorem dL_law_426 : decode cL_law 426 = .ok (.iload_n 3, 1) := by decide +kernel
theorem dL_law_427 : decode cL_law 427 = .ok (.iconst 2, 1) := by decide +kernel
theorem dL_law_428 : decode cL_law 428 = .ok (.iadd, 1) := by decide +kernel
theorem dL_law_429 : decode cL_law 429 = .ok (.iaload, 1) := by decide +kernel
theorem dL_law_430 : decode cL_law 430 = .ok (.invokevirtual 42, 3) := by decide +kernel
theorem dL_law_433 : decode cL_law 433 = .ok (.if_icmp .eq 753, 3) := by decide +kernel
theorem dL_law_436 : decode cL_law 436 = .ok (.iconst 0, 1) := by decide +kernel
theorem dL_law_437 : decode cL_law 437 = .ok (.ireturn, 1) := by decide +kernel
theorem dL_law_438 : decode cL_law 438 = .ok (.aload_n 1, 1) := by decide +kernel
theorem dL_law_439 : decode cL_law 439 = .ok (.aload_n 0, 1) := by decide +kernel
theorem dL_law_440 : decode cL_law 440 = .ok (.iload_n 3, 1) := by decide +kernel
theorem dL_law_441 : decode cL_law 441 = .ok (.iconst 1, 1) := by decide +kernel
theorem dL_law_442 : decode cL_law 442 = .ok (.iadd, 1) := by decide +kernel
theorem dL_law_443 : decode cL_law 443 = .ok (.iaload, 1) := by decide +kernel
theorem dL_law_444 : decode cL_law 444 = .ok (.aload_n 0, 1) := by decide +kernel
theorem dL_law_445 : decode cL_law 445 = .ok (.iload_n 3, 1) := by decide +kernel
theorem dL_law_446 : decode cL_law 446 = .ok (.iconst 2, 1) := by decide +kernel
theorem dL_law_447 : decode cL_law 447 = .ok (.iadd, 1) := by decide +kernel
theorem dL_law_448 : decode cL_law 448 = .ok (.iaload, 1) := by decide +kernel
theorem dL_law_449 : decode cL_law 449 = .ok (.invokevirtual 43, 3) := by decide +kernel
theorem dL_law_452 : decode cL_law 452 = .ok (.aload_n 2, 1) := by decide +kernel
theorem dL_law_453 : decode cL_law 453 = .ok (.aload_n 0, 1) := by decide +kernel
theorem dL_law_454 : decode cL_law 454 = .ok (.iload_n 3, 1) := by decide +kernel
theorem dL_law_455 : decode cL_law 455 = .ok (.iconst 1, 1) := by decide +kernel
theorem dL_law_456 : decode cL_law 456 = .ok (.iadd, 1) := by decide +kernel
theorem dL_law_457 : decode cL_law 457 = .ok (.iaload, 1) := by decide +kernel
theorem dL_law_458 : decode cL_law 458 = .ok (.aload_n 0, 1) := by decide +kernel
theorem dL_law_459 : decode cL_law 459 = .ok (.iload_n 3, 1) := by decide +kernel
theorem dL_law_460 : decode cL_law 460 = .ok (.iconst 2, 1) := by decide +kernel
theorem dL_law_461 : decode cL_law 461 = .ok (.iadd, 1) := by decide +kernel
theorem dL_law_462 : decode cL_law 462 = .ok (.iaload, 1) := by decide +kernel
theorem dL_law_463 : decode cL_law 463 = .ok (.invokevirtual 46, 3) := by decide +kernel
theorem dL_law_466 : decode cL_law 466 = .ok (.if_icmp .eq 720, 3) := by decide +kernel
theorem dL_law_469 : decode cL_law 469 = .ok (.iconst 0, 1) := by decide +kernel
theorem dL_law_470 : decode cL_law 470 = .ok (.ireturn, 1) := by decide +kernel
theorem dL_law_471 : decode cL_law 471 = .ok (.aload_n 1, 1) := by decide +kernel
theorem dL_law_472 : decode cL_law 472 = .ok (.aload_n 0, 1) := by decide +kernel
theorem dL_law_473 : decode cL_law 473 = .ok (.iload_n 3, 1) := by decide +kernel
theorem dL_law_474 : decode cL_law 474 = .ok (.iconst 1, 1) := by decide +kernel
theorem dL_law_475 : decode cL_law 475 = .ok (.iadd, 1) := by decide +kernel
theorem dL_law_476 : decode cL_law 476 = .ok (.iaload, 1) := by decide +kernel
theorem dL_law_477 : decode cL_law 477 = .ok (.aload_n 0, 1) := by decide +kernel
theorem dL_law_478 : decode cL_law 478 = .ok (.iload_n 3, 1) := by decide +kernel
theorem dL_law_479 : decode cL_law 479 = .ok (.iconst 2, 1) := by decide +kernel
theorem dL_law_480 : decode cL_law 480 = .ok (.iadd, 1) := by decide +kernel
theorem dL_law_481 : decode cL_law 481 = .ok (.iaload, 1) := by decide +kernel
theorem dL_law_482 : decode cL_law 482 = .ok (.invokevirtual 47, 3) := by decide +kernel
theorem dL_law_485 : decode cL_law 485 = .ok (.aload_n 2, 1) := by decide +kernel
theorem dL_law_486 : decode cL_law 486 = .ok (.aload_n 0, 1) := by decide +kernel
theorem dL_law_487 : decode cL_law 487 = .ok (.iload_n 3, 1) := by decide +kernel
theorem dL_law_488 : decode cL_law 488 = .ok (.iconst 1, 1) := by decide +kernel
theorem dL_law_489 : decode cL_law 489 = .ok (.iadd, 1) := by decide +kernel
theorem dL_law_490 : decode cL_law 490 = .ok (.iaload, 1) := by decide +kernel
theorem dL_law_491 : decode cL_law 491 = .ok (.aload_n 0, 1) := by decide +kernel
theorem dL_law_492 : decode cL_law 492 = .ok (.iload_n 3, 1) := by decide +kernel
theorem dL_law_493 : decode cL_law 493 = .ok (.iconst 2, 1) := by decide +kernel
theorem dL_law_494 : decode cL_law 494 = .ok (.iadd, 1) := by decide +kernel
theorem dL_law_495 : decode cL_law 495 = .ok (.iaload, 1) := by decide +kernel
theorem dL_law_496 : decode cL_law 496 = .ok (.invokevirtual 50, 3) := by decide +kernel
theorem dL_law_499 : decode cL_law 499 = .ok (.if_icmp .eq 687, 3) := by decide +kernel
theorem dL_law_502 : decode cL_law 502 = .ok (.iconst 0, 1) := by decide +kernel
theorem dL_law_503 : decode cL_law 503 = .ok (.ireturn, 1) := by decide +kernel
theorem dL_law_504 : decode cL_law 504 = .ok (.aload_n 1, 1) := by decide +kernel
theorem dL_law_505 : decode cL_law 505 = .ok (.aload_n 0, 1) := by decide +kernel
theorem dL_law_506 : decode cL_law 506 = .ok (.iload_n 3, 1) := by decide +kernel
theorem dL_law_507 : decode cL_law 507 = .ok (.iconst 1, 1) := by decide +kernel
theorem dL_law_508 : decode cL_law 508 = .ok (.iadd, 1) := by decide +kernel
theorem dL_law_509 : decode cL_law 509 = .ok (.iaload, 1) := by decide +kernel
theorem dL_law_510 : decode cL_law 510 = .ok (.invokevirtual 51, 3) := by decide +kernel
theorem dL_law_513 : decode cL_law 513 = .ok (.aload_n 2, 1) := by decide +kernel
theorem dL_law_514 : decode cL_law 514 = .ok (.aload_n 0, 1) := by decide +kernel
theorem dL_law_515 : decode cL_law 515 = .ok (.iload_n 3, 1) := by decide +kernel
theorem dL_law_516 : decode cL_law 516 = .ok (.iconst 1, 1) := by decide +kernel
theorem dL_law_517 : decode cL_law 517 = .ok (.iadd, 1) := by decide +kernel
theorem dL_law_518 : decode cL_law 518 = .ok (.iaload, 1) := by decide +kernel
theorem dL_law_519 : decode cL_law 519 = .ok (.invokevirtual 55, 3) := by decide +kernel
theorem dL_law_522 : decode cL_law 522 = .ok (.if_icmp .eq 664, 3) := by decide +kernel
theorem dL_law_525 : decode cL_law 525 = .ok (.iconst 0, 1) := by decide +kernel
theorem dL_law_526 : decode cL_law 526 = .ok (.ireturn, 1) := by decide +kernel
theorem dL_law_527 : decode cL_law 527 = .ok (.aload_n 1, 1) := by decide +kernel
theorem dL_law_528 : decode cL_law 528 = .ok (.aload_n 0, 1) := by decide +kernel
theorem dL_law_529 : decode cL_law 529 = .ok (.iload_n 3, 1) := by decide +kernel
theorem dL_law_530 : decode cL_law 530 = .ok (.iconst 1, 1) := by decide +kernel
theorem dL_law_531 : decode cL_law 531 = .ok (.iadd, 1) := by decide +kernel
theorem dL_law_532 : decode cL_law 532 = .ok (.iaload, 1) := by decide +kernel
theorem dL_law_533 : decode cL_law 533 = .ok (.aload_n 0, 1) := by decide +kernel
theorem dL_law_534 : decode cL_law 534 = .ok (.iload_n 3, 1) := by decide +kernel
theorem dL_law_535 : decode cL_law 535 = .ok (.iconst 2, 1) := by decide +kernel
theorem dL_law_536 : decode cL_law 536 = .ok (.iadd, 1) := by decide +kernel
theorem dL_law_537 : decode cL_law 537 = .ok (.iaload, 1) := by decide +kernel
theorem dL_law_538 : decode cL_law 538 = .ok (.invokevirtual 56, 3) := by decide +kernel
theorem dL_law_541 : decode cL_law 541 = .ok (.aload_n 2, 1) := by decide +kernel
theorem dL_law_542 : decode cL_law 542 = .ok (.aload_n 0, 1) := by decide +kernel
theorem dL_law_543 : decode cL_law 543 = .ok (.iload_n 3, 1) := by decide +kernel
theorem dL_law_544 : decode cL_law 544 = .ok (.iconst 1, 1) := by decide +kernel
theorem dL_law_545 : decode cL_law 545 = .ok (.iadd, 1) := by decide +kernel
theorem dL_law_546 : decode cL_law 546 = .ok (.iaload, 1) := by decide +kernel
theorem dL_law_547 : decode cL_law 547 = .ok (.aload_n 0, 1) := by decide +kernel
theorem dL_law_548 : decode cL_law 548 = .ok (.iload_n 3, 1) := by decide +kernel
theorem dL_law_549 : decode cL_law 549 = .ok (.iconst 2, 1) := by decide +kernel
theorem dL_law_550 : decode cL_law 550 = .ok (.iadd, 1) := by decide +kernel
theorem dL_law_551 : decode cL_law 551 = .ok (.iaload, 1) := by decide +kernel
theorem dL_law_552 : decode cL_law 552 = .ok (.invokevirtual 59, 3) := by decide +kernel
theorem dL_law_555 : decode cL_law 555 = .ok (.if_icmp .eq 631, 3) := by decide +kernel
theorem dL_law_558 : decode cL_law 558 = .ok (.iconst 0, 1) := by decide +kernel
theorem dL_law_559 : decode cL_law 559 = .ok (.ireturn, 1) := by decide +kernel
theorem dL_law_560 : decode cL_law 560 = .ok (.aload_n 1, 1) := by decide +kernel
theorem dL_law_561 : decode cL_law 561 = .ok (.aload_n 0, 1) := by decide +kernel
theorem dL_law_562 : decode cL_law 562 = .ok (.iload_n 3, 1) := by decide +kernel
theorem dL_law_563 : decode cL_law 563 = .ok (.iconst 1, 1) := by decide +kernel
theorem dL_law_564 : decode cL_law 564 = .ok (.iadd, 1) := by decide +kernel
theorem dL_law_565 : decode cL_law 565 = .ok (.iaload, 1) := by decide +kernel
theorem dL_law_566 : decode cL_law 566 = .ok (.invokevirtual 60, 3) := by decide +kernel
theorem dL_law_569 : decode cL_law 569 = .ok (.aload_n 2, 1) := by decide +kernel
theorem dL_law_570 : decode cL_law 570 = .ok (.aload_n 0, 1) := by decide +kernel
theorem dL_law_571 : decode cL_law 571 = .ok (.iload_n 3, 1) := by decide +kernel
theorem dL_law_572 : decode cL_law 572 = .ok (.iconst 1, 1) := by decide +kernel
theorem dL_law_573 : decode cL_law 573 = .ok (.iadd, 1) := by decide +kernel
theorem dL_law_574 : decode cL_law 574 = .ok (.iaload, 1) := by decide +kernel
theorem dL_law_575 : decode cL_law 575 = .ok (.invokevirtual 63, 3) := by decide +kernel
theorem dL_law_578 : decode cL_law 578 = .ok (.if_icmp .eq 608, 3) := by decide +kernel
theorem dL_law_581 : decode cL_law 581 = .ok (.iconst 0, 1) := by decide +kernel
theorem dL_law_582 : decode cL_law 582 = .ok (.ireturn, 1) := by decide +kernel
theorem dL_law_583 : decode cL_law 583 = .ok (.aload_n 1, 1) := by decide +kernel
theorem dL_law_584 : decode cL_law 584 = .ok (.aload_n 0, 1) := by decide +kernel
theorem dL_law_585 : decode cL_law 585 = .ok (.iload_n 3, 1) := by decide +kernel
theorem dL_law_586 : decode cL_law 586 = .ok (.iconst 1, 1) := by decide +kernel
theorem dL_law_587 : decode cL_law 587 = .ok (.iadd, 1) := by decide +kernel
theorem dL_law_588 : decode cL_law 588 = .ok (.iaload, 1) := by decide +kernel
theorem dL_law_589 : decode cL_law 589 = .ok (.invokevirtual 64, 3) := by decide +kernel
theorem dL_law_592 : decode cL_law 592 = .ok (.aload_n 2, 1) := by decide +kernel
theorem dL_law_593 : decode cL_law 593 = .ok (.aload_n 0, 1) := by decide +kernel
theorem dL_law_594 : decode cL_law 594 = .ok (.iload_n 3, 1) := by decide +kernel
theorem dL_law_595 : decode cL_law 595 = .ok (.iconst 1, 1) := by decide +kernel
theorem dL_law_596 : decode cL_law 596 = .ok (.iadd, 1) := by decide +kernel
theorem dL_law_597 : decode cL_law 597 = .ok (.iaload, 1) := by decide +kernel
theorem dL_law_598 : decode cL_law 598 = .ok (.invokevirtual 67, 3) := by decide +kernel
theorem dL_law_601 : decode cL_law 601 = .ok (.if_icmp .eq 585, 3) := by decide +kernel
theorem dL_law_604 : decode cL_law 604 = .ok (.iconst 0, 1) := by decide +kernel
theorem dL_law_605 : decode cL_law 605 = .ok (.ireturn, 1) := by decide +kernel
theorem dL_law_606 : decode cL_law 606 = .ok (.aload_n 1, 1) := by decide +kernel
theorem dL_law_607 : decode cL_law 607 = .ok (.aload_n 0, 1) := by decide +kernel
theorem dL_law_608 : decode cL_law 608 = .ok (.iload_n 3, 1) := by decide +kernel
theorem dL_law_609 : decode cL_law 609 = .ok (.iconst 1, 1) := by decide +kernel
theorem dL_law_610 : decode cL_law 610 = .ok (.iadd, 1) := by decide +kernel
theorem dL_law_611 : decode cL_law 611 = .ok (.iaload, 1) := by decide +kernel
theorem dL_law_612 : decode cL_law 612 = .ok (.aload_n 0, 1) := by decide +kernel
theorem dL_law_613 : decode cL_law 613 = .ok (.iload_n 3, 1) := by decide +kernel
theorem dL_law_614 : decode cL_law 614 = .ok (.iconst 2, 1) := by decide +kernel
theorem dL_law_615 : decode cL_law 615 = .ok (.iadd, 1) := by decide +kernel
theorem dL_law_616 : decode cL_law 616 = .ok (.iaload, 1) := by decide +kernel
theorem dL_law_617 : decode cL_law 617 = .ok (.invokevirtual 68, 3) := by decide +kernel
theorem dL_law_620 : decode cL_law 620 = .ok (.aload_n 2, 1) := by decide +kernel
theorem dL_law_621 : decode cL_law 621 = .ok (.aload_n 0, 1) := by decide +kernel
theorem dL_law_622 : decode cL_law 622 = .ok (.iload_n 3, 1) := by decide +kernel
theorem dL_law_623 : decode cL_law 623 = .ok (.iconst 1, 1) := by decide +kernel
theorem dL_law_624 : decode cL_law 624 = .ok (.iadd, 1) := by decide +kernel
theorem dL_law_625 : decode cL_law 625 = .ok (.iaload, 1) := by decide +kernel
theorem dL_law_626 : decode cL_law 626 = .ok (.aload_n 0, 1) := by decide +kernel
theorem dL_law_627 : decode cL_law 627 = .ok (.iload_n 3, 1) := by decide +kernel
theorem dL_law_628 : decode cL_law 628 = .ok (.iconst 2, 1) := by decide +kernel
theorem dL_law_629 : decode cL_law 629 = .ok (.iadd, 1) := by decide +kernel
theorem dL_law_630 : decode cL_law 630 = .ok (.iaload, 1) := by decide +kernel
theorem dL_law_631 : decode cL_law 631 = .ok (.invokevirtual 71, 3) := by decide +kernel
theorem dL_law_634 : decode cL_law 634 = .ok (.if_icmp .eq 552, 3) := by decide +kernel
theorem dL_law_637 : decode cL_law 637 = .ok (.iconst 0, 1) := by decide +kernel
theorem dL_law_638 : decode cL_law 638 = .ok (.ireturn, 1) := by decide +kernel
theorem dL_law_639 : decode cL_law 639 = .ok (.aload_n 1, 1) := by decide +kernel
theorem dL_law_640 : decode cL_law 640 = .ok (.aload_n 0, 1) := by decide +kernel
theorem dL_law_641 : decode cL_law 641 = .ok (.iload_n 3, 1) := by decide +kernel
theorem dL_law_642 : decode cL_law 642 = .ok (.iconst 1, 1) := by decide +kernel
theorem dL_law_643 : decode cL_law 643 = .ok (.iadd, 1) := by decide +kernel
theorem dL_law_644 : decode cL_law 644 = .ok (.iaload, 1) := by decide +kernel
theorem dL_law_645 : decode cL_law 645 = .ok (.aload_n 0, 1) := by decide +kernel
theorem dL_law_646 : decode cL_law 646 = .ok (.iload_n 3, 1) := by decide +kernel
theorem dL_law_647 : decode cL_law 647 = .ok (.iconst 2, 1) := by decide +kernel
theorem dL_law_648 : decode cL_law 648 = .ok (.iadd, 1) := by decide +kernel
theorem dL_law_649 : decode cL_law 649 = .ok (.iaload, 1) := by decide +kernel
theorem dL_law_650 : decode cL_law 650 = .ok (.invokevirtual 72, 3) := by decide +kernel
theorem dL_law_653 : decode cL_law 653 = .ok (.aload_n 2, 1) := by decide +kernel
theorem dL_law_654 : decode cL_law 654 = .ok (.aload_n 0, 1) := by decide +kernel
theorem dL_law_655 : decode cL_law 655 = .ok (.iload_n 3, 1) := by decide +kernel
theorem dL_law_656 : decode cL_law 656 = .ok (.iconst 1, 1) := by decide +kernel
theorem dL_law_657 : decode cL_law 657 = .ok (.iadd, 1) := by decide +kernel
theorem dL_law_658 : decode cL_law 658 = .ok (.iaload, 1) := by decide +kernel
theorem dL_law_659 : decode cL_law 659 = .ok (.aload_n 0, 1) := by decide +kernel
theorem dL_law_660 : decode cL_law 660 = .ok (.iload_n 3, 1) := by decide +kernel
theorem dL_law_661 : decode cL_law 661 = .ok (.iconst 2, 1) := by decide +kernel
theorem dL_law_662 : decode cL_law 662 = .ok (.iadd, 1) := by decide +kernel
theorem dL_law_663 : decode cL_law 663 = .ok (.iaload, 1) := by decide +kernel
theorem dL_law_664 : decode cL_law 664 = .ok (.invokevirtual 75, 3) := by decide +kernel
theorem dL_law_667 : decode cL_law 667 = .ok (.if_icmp .eq 519, 3) := by decide +kernel
theorem dL_law_670 : decode cL_law 670 = .ok (.iconst 0, 1) := by decide +kernel
theorem dL_law_671 : decode cL_law 671 = .ok (.ireturn, 1) := by decide +kernel
theorem dL_law_672 : decode cL_law 672 = .ok (.aload_n 1, 1) := by decide +kernel
theorem dL_law_673 : decode cL_law 673 = .ok (.aload_n 0, 1) := by decide +kernel
theorem dL_law_674 : decode cL_law 674 = .ok (.iload_n 3, 1) := by decide +kernel
theorem dL_law_675 : decode cL_law 675 = .ok (.iconst 1, 1) := by decide +kernel
theorem dL_law_676 : decode cL_law 676 = .ok (.iadd, 1) := by decide +kernel
theorem dL_law_677 : decode cL_law 677 = .ok (.iaload, 1) := by decide +kernel
theorem dL_law_678 : decode cL_law 678 = .ok (.invokevirtual 76, 3) := by decide +kernel
theorem dL_law_681 : decode cL_law 681 = .ok (.aload_n 2, 1) := by decide +kernel
theorem dL_law_682 : decode cL_law 682 = .ok (.aload_n 0, 1) := by decide +kernel
theorem dL_law_683 : decode cL_law 683 = .ok (.iload_n 3, 1) := by decide +kernel
theorem dL_law_684 : decode cL_law 684 = .ok (.iconst 1, 1) := by decide +kernel
theorem dL_law_685 : decode cL_law 685 = .ok (.iadd, 1) := by decide +kernel
theorem dL_law_686 : decode cL_law 686 = .ok (.iaload, 1) := by decide +kernel
theorem dL_law_687 : decode cL_law 687 = .ok (.invokevirtual 79, 3) := by decide +kernel
theorem dL_law_690 : decode cL_law 690 = .ok (.if_icmp .eq 496, 3) := by decide +kernel
theorem dL_law_693 : decode cL_law 693 = .ok (.iconst 0, 1) := by decide +kernel
theorem dL_law_694 : decode cL_law 694 = .ok (.ireturn, 1) := by decide +kernel
theorem dL_law_695 : decode cL_law 695 = .ok (.aload_n 1, 1) := by decide +kernel
theorem dL_law_696 : decode cL_law 696 = .ok (.aload_n 0, 1) := by decide +kernel
theorem dL_law_697 : decode cL_law 697 = .ok (.iload_n 3, 1) := by decide +kernel
theorem dL_law_698 : decode cL_law 698 = .ok (.iconst 1, 1) := by decide +kernel
theorem dL_law_699 : decode cL_law 699 = .ok (.iadd, 1) := by decide +kernel
theorem dL_law_700 : decode cL_law 700 = .ok (.iaload, 1) := by decide +kernel
theorem dL_law_701 : decode cL_law 701 = .ok (.invokevirtual 80, 3) := by decide +kernel
theorem dL_law_704 : decode cL_law 704 = .ok (.aload_n 2, 1) := by decide +kernel
theorem dL_law_705 : decode cL_law 705 = .ok (.aload_n 0, 1) := by decide +kernel
theorem dL_law_706 : decode cL_law 706 = .ok (.iload_n 3, 1) := by decide +kernel
theorem dL_law_707 : decode cL_law 707 = .ok (.iconst 1, 1) := by decide +kernel
theorem dL_law_708 : decode cL_law 708 = .ok (.iadd, 1) := by decide +kernel
theorem dL_law_709 : decode cL_law 709 = .ok (.iaload, 1) := by decide +kernel
theorem dL_law_710 : decode cL_law 710 = .ok (.invokevirtual 83, 3) := by decide +kernel
theorem dL_law_713 : decode cL_law 713 = .ok (.if_icmp .eq 473, 3) := by decide +kernel
theorem dL_law_716 : decode cL_law 716 = .ok (.iconst 0, 1) := by decide +kernel
theorem dL_law_717 : decode cL_law 717 = .ok (.ireturn, 1) := by decide +kernel
theorem dL_law_718 : decode cL_law 718 = .ok (.aload_n 1, 1) := by decide +kernel
theorem dL_law_719 : decode cL_law 719 = .ok (.invokevirtual 84, 3) := by decide +kernel
theorem dL_law_722 : decode cL_law 722 = .ok (.aload_n 2, 1) := by decide +kernel
theorem dL_law_723 : decode cL_law 723 = .ok (.invokevirtual 87, 3) := by decide +kernel
theorem dL_law_726 : decode cL_law 726 = .ok (.if_icmp .eq 460, 3) := by decide +kernel
theorem dL_law_729 : decode cL_law 729 = .ok (.iconst 0, 1) := by decide +kernel
theorem dL_law_730 : decode cL_law 730 = .ok (.ireturn, 1) := by decide +kernel
theorem dL_law_731 : decode cL_law 731 = .ok (.aload_n 1, 1) := by decide +kernel
theorem dL_law_732 : decode cL_law 732 = .ok (.aload_n 0, 1) := by decide +kernel
theorem dL_law_733 : decode cL_law 733 = .ok (.iload_n 3, 1) := by decide +kernel
theorem dL_law_734 : decode cL_law 734 = .ok (.iconst 1, 1) := by decide +kernel
theorem dL_law_735 : decode cL_law 735 = .ok (.iadd, 1) := by decide +kernel
theorem dL_law_736 : decode cL_law 736 = .ok (.iaload, 1) := by decide +kernel
theorem dL_law_737 : decode cL_law 737 = .ok (.invokevirtual 88, 3) := by decide +kernel
theorem dL_law_740 : decode cL_law 740 = .ok (.aload_n 2, 1) := by decide +kernel
theorem dL_law_741 : decode cL_law 741 = .ok (.aload_n 0, 1) := by decide +kernel
theorem dL_law_742 : decode cL_law 742 = .ok (.iload_n 3, 1) := by decide +kernel
theorem dL_law_743 : decode cL_law 743 = .ok (.iconst 1, 1) := by decide +kernel
theorem dL_law_744 : decode cL_law 744 = .ok (.iadd, 1) := by decide +kernel
theorem dL_law_745 : decode cL_law 745 = .ok (.iaload, 1) := by decide +kernel
theorem dL_law_746 : decode cL_law 746 = .ok (.invokevirtual 91, 3) := by decide +kernel
theorem dL_law_749 : decode cL_law 749 = .ok (.if_icmp .eq 437, 3) := by decide +kernel
theorem dL_law_752 : decode cL_law 752 = .ok (.iconst 0, 1) := by decide +kernel
theorem dL_law_753 : decode cL_law 753 = .ok (.ireturn, 1) := by decide +kernel
theorem dL_law_754 : decode cL_law 754 = .ok (.aload_n 1, 1) := by decide +kernel
theorem dL_law_755 : decode cL_law 755 = .ok (.aload_n 0, 1) := by decide +kernel
theorem dL_law_756 : decode cL_law 756 = .ok (.iload_n 3, 1) := by decide +kernel
theorem dL_law_757 : decode cL_law 757 = .ok (.iconst 1, 1) := by decide +kernel
theorem dL_law_758 : decode cL_law 758 = .ok (.iadd, 1) := by decide +kernel
theorem dL_law_759 : decode cL_law 759 = .ok (.iaload, 1) := by decide +kernel
theorem dL_law_760 : decode cL_law 760 = .ok (.invokevirtual 92, 3) := by decide +kernel
theorem dL_law_763 : decode cL_law 763 = .ok (.aload_n 2, 1) := by decide +kernel
theorem dL_law_764 : decode cL_law 764 = .ok (.aload_n 0, 1) := by decide +kernel
theorem dL_law_765 : decode cL_law 765 = .ok (.iload_n 3, 1) := by decide +kernel
theorem dL_law_766 : decode cL_law 766 = .ok (.iconst 1, 1) := by decide +kernel
theorem dL_law_767 : decode cL_law 767 = .ok (.iadd, 1) := by decide +kernel
theorem dL_law_768 : decode cL_law 768 = .ok (.iaload, 1) := by decide +kernel
theorem dL_law_769 : decode cL_law 769 = .ok (.invokevirtual 95, 3) := by decide +kernel
theorem dL_law_772 : decode cL_law 772 = .ok (.if_icmp .eq 414, 3) := by decide +kernel
theorem dL_law_775 : decode cL_law 775 = .ok (.iconst 0, 1) := by decide +kernel
theorem dL_law_776 : decode cL_law 776 = .ok (.ireturn, 1) := by decide +kernel
theorem dL_law_777 : decode cL_law 777 = .ok (.aload_n 1, 1) := by decide +kernel
theorem dL_law_778 : decode cL_law 778 = .ok (.invokevirtual 96, 3) := by decide +kernel
theorem dL_law_781 : decode cL_law 781 = .ok (.aload_n 2, 1) := by decide +kernel
theorem dL_law_782 : decode cL_law 782 = .ok (.invokevirtual 100, 3) := by decide +kernel
theorem dL_law_785 : decode cL_law 785 = .ok (.lcmp, 1) := by decide +kernel
theorem dL_law_786 : decode cL_law 786 = .ok (.ifCond .eq 400, 3) := by decide +kernel
theorem dL_law_789 : decode cL_law 789 = .ok (.iconst 0, 1) := by decide +kernel
theorem dL_law_790 : decode cL_law 790 = .ok (.ireturn, 1) := by decide +kernel
theorem dL_law_791 : decode cL_law 791 = .ok (.aload_n 1, 1) := by decide +kernel
theorem dL_law_792 : decode cL_law 792 = .ok (.aload_n 0, 1) := by decide +kernel
theorem dL_law_793 : decode cL_law 793 = .ok (.iload_n 3, 1) := by decide +kernel
theorem dL_law_794 : decode cL_law 794 = .ok (.iconst 1, 1) := by decide +kernel
theorem dL_law_795 : decode cL_law 795 = .ok (.iadd, 1) := by decide +kernel
theorem dL_law_796 : decode cL_law 796 = .ok (.iaload, 1) := by decide +kernel
theorem dL_law_797 : decode cL_law 797 = .ok (.invokevirtual 101, 3) := by decide +kernel
theorem dL_law_800 : decode cL_law 800 = .ok (.aload_n 2, 1) := by decide +kernel
theorem dL_law_801 : decode cL_law 801 = .ok (.aload_n 0, 1) := by decide +kernel
theorem dL_law_802 : decode cL_law 802 = .ok (.iload_n 3, 1) := by decide +kernel
theorem dL_law_803 : decode cL_law 803 = .ok (.iconst 1, 1) := by decide +kernel
theorem dL_law_804 : decode cL_law 804 = .ok (.iadd, 1) := by decide +kernel
theorem dL_law_805 : decode cL_law 805 = .ok (.iaload, 1) := by decide +kernel
theorem dL_law_806 : decode cL_law 806 = .ok (.invokevirtual 104, 3) := by decide +kernel
theorem dL_law_809 : decode cL_law 809 = .ok (.if_icmp .eq 377, 3) := by decide +kernel
theorem dL_law_812 : decode cL_law 812 = .ok (.iconst 0, 1) := by decide +kernel
theorem dL_law_813 : decode cL_law 813 = .ok (.ireturn, 1) := by decide +kernel
theorem dL_law_814 : decode cL_law 814 = .ok (.aload_n 1, 1) := by decide +kernel
theorem dL_law_815 : decode cL_law 815 = .ok (.aload_n 0, 1) := by decide +kernel
theorem dL_law_816 : decode cL_law 816 = .ok (.iload_n 3, 1) := by decide +kernel
theorem dL_law_817 : decode cL_law 817 = .ok (.iconst 1, 1) := by decide +kernel
theorem dL_law_818 : decode cL_law 818 = .ok (.iadd, 1) := by decide +kernel
theorem dL_law_819 : decode cL_law 819 = .ok (.iaload, 1) := by decide +kernel
theorem dL_law_820 : decode cL_law 820 = .ok (.invokevirtual 105, 3) := by decide +kernel
theorem dL_law_823 : decode cL_law 823 = .ok (.aload_n 2, 1) := by decide +kernel
theorem dL_law_824 : decode cL_law 824 = .ok (.aload_n 0, 1) := by decide +kernel
theorem dL_law_825 : decode cL_law 825 = .ok (.iload_n 3, 1) := by decide +kernel
theorem dL_law_826 : decode cL_law 826 = .ok (.iconst 1, 1) := by decide +kernel
theorem dL_law_827 : decode cL_law 827 = .ok (.iadd, 1) := by decide +kernel
theorem dL_law_828 : decode cL_law 828 = .ok (.iaload, 1) := by decide +kernel
theorem dL_law_829 : decode cL_law 829 = .ok (.invokevirtual 108, 3) := by decide +kernel
theorem dL_law_832 : decode cL_law 832 = .ok (.if_icmp .eq 354, 3) := by decide +kernel
theorem dL_law_835 : decode cL_law 835 = .ok (.iconst 0, 1) := by decide +kernel
theorem dL_law_836 : decode cL_law 836 = .ok (.ireturn, 1) := by decide +kernel
theorem dL_law_837 : decode cL_law 837 = .ok (.aload_n 1, 1) := by decide +kernel
theorem dL_law_838 : decode cL_law 838 = .ok (.aload_n 0, 1) := by decide +kernel
theorem dL_law_839 : decode cL_law 839 = .ok (.iload_n 3, 1) := by decide +kernel
theorem dL_law_840 : decode cL_law 840 = .ok (.iconst 1, 1) := by decide +kernel
theorem dL_law_841 : decode cL_law 841 = .ok (.iadd, 1) := by decide +kernel
theorem dL_law_842 : decode cL_law 842 = .ok (.iaload, 1) := by decide +kernel
theorem dL_law_843 : decode cL_law 843 = .ok (.invokevirtual 109, 3) := by decide +kernel
theorem dL_law_846 : decode cL_law 846 = .ok (.aload_n 2, 1) := by decide +kernel
theorem dL_law_847 : decode cL_law 847 = .ok (.aload_n 0, 1) := by decide +kernel
theorem dL_law_848 : decode cL_law 848 = .ok (.iload_n 3, 1) := by decide +kernel
theorem dL_law_849 : decode cL_law 849 = .ok (.iconst 1, 1) := by decide +kernel
theorem dL_law_850 : decode cL_law 850 = .ok (.iadd, 1) := by decide +kernel
theorem dL_law_851 : decode cL_law 851 = .ok (.iaload, 1) := by decide +kernel
theorem dL_law_852 : decode cL_law 852 = .ok (.invokevirtual 112, 3) := by decide +kernel
theorem dL_law_855 : decode cL_law 855 = .ok (.if_icmp .eq 331, 3) := by decide +kernel
theorem dL_law_858 : decode cL_law 858 = .ok (.iconst 0, 1) := by decide +kernel
theorem dL_law_859 : decode cL_law 859 = .ok (.ireturn, 1) := by decide +kernel
theorem dL_law_860 : decode cL_law 860 = .ok (.aload_n 1, 1) := by decide +kernel
theorem dL_law_861 : decode cL_law 861 = .ok (.aload_n 0, 1) := by decide +kernel
theorem dL_law_862 : decode cL_law 862 = .ok (.iload_n 3, 1) := by decide +kernel
theorem dL_law_863 : decode cL_law 863 = .ok (.iconst 1, 1) := by decide +kernel
theorem dL_law_864 : decode cL_law 864 = .ok (.iadd, 1) := by decide +kernel
theorem dL_law_865 : decode cL_law 865 = .ok (.iaload, 1) := by decide +kernel
theorem dL_law_866 : decode cL_law 866 = .ok (.invokevirtual 113, 3) := by decide +kernel
theorem dL_law_869 : decode cL_law 869 = .ok (.aload_n 2, 1) := by decide +kernel
theorem dL_law_870 : decode cL_law 870 = .ok (.aload_n 0, 1) := by decide +kernel
theorem dL_law_871 : decode cL_law 871 = .ok (.iload_n 3, 1) := by decide +kernel
theorem dL_law_872 : decode cL_law 872 = .ok (.iconst 1, 1) := by decide +kernel
theorem dL_law_873 : decode cL_law 873 = .ok (.iadd, 1) := by decide +kernel
theorem dL_law_874 : decode cL_law 874 = .ok (.iaload, 1) := by decide +kernel
theorem dL_law_875 : decode cL_law 875 = .ok (.invokevirtual 116, 3) := by decide +kernel
theorem dL_law_878 : decode cL_law 878 = .ok (.if_icmp .eq 308, 3) := by decide +kernel
theorem dL_law_881 : decode cL_law 881 = .ok (.iconst 0, 1) := by decide +kernel
theorem dL_law_882 : decode cL_law 882 = .ok (.ireturn, 1) := by decide +kernel
theorem dL_law_883 : decode cL_law 883 = .ok (.aload_n 1, 1) := by decide +kernel
theorem dL_law_884 : decode cL_law 884 = .ok (.aload_n 0, 1) := by decide +kernel
theorem dL_law_885 : decode cL_law 885 = .ok (.iload_n 3, 1) := by decide +kernel
theorem dL_law_886 : decode cL_law 886 = .ok (.iconst 1, 1) := by decide +kernel
theorem dL_law_887 : decode cL_law 887 = .ok (.iadd, 1) := by decide +kernel
theorem dL_law_888 : decode cL_law 888 = .ok (.iaload, 1) := by decide +kernel
theorem dL_law_889 : decode cL_law 889 = .ok (.aload_n 0, 1) := by decide +kernel
theorem dL_law_890 : decode cL_law 890 = .ok (.iload_n 3, 1) := by decide +kernel
theorem dL_law_891 : decode cL_law 891 = .ok (.iconst 2, 1) := by decide +kernel
theorem dL_law_892 : decode cL_law 892 = .ok (.iadd, 1) := by decide +kernel
theorem dL_law_893 : decode cL_law 893 = .ok (.iaload, 1) := by decide +kernel
theorem dL_law_894 : decode cL_law 894 = .ok (.invokevirtual 117, 3) := by decide +kernel
theorem dL_law_897 : decode cL_law 897 = .ok (.aload_n 2, 1) := by decide +kernel
theorem dL_law_898 : decode cL_law 898 = .ok (.aload_n 0, 1) := by decide +kernel
theorem dL_law_899 : decode cL_law 899 = .ok (.iload_n 3, 1) := by decide +kernel
theorem dL_law_900 : decode cL_law 900 = .ok (.iconst 1, 1) := by decide +kernel
theorem dL_law_901 : decode cL_law 901 = .ok (.iadd, 1) := by decide +kernel
theorem dL_law_902 : decode cL_law 902 = .ok (.iaload, 1) := by decide +kernel
theorem dL_law_903 : decode cL_law 903 = .ok (.aload_n 0, 1) := by decide +kernel
theorem dL_law_904 : decode cL_law 904 = .ok (.iload_n 3, 1) := by decide +kernel
theorem dL_law_905 : decode cL_law 905 = .ok (.iconst 2, 1) := by decide +kernel
theorem dL_law_906 : decode cL_law 906 = .ok (.iadd, 1) := by decide +kernel
theorem dL_law_907 : decode cL_law 907 = .ok (.iaload, 1) := by decide +kernel
theorem dL_law_908 : decode cL_law 908 = .ok (.invokevirtual 120, 3) := by decide +kernel
theorem dL_law_911 : decode cL_law 911 = .ok (.if_icmp .eq 275, 3) := by decide +kernel
theorem dL_law_914 : decode cL_law 914 = .ok (.iconst 0, 1) := by decide +kernel
theorem dL_law_915 : decode cL_law 915 = .ok (.ireturn, 1) := by decide +kernel
theorem dL_law_916 : decode cL_law 916 = .ok (.aload_n 1, 1) := by decide +kernel
theorem dL_law_917 : decode cL_law 917 = .ok (.aload_n 0, 1) := by decide +kernel
theorem dL_law_918 : decode cL_law 918 = .ok (.iload_n 3, 1) := by decide +kernel
theorem dL_law_919 : decode cL_law 919 = .ok (.iconst 1, 1) := by decide +kernel
theorem dL_law_920 : decode cL_law 920 = .ok (.iadd, 1) := by decide +kernel
theorem dL_law_921 : decode cL_law 921 = .ok (.iaload, 1) := by decide +kernel
theorem dL_law_922 : decode cL_law 922 = .ok (.invokevirtual 121, 3) := by decide +kernel
theorem dL_law_925 : decode cL_law 925 = .ok (.aload_n 2, 1) := by decide +kernel
theorem dL_law_926 : decode cL_law 926 = .ok (.aload_n 0, 1) := by decide +kernel
theorem dL_law_927 : decode cL_law 927 = .ok (.iload_n 3, 1) := by decide +kernel
theorem dL_law_928 : decode cL_law 928 = .ok (.iconst 1, 1) := by decide +kernel
theorem dL_law_929 : decode cL_law 929 = .ok (.iadd, 1) := by decide +kernel
theorem dL_law_930 : decode cL_law 930 = .ok (.iaload, 1) := by decide +kernel
theorem dL_law_931 : decode cL_law 931 = .ok (.invokevirtual 124, 3) := by decide +kernel
theorem dL_law_934 : decode cL_law 934 = .ok (.if_icmp .eq 252, 3) := by decide +kernel
theorem dL_law_937 : decode cL_law 937 = .ok (.iconst 0, 1) := by decide +kernel
theorem dL_law_938 : decode cL_law 938 = .ok (.ireturn, 1) := by decide +kernel
theorem dL_law_939 : decode cL_law 939 = .ok (.aload_n 1, 1) := by decide +kernel
theorem dL_law_940 : decode cL_law 940 = .ok (.aload_n 0, 1) := by decide +kernel
theorem dL_law_941 : decode cL_law 941 = .ok (.iload_n 3, 1) := by decide +kernel
theorem dL_law_942 : decode cL_law 942 = .ok (.iconst 1, 1) := by decide +kernel
theorem dL_law_943 : decode cL_law 943 = .ok (.iadd, 1) := by decide +kernel
theorem dL_law_944 : decode cL_law 944 = .ok (.iaload, 1) := by decide +kernel
theorem dL_law_945 : decode cL_law 945 = .ok (.invokevirtual 125, 3) := by decide +kernel
theorem dL_law_948 : decode cL_law 948 = .ok (.aload_n 2, 1) := by decide +kernel
theorem dL_law_949 : decode cL_law 949 = .ok (.aload_n 0, 1) := by decide +kernel
theorem dL_law_950 : decode cL_law 950 = .ok (.iload_n 3, 1) := by decide +kernel
theorem dL_law_951 : decode cL_law 951 = .ok (.iconst 1, 1) := by decide +kernel
theorem dL_law_952 : decode cL_law 952 = .ok (.iadd, 1) := by decide +kernel
theorem dL_law_953 : decode cL_law 953 = .ok (.iaload, 1) := by decide +kernel
theorem dL_law_954 : decode cL_law 954 = .ok (.invokevirtual 128, 3) := by decide +kernel
theorem dL_law_957 : decode cL_law 957 = .ok (.if_icmp .eq 229, 3) := by decide +kernel
theorem dL_law_960 : decode cL_law 960 = .ok (.iconst 0, 1) := by decide +kernel
theorem dL_law_961 : decode cL_law 961 = .ok (.ireturn, 1) := by decide +kernel
theorem dL_law_962 : decode cL_law 962 = .ok (.aload_n 1, 1) := by decide +kernel
theorem dL_law_963 : decode cL_law 963 = .ok (.aload_n 0, 1) := by decide +kernel
theorem dL_law_964 : decode cL_law 964 = .ok (.iload_n 3, 1) := by decide +kernel
theorem dL_law_965 : decode cL_law 965 = .ok (.iconst 1, 1) := by decide +kernel
theorem dL_law_966 : decode cL_law 966 = .ok (.iadd, 1) := by decide +kernel
theorem dL_law_967 : decode cL_law 967 = .ok (.iaload, 1) := by decide +kernel
theorem dL_law_968 : decode cL_law 968 = .ok (.invokevirtual 129, 3) := by decide +kernel
theorem dL_law_971 : decode cL_law 971 = .ok (.aload_n 2, 1) := by decide +kernel
theorem dL_law_972 : decode cL_law 972 = .ok (.aload_n 0, 1) := by decide +kernel
theorem dL_law_973 : decode cL_law 973 = .ok (.iload_n 3, 1) := by decide +kernel
theorem dL_law_974 : decode cL_law 974 = .ok (.iconst 1, 1) := by decide +kernel
theorem dL_law_975 : decode cL_law 975 = .ok (.iadd, 1) := by decide +kernel
theorem dL_law_976 : decode cL_law 976 = .ok (.iaload, 1) := by decide +kernel
theorem dL_law_977 : decode cL_law 977 = .ok (.invokevirtual 132, 3) := by decide +kernel
theorem dL_law_980 : decode cL_law 980 = .ok (.if_icmp .eq 206, 3) := by decide +kernel
theorem dL_law_983 : decode cL_law 983 = .ok (.iconst 0, 1) := by decide +kernel
theorem dL_law_984 : decode cL_law 984 = .ok (.ireturn, 1) := by decide +kernel
theorem dL_law_985 : decode cL_law 985 = .ok (.aload_n 1, 1) := by decide +kernel
theorem dL_law_986 : decode cL_law 986 = .ok (.invokevirtual 133, 3) := by decide +kernel
theorem dL_law_989 : decode cL_law 989 = .ok (.aload_n 2, 1) := by decide +kernel
theorem dL_law_990 : decode cL_law 990 = .ok (.invokevirtual 136, 3) := by decide +kernel
theorem dL_law_993 : decode cL_law 993 = .ok (.if_icmp .eq 193, 3) := by decide +kernel
theorem dL_law_996 : decode cL_law 996 = .ok (.iconst 0, 1) := by decide +kernel
theorem dL_law_997 : decode cL_law 997 = .ok (.ireturn, 1) := by decide +kernel
theorem dL_law_998 : decode cL_law 998 = .ok (.aload_n 1, 1) := by decide +kernel
theorem dL_law_999 : decode cL_law 999 = .ok (.invokevirtual 137, 3) := by decide +kernel
theorem dL_law_1002 : decode cL_law 1002 = .ok (.aload_n 2, 1) := by decide +kernel
theorem dL_law_1003 : decode cL_law 1003 = .ok (.invokevirtual 140, 3) := by decide +kernel
theorem dL_law_1006 : decode cL_law 1006 = .ok (.lcmp, 1) := by decide +kernel
theorem dL_law_1007 : decode cL_law 1007 = .ok (.ifCond .eq 179, 3) := by decide +kernel
theorem dL_law_1010 : decode cL_law 1010 = .ok (.iconst 0, 1) := by decide +kernel
theorem dL_law_1011 : decode cL_law 1011 = .ok (.ireturn, 1) := by decide +kernel
theorem dL_law_1012 : decode cL_law 1012 = .ok (.aload_n 1, 1) := by decide +kernel
theorem dL_law_1013 : decode cL_law 1013 = .ok (.invokevirtual 141, 3) := by decide +kernel
theorem dL_law_1016 : decode cL_law 1016 = .ok (.aload_n 2, 1) := by decide +kernel
theorem dL_law_1017 : decode cL_law 1017 = .ok (.invokevirtual 144, 3) := by decide +kernel
theorem dL_law_1020 : decode cL_law 1020 = .ok (.if_icmp .eq 166, 3) := by decide +kernel
theorem dL_law_1023 : decode cL_law 1023 = .ok (.iconst 0, 1) := by decide +kernel
theorem dL_law_1024 : decode cL_law 1024 = .ok (.ireturn, 1) := by decide +kernel
theorem dL_law_1025 : decode cL_law 1025 = .ok (.aload_n 1, 1) := by decide +kernel
theorem dL_law_1026 : decode cL_law 1026 = .ok (.aload_n 0, 1) := by decide +kernel
theorem dL_law_1027 : decode cL_law 1027 = .ok (.iload_n 3, 1) := by decide +kernel
theorem dL_law_1028 : decode cL_law 1028 = .ok (.iconst 1, 1) := by decide +kernel
theorem dL_law_1029 : decode cL_law 1029 = .ok (.iadd, 1) := by decide +kernel
theorem dL_law_1030 : decode cL_law 1030 = .ok (.iaload, 1) := by decide +kernel
theorem dL_law_1031 : decode cL_law 1031 = .ok (.invokevirtual 145, 3) := by decide +kernel
theorem dL_law_1034 : decode cL_law 1034 = .ok (.aload_n 2, 1) := by decide +kernel
theorem dL_law_1035 : decode cL_law 1035 = .ok (.aload_n 0, 1) := by decide +kernel
theorem dL_law_1036 : decode cL_law 1036 = .ok (.iload_n 3, 1) := by decide +kernel
theorem dL_law_1037 : decode cL_law 1037 = .ok (.iconst 1, 1) := by decide +kernel
theorem dL_law_1038 : decode cL_law 1038 = .ok (.iadd, 1) := by decide +kernel
theorem dL_law_1039 : decode cL_law 1039 = .ok (.iaload, 1) := by decide +kernel
theorem dL_law_1040 : decode cL_law 1040 = .ok (.invokevirtual 148, 3) := by decide +kernel
theorem dL_law_1043 : decode cL_law 1043 = .ok (.if_icmp .eq 143, 3) := by decide +kernel
theorem dL_law_1046 : decode cL_law 1046 = .ok (.iconst 0, 1) := by decide +kernel
theorem dL_law_1047 : decode cL_law 1047 = .ok (.ireturn, 1) := by decide +kernel
theorem dL_law_1048 : decode cL_law 1048 = .ok (.aload_n 1, 1) := by decide +kernel
theorem dL_law_1049 : decode cL_law 1049 = .ok (.invokevirtual 149, 3) := by decide +kernel
theorem dL_law_1052 : decode cL_law 1052 = .ok (.aload_n 2, 1) := by decide +kernel
theorem dL_law_1053 : decode cL_law 1053 = .ok (.invokevirtual 152, 3) := by decide +kernel
theorem dL_law_1056 : decode cL_law 1056 = .ok (.if_icmp .eq 130, 3) := by decide +kernel
theorem dL_law_1059 : decode cL_law 1059 = .ok (.iconst 0, 1) := by decide +kernel
theorem dL_law_1060 : decode cL_law 1060 = .ok (.ireturn, 1) := by decide +kernel
theorem dL_law_1061 : decode cL_law 1061 = .ok (.aload_n 1, 1) := by decide +kernel
theorem dL_law_1062 : decode cL_law 1062 = .ok (.aload_n 0, 1) := by decide +kernel
theorem dL_law_1063 : decode cL_law 1063 = .ok (.iload_n 3, 1) := by decide +kernel
theorem dL_law_1064 : decode cL_law 1064 = .ok (.iconst 1, 1) := by decide +kernel
theorem dL_law_1065 : decode cL_law 1065 = .ok (.iadd, 1) := by decide +kernel
theorem dL_law_1066 : decode cL_law 1066 = .ok (.iaload, 1) := by decide +kernel
theorem dL_law_1067 : decode cL_law 1067 = .ok (.invokevirtual 153, 3) := by decide +kernel
theorem dL_law_1070 : decode cL_law 1070 = .ok (.aload_n 2, 1) := by decide +kernel
theorem dL_law_1071 : decode cL_law 1071 = .ok (.aload_n 0, 1) := by decide +kernel
theorem dL_law_1072 : decode cL_law 1072 = .ok (.iload_n 3, 1) := by decide +kernel
theorem dL_law_1073 : decode cL_law 1073 = .ok (.iconst 1, 1) := by decide +kernel
theorem dL_law_1074 : decode cL_law 1074 = .ok (.iadd, 1) := by decide +kernel
theorem dL_law_1075 : decode cL_law 1075 = .ok (.iaload, 1) := by decide +kernel
theorem dL_law_1076 : decode cL_law 1076 = .ok (.invokevirtual 156, 3) := by decide +kernel
theorem dL_law_1079 : decode cL_law 1079 = .ok (.if_icmp .eq 107, 3) := by decide +kernel
theorem dL_law_1082 : decode cL_law 1082 = .ok (.iconst 0, 1) := by decide +kernel
theorem dL_law_1083 : decode cL_law 1083 = .ok (.ireturn, 1) := by decide +kernel
theorem dL_law_1084 : decode cL_law 1084 = .ok (.aload_n 1, 1) := by decide +kernel
theorem dL_law_1085 : decode cL_law 1085 = .ok (.invokevirtual 157, 3) := by decide +kernel
theorem dL_law_1088 : decode cL_law 1088 = .ok (.aload_n 2, 1) := by decide +kernel
theorem dL_law_1089 : decode cL_law 1089 = .ok (.invokevirtual 160, 3) := by decide +kernel
theorem dL_law_1092 : decode cL_law 1092 = .ok (.if_icmp .eq 94, 3) := by decide +kernel
theorem dL_law_1095 : decode cL_law 1095 = .ok (.iconst 0, 1) := by decide +kernel
theorem dL_law_1096 : decode cL_law 1096 = .ok (.ireturn, 1) := by decide +kernel
theorem dL_law_1097 : decode cL_law 1097 = .ok (.aload_n 1, 1) := by decide +kernel
theorem dL_law_1098 : decode cL_law 1098 = .ok (.aload_n 0, 1) := by decide +kernel
theorem dL_law_1099 : decode cL_law 1099 = .ok (.iload_n 3, 1) := by decide +kernel
theorem dL_law_1100 : decode cL_law 1100 = .ok (.iconst 1, 1) := by decide +kernel
theorem dL_law_1101 : decode cL_law 1101 = .ok (.iadd, 1) := by decide +kernel
theorem dL_law_1102 : decode cL_law 1102 = .ok (.iaload, 1) := by decide +kernel
theorem dL_law_1103 : decode cL_law 1103 = .ok (.invokevirtual 161, 3) := by decide +kernel
theorem dL_law_1106 : decode cL_law 1106 = .ok (.aload_n 2, 1) := by decide +kernel
theorem dL_law_1107 : decode cL_law 1107 = .ok (.aload_n 0, 1) := by decide +kernel
theorem dL_law_1108 : decode cL_law 1108 = .ok (.iload_n 3, 1) := by decide +kernel
theorem dL_law_1109 : decode cL_law 1109 = .ok (.iconst 1, 1) := by decide +kernel
theorem dL_law_1110 : decode cL_law 1110 = .ok (.iadd, 1) := by decide +kernel
theorem dL_law_1111 : decode cL_law 1111 = .ok (.iaload, 1) := by decide +kernel
theorem dL_law_1112 : decode cL_law 1112 = .ok (.invokevirtual 164, 3) := by decide +kernel
theorem dL_law_1115 : decode cL_law 1115 = .ok (.if_icmp .eq 71, 3) := by decide +kernel
theorem dL_law_1118 : decode cL_law 1118 = .ok (.iconst 0, 1) := by decide +kernel
theorem dL_law_1119 : decode cL_law 1119 = .ok (.ireturn, 1) := by decide +kernel
theorem dL_law_1120 : decode cL_law 1120 = .ok (.aload_n 1, 1) := by decide +kernel
theorem dL_law_1121 : decode cL_law 1121 = .ok (.aload_n 0, 1) := by decide +kernel
theorem dL_law_1122 : decode cL_law 1122 = .ok (.iload_n 3, 1) := by decide +kernel
theorem dL_law_1123 : decode cL_law 1123 = .ok (.iconst 1, 1) := by decide +kernel
theorem dL_law_1124 : decode cL_law 1124 = .ok (.iadd, 1) := by decide +kernel
theorem dL_law_1125 : decode cL_law 1125 = .ok (.iaload, 1) := by decide +kernel
theorem dL_law_1126 : decode cL_law 1126 = .ok (.aload_n 0, 1) := by decide +kernel
theorem dL_law_1127 : decode cL_law 1127 = .ok (.iload_n 3, 1) := by decide +kernel
theorem dL_law_1128 : decode cL_law 1128 = .ok (.iconst 2, 1) := by decide +kernel
theorem dL_law_1129 : decode cL_law 1129 = .ok (.iadd, 1) := by decide +kernel
theorem dL_law_1130 : decode cL_law 1130 = .ok (.iaload, 1) := by decide +kernel
theorem dL_law_1131 : decode cL_law 1131 = .ok (.aload_n 0, 1) := by decide +kernel
theorem dL_law_1132 : decode cL_law 1132 = .ok (.iload_n 3, 1) := by decide +kernel
theorem dL_law_1133 : decode cL_law 1133 = .ok (.iconst 3, 1) := by decide +kernel
theorem dL_law_1134 : decode cL_law 1134 = .ok (.iadd, 1) := by decide +kernel
theorem dL_law_1135 : decode cL_law 1135 = .ok (.iaload, 1) := by decide +kernel
theorem dL_law_1136 : decode cL_law 1136 = .ok (.invokevirtual 165, 3) := by decide +kernel
theorem dL_law_1139 : decode cL_law 1139 = .ok (.aload_n 2, 1) := by decide +kernel
theorem dL_law_1140 : decode cL_law 1140 = .ok (.aload_n 0, 1) := by decide +kernel
theorem dL_law_1141 : decode cL_law 1141 = .ok (.iload_n 3, 1) := by decide +kernel
theorem dL_law_1142 : decode cL_law 1142 = .ok (.iconst 1, 1) := by decide +kernel
theorem dL_law_1143 : decode cL_law 1143 = .ok (.iadd, 1) := by decide +kernel
theorem dL_law_1144 : decode cL_law 1144 = .ok (.iaload, 1) := by decide +kernel
theorem dL_law_1145 : decode cL_law 1145 = .ok (.aload_n 0, 1) := by decide +kernel
theorem dL_law_1146 : decode cL_law 1146 = .ok (.iload_n 3, 1) := by decide +kernel
theorem dL_law_1147 : decode cL_law 1147 = .ok (.iconst 2, 1) := by decide +kernel
theorem dL_law_1148 : decode cL_law 1148 = .ok (.iadd, 1) := by decide +kernel
theorem dL_law_1149 : decode cL_law 1149 = .ok (.iaload, 1) := by decide +kernel
theorem dL_law_1150 : decode cL_law 1150 = .ok (.aload_n 0, 1) := by decide +kernel
theorem dL_law_1151 : decode cL_law 1151 = .ok (.iload_n 3, 1) := by decide +kernel
theorem dL_law_1152 : decode cL_law 1152 = .ok (.iconst 3, 1) := by decide +kernel
theorem dL_law_1153 : decode cL_law 1153 = .ok (.iadd, 1) := by decide +kernel
theorem dL_law_1154 : decode cL_law 1154 = .ok (.iaload, 1) := by decide +kernel
theorem dL_law_1155 : decode cL_law 1155 = .ok (.invokevirtual 169, 3) := by decide +kernel
theorem dL_law_1158 : decode cL_law 1158 = .ok (.if_icmp .eq 28, 3) := by decide +kernel
theorem dL_law_1161 : decode cL_law 1161 = .ok (.iconst 0, 1) := by decide +kernel
theorem dL_law_1162 : decode cL_law 1162 = .ok (.ireturn, 1) := by decide +kernel
theorem dL_law_1163 : decode cL_law 1163 = .ok (.aload_n 1, 1) := by decide +kernel
theorem dL_law_1164 : decode cL_law 1164 = .ok (.aload_n 0, 1) := by decide +kernel
theorem dL_law_1165 : decode cL_law 1165 = .ok (.iload_n 3, 1) := by decide +kernel
theorem dL_law_1166 : decode cL_law 1166 = .ok (.iconst 1, 1) := by decide +kernel
theorem dL_law_1167 : decode cL_law 1167 = .ok (.iadd, 1) := by decide +kernel
theorem dL_law_1168 : decode cL_law 1168 = .ok (.iaload, 1) := by decide +kernel
theorem dL_law_1169 : decode cL_law 1169 = .ok (.invokevirtual 170, 3) := by decide +kernel
theorem dL_law_1172 : decode cL_law 1172 = .ok (.aload_n 2, 1) := by decide +kernel
theorem dL_law_1173 : decode cL_law 1173 = .ok (.aload_n 0, 1) := by decide +kernel
theorem dL_law_1174 : decode cL_law 1174 = .ok (.iload_n 3, 1) := by decide +kernel
theorem dL_law_1175 : decode cL_law 1175 = .ok (.iconst 1, 1) := by decide +kernel
theorem dL_law_1176 : decode cL_law 1176 = .ok (.iadd, 1) := by decide +kernel
theorem dL_law_1177 : decode cL_law 1177 = .ok (.iaload, 1) := by decide +kernel
theorem dL_law_1178 : decode cL_law 1178 = .ok (.invokevirtual 173, 3) := by decide +kernel
theorem dL_law_1181 : decode cL_law 1181 = .ok (.if_icmp .eq 5, 3) := by decide +kernel
theorem dL_law_1184 : decode cL_law 1184 = .ok (.iconst 0, 1) := by decide +kernel
theorem dL_law_1185 : decode cL_law 1185 = .ok (.ireturn, 1) := by decide +kernel
theorem dL_law_1186 : decode cL_law 1186 = .ok (.iinc 3 6, 3) := by decide +kernel
theorem dL_law_1189 : decode cL_law 1189 = .ok (.goto (-1171), 3) := by decide +kernel
theorem dL_law_1192 : decode cL_law 1192 = .ok (.iconst 1, 1) := by decide +kernel
theorem dL_law_1193 : decode cL_law 1193 = .ok (.ireturn, 1) := by decide +kernel
