theorem dX11_due_19 : decode cX11_due 19 = .ok (.iconst 1, 1) := by decide +kernel
theorem dX11_due_20 : decode cX11_due 20 = .ok (.ldc 147, 2) := by decide +kernel
theorem dX11_due_22 : decode cX11_due 22 = .ok (.invokestatic 97, 3) := by decide +kernel
theorem dX11_due_25 : decode cX11_due 25 = .ok (.ifCond .ne 10, 3) := by decide +kernel
theorem dX11_due_28 : decode cX11_due 28 = .ok (.aload_n 0, 1) := by decide +kernel
theorem dX11_due_29 : decode cX11_due 29 = .ok (.bipush (-7), 2) := by decide +kernel
theorem dX11_due_31 : decode cX11_due 31 = .ok (.invokevirtual 72, 3) := by decide +kernel
theorem dX11_due_34 : decode cX11_due 34 = .ok (.ireturn, 1) := by decide +kernel
theorem dX11_due_35 : decode cX11_due 35 = .ok (.aload_n 0, 1) := by decide +kernel
theorem dX11_due_36 : decode cX11_due 36 = .ok (.getfield 12, 3) := by decide +kernel
theorem dX11_due_39 : decode cX11_due 39 = .ok (.getfield 137, 3) := by decide +kernel
theorem dX11_due_42 : decode cX11_due 42 = .ok (.iload_n 1, 1) := by decide +kernel
theorem dX11_due_43 : decode cX11_due 43 = .ok (.aaload, 1) := by decide +kernel
theorem dX11_due_44 : decode cX11_due 44 = .ok (.astore_n 3, 1) := by decide +kernel
theorem dX11_due_45 : decode cX11_due 45 = .ok (.aload_n 3, 1) := by decide +kernel
theorem dX11_due_46 : decode cX11_due 46 = .ok (.getfield 148, 3) := by decide +kernel
theorem dX11_due_49 : decode cX11_due 49 = .ok (.istore 4, 2) := by decide +kernel
theorem dX11_due_51 : decode cX11_due 51 = .ok (.iload_n 2, 1) := by decide +kernel
theorem dX11_due_52 : decode cX11_due 52 = .ok (.iload 4, 2) := by decide +kernel
theorem dX11_due_54 : decode cX11_due 54 = .ok (.if_icmp .eq 15, 3) := by decide +kernel
theorem dX11_due_57 : decode cX11_due 57 = .ok (.aload_n 3, 1) := by decide +kernel
theorem dX11_due_58 : decode cX11_due 58 = .ok (.iload_n 2, 1) := by decide +kernel
theorem dX11_due_59 : decode cX11_due 59 = .ok (.putfield 148, 3) := by decide +kernel
theorem dX11_due_62 : decode cX11_due 62 = .ok (.aload_n 0, 1) := by decide +kernel
theorem dX11_due_63 : decode cX11_due 63 = .ok (.getfield 53, 3) := by decide +kernel
theorem dX11_due_66 : decode cX11_due 66 = .ok (.invokevirtual 131, 3) := by decide +kernel
theorem dX11_due_69 : decode cX11_due 69 = .ok (.iload 4, 2) := by decide +kernel
theorem dX11_due_71 : decode cX11_due 71 = .ok (.ireturn, 1) := by decide +kernel
theorem dX11_value_0 : decode cX11_value 0 = .ok (.aload_n 0, 1) := by decide +kernel
theorem dX11_value_1 : decode cX11_value 1 = .ok (.getfield 12, 3) := by decide +kernel
theorem dX11_value_4 : decode cX11_value 4 = .ok (.iload_n 1, 1) := by decide +kernel
theorem dX11_value_5 : decode cX11_value 5 = .ok (.invokevirtual 87, 3) := by decide +kernel
theorem dX11_value_8 : decode cX11_value 8 = .ok (.ifCond .ne 10, 3) := by decide +kernel
theorem dX11_value_11 : decode cX11_value 11 = .ok (.aload_n 0, 1) := by decide +kernel
theorem dX11_value_12 : decode cX11_value 12 = .ok (.bipush (-3), 2) := by decide +kernel
theorem dX11_value_14 : decode cX11_value 14 = .ok (.invokevirtual 72, 3) := by decide +kernel
theorem dX11_value_17 : decode cX11_value 17 = .ok (.ireturn, 1) := by decide +kernel
theorem dX11_value_18 : decode cX11_value 18 = .ok (.aload_n 0, 1) := by decide +kernel
theorem dX11_value_19 : decode cX11_value 19 = .ok (.getfield 12, 3) := by decide +kernel
theorem dX11_value_22 : decode cX11_value 22 = .ok (.getfield 137, 3) := by decide +kernel
theorem dX11_value_25 : decode cX11_value 25 = .ok (.iload_n 1, 1) := by decide +kernel
theorem dX11_value_26 : decode cX11_value 26 = .ok (.aaload, 1) := by decide +kernel
theorem dX11_value_27 : decode cX11_value 27 = .ok (.astore 4, 2) := by decide +kernel
theorem dX11_value_29 : decode cX11_value 29 = .ok (.aload 4, 2) := by decide +kernel
theorem dX11_value_31 : decode cX11_value 31 = .ok (.getfield 151, 3) := by decide +kernel
theorem dX11_value_34 : decode cX11_value 34 = .ok (.lload_n 2, 1) := by decide +kernel
theorem dX11_value_35 : decode cX11_value 35 = .ok (.lcmp, 1) := by decide +kernel
theorem dX11_value_36 : decode cX11_value 36 = .ok (.ifCond .ne 7, 3) := by decide +kernel
theorem dX11_value_39 : decode cX11_value 39 = .ok (.iconst 0, 1) := by decide +kernel
theorem dX11_value_40 : decode cX11_value 40 = .ok (.goto 4, 3) := by decide +kernel
theorem dX11_value_43 : decode cX11_value 43 = .ok (.iconst 1, 1) := by decide +kernel
theorem dX11_value_44 : decode cX11_value 44 = .ok (.istore 5, 2) := by decide +kernel
theorem dX11_value_46 : decode cX11_value 46 = .ok (.aload 4, 2) := by decide +kernel
theorem dX11_value_48 : decode cX11_value 48 = .ok (.lload_n 2, 1) := by decide +kernel
theorem dX11_value_49 : decode cX11_value 49 = .ok (.putfield 151, 3) := by decide +kernel
theorem dX11_value_52 : decode cX11_value 52 = .ok (.iload 5, 2) := by decide +kernel
theorem dX11_value_54 : decode cX11_value 54 = .ok (.ireturn, 1) := by decide +kernel
theorem dX11_rank_0 : decode cX11_rank 0 = .ok (.aload_n 0, 1) := by decide +kernel
theorem dX11_rank_1 : decode cX11_rank 1 = .ok (.getfield 12, 3) := by decide +kernel
theorem dX11_rank_4 : decode cX11_rank 4 = .ok (.iload_n 1, 1) := by decide +kernel
theorem dX11_rank_5 : decode cX11_rank 5 = .ok (.invokevirtual 87, 3) := by decide +kernel
theorem dX11_rank_8 : decode cX11_rank 8 = .ok (.ifCond .ne 10, 3) := by decide +kernel
theorem dX11_rank_11 : decode cX11_rank 11 = .ok (.aload_n 0, 1) := by decide +kernel
theorem dX11_rank_12 : decode cX11_rank 12 = .ok (.bipush (-3), 2) := by decide +kernel
theorem dX11_rank_14 : decode cX11_rank 14 = .ok (.invokevirtual 72, 3) := by decide +kernel
theorem dX11_rank_17 : decode cX11_rank 17 = .ok (.ireturn, 1) := by decide +kernel
theorem dX11_rank_18 : decode cX11_rank 18 = .ok (.iload_n 2, 1) := by decide +kernel
theorem dX11_rank_19 : decode cX11_rank 19 = .ok (.invokestatic 93, 3) := by decide +kernel
theorem dX11_rank_22 : decode cX11_rank 22 = .ok (.ifCond .ne 10, 3) := by decide +kernel
theorem dX11_rank_25 : decode cX11_rank 25 = .ok (.aload_n 0, 1) := by decide +kernel
theorem dX11_rank_26 : decode cX11_rank 26 = .ok (.bipush (-7), 2) := by decide +kernel
theorem dX11_rank_28 : decode cX11_rank 28 = .ok (.invokevirtual 72, 3) := by decide +kernel
theorem dX11_rank_31 : decode cX11_rank 31 = .ok (.ireturn, 1) := by decide +kernel
theorem dX11_rank_32 : decode cX11_rank 32 = .ok (.aload_n 0, 1) := by decide +kernel
theorem dX11_rank_33 : decode cX11_rank 33 = .ok (.getfield 12, 3) := by decide +kernel
theorem dX11_rank_36 : decode cX11_rank 36 = .ok (.getfield 137, 3) := by decide +kernel
theorem dX11_rank_39 : decode cX11_rank 39 = .ok (.iload_n 1, 1) := by decide +kernel
theorem dX11_rank_40 : decode cX11_rank 40 = .ok (.aaload, 1) := by decide +kernel
theorem dX11_rank_41 : decode cX11_rank 41 = .ok (.astore_n 3, 1) := by decide +kernel
theorem dX11_rank_42 : decode cX11_rank 42 = .ok (.aload_n 3, 1) := by decide +kernel
theorem dX11_rank_43 : decode cX11_rank 43 = .ok (.getfield 155, 3) := by decide +kernel
theorem dX11_rank_46 : decode cX11_rank 46 = .ok (.istore 4, 2) := by decide +kernel
theorem dX11_rank_48 : decode cX11_rank 48 = .ok (.iload_n 2, 1) := by decide +kernel
theorem dX11_rank_49 : decode cX11_rank 49 = .ok (.iload 4, 2) := by decide +kernel
theorem dX11_rank_51 : decode cX11_rank 51 = .ok (.if_icmp .ne 6, 3) := by decide +kernel
theorem dX11_rank_54 : decode cX11_rank 54 = .ok (.iload 4, 2) := by decide +kernel
theorem dX11_rank_56 : decode cX11_rank 56 = .ok (.ireturn, 1) := by decide +kernel
theorem dX11_rank_57 : decode cX11_rank 57 = .ok (.aload_n 0, 1) := by decide +kernel
theorem dX11_rank_58 : decode cX11_rank 58 = .ok (.getfield 12, 3) := by decide +kernel
theorem dX11_rank_61 : decode cX11_rank 61 = .ok (.iload_n 2, 1) := by decide +kernel
theorem dX11_rank_62 : decode cX11_rank 62 = .ok (.invokevirtual 101, 3) := by decide +kernel
theorem dX11_rank_65 : decode cX11_rank 65 = .ok (.ifnull 10, 3) := by decide +kernel
theorem dX11_rank_68 : decode cX11_rank 68 = .ok (.aload_n 0, 1) := by decide +kernel
theorem dX11_rank_69 : decode cX11_rank 69 = .ok (.bipush (-9), 2) := by decide +kernel
theorem dX11_rank_71 : decode cX11_rank 71 = .ok (.invokevirtual 72, 3) := by decide +kernel
theorem dX11_rank_74 : decode cX11_rank 74 = .ok (.ireturn, 1) := by decide +kernel
theorem dX11_rank_75 : decode cX11_rank 75 = .ok (.aload_n 3, 1) := by decide +kernel
theorem dX11_rank_76 : decode cX11_rank 76 = .ok (.iload_n 2, 1) := by decide +kernel
theorem dX11_rank_77 : decode cX11_rank 77 = .ok (.putfield 155, 3) := by decide +kernel
theorem dX11_rank_80 : decode cX11_rank 80 = .ok (.aload_n 0, 1) := by decide +kernel
theorem dX11_rank_81 : decode cX11_rank 81 = .ok (.getfield 53, 3) := by decide +kernel
theorem dX11_rank_84 : decode cX11_rank 84 = .ok (.invokevirtual 131, 3) := by decide +kernel
theorem dX11_rank_87 : decode cX11_rank 87 = .ok (.iload 4, 2) := by decide +kernel
theorem dX11_rank_89 : decode cX11_rank 89 = .ok (.ireturn, 1) := by decide +kernel
theorem dX11_of_0 : decode cX11_of 0 = .ok (.aload_n 0, 1) := by decide +kernel
theorem dX11_of_1 : decode cX11_of 1 = .ok (.getfield 12, 3) := by decide +kernel
theorem dX11_of_4 : decode cX11_of 4 = .ok (.iload_n 1, 1) := by decide +kernel
theorem dX11_of_5 : decode cX11_of 5 = .ok (.invokevirtual 87, 3) := by decide +kernel
theorem dX11_of_8 : decode cX11_of 8 = .ok (.ifCond .ne 10, 3) := by decide +kernel
theorem dX11_of_11 : decode cX11_of 11 = .ok (.aload_n 0, 1) := by decide +kernel
theorem dX11_of_12 : decode cX11_of 12 = .ok (.bipush (-3), 2) := by decide +kernel
theorem dX11_of_14 : decode cX11_of 14 = .ok (.invokevirtual 72, 3) := by decide +kernel
theorem dX11_of_17 : decode cX11_of 17 = .ok (.ireturn, 1) := by decide +kernel
theorem dX11_of_18 : decode cX11_of 18 = .ok (.iload_n 2, 1) := by decide +kernel
theorem dX11_of_19 : decode cX11_of 19 = .ok (.iconst 0, 1) := by decide +kernel
theorem dX11_of_20 : decode cX11_of 20 = .ok (.bipush 11, 2) := by decide +kernel
theorem dX11_of_22 : decode cX11_of 22 = .ok (.invokestatic 97, 3) := by decide +kernel
theorem dX11_of_25 : decode cX11_of 25 = .ok (.ifCond .ne 10, 3) := by decide +kernel
theorem dX11_of_28 : decode cX11_of 28 = .ok (.aload_n 0, 1) := by decide +kernel
theorem dX11_of_29 : decode cX11_of 29 = .ok (.bipush (-7), 2) := by decide +kernel
theorem dX11_of_31 : decode cX11_of 31 = .ok (.invokevirtual 72, 3) := by decide +kernel
theorem dX11_of_34 : decode cX11_of 34 = .ok (.ireturn, 1) := by decide +kernel
theorem dX11_of_35 : decode cX11_of 35 = .ok (.aload_n 0, 1) := by decide +kernel
theorem dX11_of_36 : decode cX11_of 36 = .ok (.getfield 12, 3) := by decide +kernel
theorem dX11_of_39 : decode cX11_of 39 = .ok (.getfield 137, 3) := by decide +kernel
theorem dX11_of_42 : decode cX11_of 42 = .ok (.iload_n 1, 1) := by decide +kernel
theorem dX11_of_43 : decode cX11_of 43 = .ok (.aaload, 1) := by decide +kernel
theorem dX11_of_44 : decode cX11_of 44 = .ok (.iload_n 2, 1) := by decide +kernel
theorem dX11_of_45 : decode cX11_of 45 = .ok (.invokevirtual 158, 3) := by decide +kernel
theorem dX11_of_48 : decode cX11_of 48 = .ok (.ireturn, 1) := by decide +kernel
theorem dX11_about_0 : decode cX11_about 0 = .ok (.aload_n 0, 1) := by decide +kernel
theorem dX11_about_1 : decode cX11_about 1 = .ok (.getfield 12, 3) := by decide +kernel
theorem dX11_about_4 : decode cX11_about 4 = .ok (.iload_n 1, 1) := by decide +kernel
theorem dX11_about_5 : decode cX11_about 5 = .ok (.invokevirtual 84, 3) := by decide +kernel
theorem dX11_about_8 : decode cX11_about 8 = .ok (.ifCond .ne 10, 3) := by decide +kernel
theorem dX11_about_11 : decode cX11_about 11 = .ok (.aload_n 0, 1) := by decide +kernel
theorem dX11_about_12 : decode cX11_about 12 = .ok (.bipush (-3), 2) := by decide +kernel
theorem dX11_about_14 : decode cX11_about 14 = .ok (.invokevirtual 72, 3) := by decide +kernel
theorem dX11_about_17 : decode cX11_about 17 = .ok (.ireturn, 1) := by decide +kernel
theorem dX11_about_18 : decode cX11_about 18 = .ok (.iload_n 2, 1) := by decide +kernel
theorem dX11_about_19 : decode cX11_about 19 = .ok (.iconst 0, 1) := by decide +kernel
theorem dX11_about_20 : decode cX11_about 20 = .ok (.iconst 2, 1) := by decide +kernel
theorem dX11_about_21 : decode cX11_about 21 = .ok (.invokestatic 97, 3) := by decide +kernel
theorem dX11_about_24 : decode cX11_about 24 = .ok (.ifCond .ne 10, 3) := by decide +kernel
theorem dX11_about_27 : decode cX11_about 27 = .ok (.aload_n 0, 1) := by decide +kernel
theorem dX11_about_28 : decode cX11_about 28 = .ok (.bipush (-7), 2) := by decide +kernel
theorem dX11_about_30 : decode cX11_about 30 = .ok (.invokevirtual 72, 3) := by decide +kernel
theorem dX11_about_33 : decode cX11_about 33 = .ok (.ireturn, 1) := by decide +kernel
theorem dX11_about_34 : decode cX11_about 34 = .ok (.aload_n 0, 1) := by decide +kernel
theorem dX11_about_35 : decode cX11_about 35 = .ok (.getfield 12, 3) := by decide +kernel
theorem dX11_about_38 : decode cX11_about 38 = .ok (.getfield 110, 3) := by decide +kernel
theorem dX11_about_41 : decode cX11_about 41 = .ok (.iload_n 1, 1) := by decide +kernel
theorem dX11_about_42 : decode cX11_about 42 = .ok (.aaload, 1) := by decide +kernel
theorem dX11_about_43 : decode cX11_about 43 = .ok (.iload_n 2, 1) := by decide +kernel
theorem dX11_about_44 : decode cX11_about 44 = .ok (.invokevirtual 161, 3) := by decide +kernel
theorem dX11_about_47 : decode cX11_about 47 = .ok (.ireturn, 1) := by decide +kernel
theorem dX11_size_0 : decode cX11_size 0 = .ok (.aload_n 0, 1) := by decide +kernel
theorem dX11_size_1 : decode cX11_size 1 = .ok (.getfield 12, 3) := by decide +kernel
theorem dX11_size_4 : decode cX11_size 4 = .ok (.iload_n 1, 1) := by decide +kernel
theorem dX11_size_5 : decode cX11_size 5 = .ok (.invokevirtual 87, 3) := by decide +kernel
theorem dX11_size_8 : decode cX11_size 8 = .ok (.ifCond .ne 10, 3) := by decide +kernel
theorem dX11_size_11 : decode cX11_size 11 = .ok (.aload_n 0, 1) := by decide +kernel
theorem dX11_size_12 : decode cX11_size 12 = .ok (.bipush (-3), 2) := by decide +kernel
theorem dX11_size_14 : decode cX11_size 14 = .ok (.invokevirtual 72, 3) := by decide +kernel
theorem dX11_size_17 : decode cX11_size 17 = .ok (.ireturn, 1) := by decide +kernel
theorem dX11_size_18 : decode cX11_size 18 = .ok (.aload_n 0, 1) := by decide +kernel
theorem dX11_size_19 : decode cX11_size 19 = .ok (.getfield 19, 3) := by decide +kernel
theorem dX11_size_22 : decode cX11_size 22 = .ok (.aload_n 0, 1) := by decide +kernel
theorem dX11_size_23 : decode cX11_size 23 = .ok (.getfield 12, 3) := by decide +kernel
theorem dX11_size_26 : decode cX11_size 26 = .ok (.getfield 137, 3) := by decide +kernel
theorem dX11_size_29 : decode cX11_size 29 = .ok (.iload_n 1, 1) := by decide +kernel
theorem dX11_size_30 : decode cX11_size 30 = .ok (.aaload, 1) := by decide +kernel
theorem dX11_size_31 : decode cX11_size 31 = .ok (.invokevirtual 164, 3) := by decide +kernel
theorem dX11_size_34 : decode cX11_size 34 = .ok (.aload_n 0, 1) := by decide +kernel
theorem dX11_size_35 : decode cX11_size 35 = .ok (.getfield 19, 3) := by decide +kernel
theorem dX11_size_38 : decode cX11_size 38 = .ok (.getfield 167, 3) := by decide +kernel
theorem dX11_size_41 : decode cX11_size 41 = .ok (.ireturn, 1) := by decide +kernel
theorem dX11_bit_0 : decode cX11_bit 0 = .ok (.aload_n 0, 1) := by decide +kernel
theorem dX11_bit_1 : decode cX11_bit 1 = .ok (.getfield 12, 3) := by decide +kernel
theorem dX11_bit_4 : decode cX11_bit 4 = .ok (.iload_n 1, 1) := by decide +kernel
theorem dX11_bit_5 : decode cX11_bit 5 = .ok (.invokevirtual 87, 3) := by decide +kernel
theorem dX11_bit_8 : decode cX11_bit 8 = .ok (.ifCond .ne 10, 3) := by decide +kernel
theorem dX11_bit_11 : decode cX11_bit 11 = .ok (.aload_n 0, 1) := by decide +kernel
theorem dX11_bit_12 : decode cX11_bit 12 = .ok (.bipush (-3), 2) := by decide +kernel
theorem dX11_bit_14 : decode cX11_bit 14 = .ok (.invokevirtual 72, 3) := by decide +kernel
theorem dX11_bit_17 : decode cX11_bit 17 = .ok (.ireturn, 1) := by decide +kernel
theorem dX11_bit_18 : decode cX11_bit 18 = .ok (.iload_n 2, 1) := by decide +kernel
theorem dX11_bit_19 : decode cX11_bit 19 = .ok (.ifCond .ge 10, 3) := by decide +kernel
theorem dX11_bit_22 : decode cX11_bit 22 = .ok (.aload_n 0, 1) := by decide +kernel
theorem dX11_bit_23 : decode cX11_bit 23 = .ok (.bipush (-4), 2) := by decide +kernel
theorem dX11_bit_25 : decode cX11_bit 25 = .ok (.invokevirtual 72, 3) := by decide +kernel
theorem dX11_bit_28 : decode cX11_bit 28 = .ok (.ireturn, 1) := by decide +kernel
theorem dX11_bit_29 : decode cX11_bit 29 = .ok (.aload_n 0, 1) := by decide +kernel
theorem dX11_bit_30 : decode cX11_bit 30 = .ok (.getfield 19, 3) := by decide +kernel
theorem dX11_bit_33 : decode cX11_bit 33 = .ok (.aload_n 0, 1) := by decide +kernel
theorem dX11_bit_34 : decode cX11_bit 34 = .ok (.getfield 12, 3) := by decide +kernel
theorem dX11_bit_37 : decode cX11_bit 37 = .ok (.getfield 137, 3) := by decide +kernel
theorem dX11_bit_40 : decode cX11_bit 40 = .ok (.iload_n 1, 1) := by decide +kernel
theorem dX11_bit_41 : decode cX11_bit 41 = .ok (.aaload, 1) := by decide +kernel
theorem dX11_bit_42 : decode cX11_bit 42 = .ok (.invokevirtual 164, 3) := by decide +kernel
theorem dX11_bit_45 : decode cX11_bit 45 = .ok (.aload_n 0, 1) := by decide +kernel
theorem dX11_bit_46 : decode cX11_bit 46 = .ok (.getfield 19, 3) := by decide +kernel
theorem dX11_bit_49 : decode cX11_bit 49 = .ok (.iload_n 2, 1) := by decide +kernel
theorem dX11_bit_50 : decode cX11_bit 50 = .ok (.invokevirtual 170, 3) := by decide +kernel
theorem dX11_bit_53 : decode cX11_bit 53 = .ok (.ireturn, 1) := by decide +kernel
theorem dX11_sum_0 : decode cX11_sum 0 = .ok (.aload_n 0, 1) := by decide +kernel
theorem dX11_sum_1 : decode cX11_sum 1 = .ok (.getfield 12, 3) := by decide +kernel
theorem dX11_sum_4 : decode cX11_sum 4 = .ok (.iload_n 1, 1) := by decide +kernel
theorem dX11_sum_5 : decode cX11_sum 5 = .ok (.invokevirtual 87, 3) := by decide +kernel
theorem dX11_sum_8 : decode cX11_sum 8 = .ok (.ifCond .ne 10, 3) := by decide +kernel
theorem dX11_sum_11 : decode cX11_sum 11 = .ok (.aload_n 0, 1) := by decide +kernel
theorem dX11_sum_12 : decode cX11_sum 12 = .ok (.bipush (-3), 2) := by decide +kernel
theorem dX11_sum_14 : decode cX11_sum 14 = .ok (.invokevirtual 72, 3) := by decide +kernel
theorem dX11_sum_17 : decode cX11_sum 17 = .ok (.ireturn, 1) := by decide +kernel
theorem dX11_sum_18 : decode cX11_sum 18 = .ok (.aload_n 0, 1) := by decide +kernel
theorem dX11_sum_19 : decode cX11_sum 19 = .ok (.getfield 19, 3) := by decide +kernel
theorem dX11_sum_22 : decode cX11_sum 22 = .ok (.aload_n 0, 1) := by decide +kernel
theorem dX11_sum_23 : decode cX11_sum 23 = .ok (.getfield 12, 3) := by decide +kernel
theorem dX11_sum_26 : decode cX11_sum 26 = .ok (.getfield 137, 3) := by decide +kernel
theorem dX11_sum_29 : decode cX11_sum 29 = .ok (.iload_n 1, 1) := by decide +kernel
theorem dX11_sum_30 : decode cX11_sum 30 = .ok (.aaload, 1) := by decide +kernel
theorem dX11_sum_31 : decode cX11_sum 31 = .ok (.invokevirtual 164, 3) := by decide +kernel
theorem dX11_sum_34 : decode cX11_sum 34 = .ok (.aload_n 0, 1) := by decide +kernel
theorem dX11_sum_35 : decode cX11_sum 35 = .ok (.getfield 19, 3) := by decide +kernel
theorem dX11_sum_38 : decode cX11_sum 38 = .ok (.getfield 173, 3) := by decide +kernel
theorem dX11_sum_41 : decode cX11_sum 41 = .ok (.ireturn, 1) := by decide +kernel
theorem dX11_stuffed_0 : decode cX11_stuffed 0 = .ok (.aload_n 0, 1) := by decide +kernel
theorem dX11_stuffed_1 : decode cX11_stuffed 1 = .ok (.getfield 12, 3) := by decide +kernel
theorem dX11_stuffed_4 : decode cX11_stuffed 4 = .ok (.iload_n 1, 1) := by decide +kernel
theorem dX11_stuffed_5 : decode cX11_stuffed 5 = .ok (.invokevirtual 87, 3) := by decide +kernel
theorem dX11_stuffed_8 : decode cX11_stuffed 8 = .ok (.ifCond .ne 10, 3) := by decide +kernel
theorem dX11_stuffed_11 : decode cX11_stuffed 11 = .ok (.aload_n 0, 1) := by decide +kernel
theorem dX11_stuffed_12 : decode cX11_stuffed 12 = .ok (.bipush (-3), 2) := by decide +kernel
theorem dX11_stuffed_14 : decode cX11_stuffed 14 = .ok (.invokevirtual 72, 3) := by decide +kernel
theorem dX11_stuffed_17 : decode cX11_stuffed 17 = .ok (.ireturn, 1) := by decide +kernel
theorem dX11_stuffed_18 : decode cX11_stuffed 18 = .ok (.aload_n 0, 1) := by decide +kernel
theorem dX11_stuffed_19 : decode cX11_stuffed 19 = .ok (.getfield 19, 3) := by decide +kernel
theorem dX11_stuffed_22 : decode cX11_stuffed 22 = .ok (.aload_n 0, 1) := by decide +kernel
theorem dX11_stuffed_23 : decode cX11_stuffed 23 = .ok (.getfield 12, 3) := by decide +kernel
theorem dX11_stuffed_26 : decode cX11_stuffed 26 = .ok (.getfield 137, 3) := by decide +kernel
theorem dX11_stuffed_29 : decode cX11_stuffed 29 = .ok (.iload_n 1, 1) := by decide +kernel
theorem dX11_stuffed_30 : decode cX11_stuffed 30 = .ok (.aaload, 1) := by decide +kernel
theorem dX11_stuffed_31 : decode cX11_stuffed 31 = .ok (.invokevirtual 164, 3) := by decide +kernel
theorem dX11_stuffed_34 : decode cX11_stuffed 34 = .ok (.aload_n 0, 1) := by decide +kernel
theorem dX11_stuffed_35 : decode cX11_stuffed 35 = .ok (.getfield 19, 3) := by decide +kernel
theorem dX11_stuffed_38 : decode cX11_stuffed 38 = .ok (.getfield 176, 3) := by decide +kernel
theorem dX11_stuffed_41 : decode cX11_stuffed 41 = .ok (.ireturn, 1) := by decide +kernel
theorem dX11_ahead_0 : decode cX11_ahead 0 = .ok (.aload_n 0, 1) := by decide +kernel
theorem dX11_ahead_1 : decode cX11_ahead 1 = .ok (.getfield 12, 3) := by decide +kernel
theorem dX11_ahead_4 : decode cX11_ahead 4 = .ok (.iload_n 1, 1) := by decide +kernel
theorem dX11_ahead_5 : decode cX11_ahead 5 = .ok (.invokevirtual 87, 3) := by decide +kernel
theorem dX11_ahead_8 : decode cX11_ahead 8 = .ok (.ifCond .eq 14, 3) := by decide +kernel
theorem dX11_ahead_11 : decode cX11_ahead 11 = .ok (.aload_n 0, 1) := by decide +kernel
theorem dX11_ahead_12 : decode cX11_ahead 12 = .ok (.getfield 12, 3) := by decide +kernel
theorem dX11_ahead_15 : decode cX11_ahead 15 = .ok (.iload_n 2, 1) := by decide +kernel
theorem dX11_ahead_16 : decode cX11_ahead 16 = .ok (.invokevirtual 87, 3) := by decide +kernel
theorem dX11_ahead_19 : decode cX11_ahead 19 = .ok (.ifCond .ne 10, 3) := by decide +kernel
theorem dX11_ahead_22 : decode cX11_ahead 22 = .ok (.aload_n 0, 1) := by decide +kernel
theorem dX11_ahead_23 : decode cX11_ahead 23 = .ok (.bipush (-3), 2) := by decide +kernel
theorem dX11_ahead_25 : decode cX11_ahead 25 = .ok (.invokevirtual 72, 3) := by decide +kernel
theorem dX11_ahead_28 : decode cX11_ahead 28 = .ok (.ireturn, 1) := by decide +kernel
theorem dX11_ahead_29 : decode cX11_ahead 29 = .ok (.aload_n 0, 1) := by decide +kernel
theorem dX11_ahead_30 : decode cX11_ahead 30 = .ok (.getfield 12, 3) := by decide +kernel
theorem dX11_ahead_33 : decode cX11_ahead 33 = .ok (.getfield 137, 3) := by decide +kernel
theorem dX11_ahead_36 : decode cX11_ahead 36 = .ok (.iload_n 2, 1) := by decide +kernel
theorem dX11_ahead_37 : decode cX11_ahead 37 = .ok (.aaload, 1) := by decide +kernel
theorem dX11_ahead_38 : decode cX11_ahead 38 = .ok (.aload_n 0, 1) := by decide +kernel
theorem dX11_ahead_39 : decode cX11_ahead 39 = .ok (.getfield 12, 3) := by decide +kernel
theorem dX11_ahead_42 : decode cX11_ahead 42 = .ok (.getfield 137, 3) := by decide +kernel
theorem dX11_ahead_45 : decode cX11_ahead 45 = .ok (.iload_n 1, 1) := by decide +kernel
theorem dX11_ahead_46 : decode cX11_ahead 46 = .ok (.aaload, 1) := by decide +kernel
theorem dX11_ahead_47 : decode cX11_ahead 47 = .ok (.invokevirtual 179, 3) := by decide +kernel
theorem dX11_ahead_50 : decode cX11_ahead 50 = .ok (.ifCond .eq 7, 3) := by decide +kernel
theorem dX11_ahead_53 : decode cX11_ahead 53 = .ok (.iload_n 2, 1) := by decide +kernel
theorem dX11_ahead_54 : decode cX11_ahead 54 = .ok (.goto 4, 3) := by decide +kernel
theorem dX11_ahead_57 : decode cX11_ahead 57 = .ok (.iload_n 1, 1) := by decide +kernel
theorem dX11_ahead_58 : decode cX11_ahead 58 = .ok (.ireturn, 1) := by decide +kernel
theorem dX11_feed_0 : decode cX11_feed 0 = .ok (.iload_n 2, 1) := by decide +kernel
theorem dX11_feed_1 : decode cX11_feed 1 = .ok (.ifCond .ge 10, 3) := by decide +kernel
theorem dX11_feed_4 : decode cX11_feed 4 = .ok (.aload_n 0, 1) := by decide +kernel
theorem dX11_feed_5 : decode cX11_feed 5 = .ok (.bipush (-4), 2) := by decide +kernel
theorem dX11_feed_7 : decode cX11_feed 7 = .ok (.invokevirtual 72, 3) := by decide +kernel
theorem dX11_feed_10 : decode cX11_feed 10 = .ok (.ireturn, 1) := by decide +kernel
theorem dX11_feed_11 : decode cX11_feed 11 = .ok (.iload_n 2, 1) := by decide +kernel
theorem dX11_feed_12 : decode cX11_feed 12 = .ok (.bipush 32, 2) := by decide +kernel
theorem dX11_feed_14 : decode cX11_feed 14 = .ok (.if_icmp .le 10, 3) := by decide +kernel
theorem dX11_feed_17 : decode cX11_feed 17 = .ok (.aload_n 0, 1) := by decide +kernel
theorem dX11_feed_18 : decode cX11_feed 18 = .ok (.bipush (-7), 2) := by decide +kernel
theorem dX11_feed_20 : decode cX11_feed 20 = .ok (.invokevirtual 72, 3) := by decide +kernel
theorem dX11_feed_23 : decode cX11_feed 23 = .ok (.ireturn, 1) := by decide +kernel
theorem dX11_feed_24 : decode cX11_feed 24 = .ok (.aload_n 0, 1) := by decide +kernel
theorem dX11_feed_25 : decode cX11_feed 25 = .ok (.getfield 26, 3) := by decide +kernel
theorem dX11_feed_28 : decode cX11_feed 28 = .ok (.iload_n 2, 1) := by decide +kernel
theorem dX11_feed_29 : decode cX11_feed 29 = .ok (.invokevirtual 183, 3) := by decide +kernel
theorem dX11_feed_32 : decode cX11_feed 32 = .ok (.ifCond .ne 10, 3) := by decide +kernel
theorem dX11_feed_35 : decode cX11_feed 35 = .ok (.aload_n 0, 1) := by decide +kernel
theorem dX11_feed_36 : decode cX11_feed 36 = .ok (.bipush (-8), 2) := by decide +kernel
theorem dX11_feed_38 : decode cX11_feed 38 = .ok (.invokevirtual 72, 3) := by decide +kernel
theorem dX11_feed_41 : decode cX11_feed 41 = .ok (.ireturn, 1) := by decide +kernel
theorem dX11_feed_42 : decode cX11_feed 42 = .ok (.iload_n 2, 1) := by decide +kernel
theorem dX11_feed_43 : decode cX11_feed 43 = .ok (.iconst 1, 1) := by decide +kernel
theorem dX11_feed_44 : decode cX11_feed 44 = .ok (.isub, 1) := by decide +kernel
theorem dX11_feed_45 : decode cX11_feed 45 = .ok (.istore_n 3, 1) := by decide +kernel
theorem dX11_feed_46 : decode cX11_feed 46 = .ok (.iload_n 3, 1) := by decide +kernel
theorem dX11_feed_47 : decode cX11_feed 47 = .ok (.ifCond .lt 21, 3) := by decide +kernel
theorem dX11_feed_50 : decode cX11_feed 50 = .ok (.aload_n 0, 1) := by decide +kernel
theorem dX11_feed_51 : decode cX11_feed 51 = .ok (.getfield 26, 3) := by decide +kernel
theorem dX11_feed_54 : decode cX11_feed 54 = .ok (.iload_n 1, 1) := by decide +kernel
theorem dX11_feed_55 : decode cX11_feed 55 = .ok (.iload_n 3, 1) := by decide +kernel
theorem dX11_feed_56 : decode cX11_feed 56 = .ok (.iushr, 1) := by decide +kernel
theorem dX11_feed_57 : decode cX11_feed 57 = .ok (.iconst 1, 1) := by decide +kernel
theorem dX11_feed_58 : decode cX11_feed 58 = .ok (.iand, 1) := by decide +kernel
theorem dX11_feed_59 : decode cX11_feed 59 = .ok (.invokevirtual 186, 3) := by decide +kernel
theorem dX11_feed_62 : decode cX11_feed 62 = .ok (.iinc 3 (-1), 3) := by decide +kernel
theorem dX11_feed_65 : decode cX11_feed 65 = .ok (.goto (-19), 3) := by decide +kernel
theorem dX11_feed_68 : decode cX11_feed 68 = .ok (.aload_n 0, 1) := by decide +kernel
theorem dX11_feed_69 : decode cX11_feed 69 = .ok (.getfield 26, 3) := by decide +kernel
theorem dX11_feed_72 : decode cX11_feed 72 = .ok (.getfield 189, 3) := by decide +kernel
theorem dX11_feed_75 : decode cX11_feed 75 = .ok (.ireturn, 1) := by decide +kernel
theorem dX11_lay_0 : decode cX11_lay 0 = .ok (.aload_n 0, 1) := by decide +kernel
theorem dX11_lay_1 : decode cX11_lay 1 = .ok (.getfield 12, 3) := by decide +kernel
theorem dX11_lay_4 : decode cX11_lay 4 = .ok (.iload_n 1, 1) := by decide +kernel
theorem dX11_lay_5 : decode cX11_lay 5 = .ok (.invokevirtual 87, 3) := by decide +kernel
theorem dX11_lay_8 : decode cX11_lay 8 = .ok (.ifCond .ne 10, 3) := by decide +kernel
theorem dX11_lay_11 : decode cX11_lay 11 = .ok (.aload_n 0, 1) := by decide +kernel
theorem dX11_lay_12 : decode cX11_lay 12 = .ok (.bipush (-3), 2) := by decide +kernel
theorem dX11_lay_14 : decode cX11_lay 14 = .ok (.invokevirtual 72, 3) := by decide +kernel
theorem dX11_lay_17 : decode cX11_lay 17 = .ok (.ireturn, 1) := by decide +kernel
theorem dX11_lay_18 : decode cX11_lay 18 = .ok (.aload_n 0, 1) := by decide +kernel
theorem dX11_lay_19 : decode cX11_lay 19 = .ok (.getfield 19, 3) := by decide +kernel
theorem dX11_lay_22 : decode cX11_lay 22 = .ok (.aload_n 0, 1) := by decide +kernel
theorem dX11_lay_23 : decode cX11_lay 23 = .ok (.getfield 12, 3) := by decide +kernel
theorem dX11_lay_26 : decode cX11_lay 26 = .ok (.getfield 137, 3) := by decide +kernel
theorem dX11_lay_29 : decode cX11_lay 29 = .ok (.iload_n 1, 1) := by decide +kernel
theorem dX11_lay_30 : decode cX11_lay 30 = .ok (.aaload, 1) := by decide +kernel
theorem dX11_lay_31 : decode cX11_lay 31 = .ok (.invokevirtual 164, 3) := by decide +kernel
theorem dX11_lay_34 : decode cX11_lay 34 = .ok (.aload_n 0, 1) := by decide +kernel
theorem dX11_lay_35 : decode cX11_lay 35 = .ok (.getfield 26, 3) := by decide +kernel
theorem dX11_lay_38 : decode cX11_lay 38 = .ok (.aload_n 0, 1) := by decide +kernel
theorem dX11_lay_39 : decode cX11_lay 39 = .ok (.getfield 19, 3) := by decide +kernel
theorem dX11_lay_42 : decode cX11_lay 42 = .ok (.getfield 167, 3) := by decide +kernel
theorem dX11_lay_45 : decode cX11_lay 45 = .ok (.invokevirtual 183, 3) := by decide +kernel
theorem dX11_lay_48 : decode cX11_lay 48 = .ok (.ifCond .ne 10, 3) := by decide +kernel
theorem dX11_lay_51 : decode cX11_lay 51 = .ok (.aload_n 0, 1) := by decide +kernel
theorem dX11_lay_52 : decode cX11_lay 52 = .ok (.bipush (-8), 2) := by decide +kernel
theorem dX11_lay_54 : decode cX11_lay 54 = .ok (.invokevirtual 72, 3) := by decide +kernel
theorem dX11_lay_57 : decode cX11_lay 57 = .ok (.ireturn, 1) := by decide +kernel
theorem dX11_lay_58 : decode cX11_lay 58 = .ok (.iconst 0, 1) := by decide +kernel
theorem dX11_lay_59 : decode cX11_lay 59 = .ok (.istore_n 2, 1) := by decide +kernel
theorem dX11_lay_60 : decode cX11_lay 60 = .ok (.iload_n 2, 1) := by decide +kernel
theorem dX11_lay_61 : decode cX11_lay 61 = .ok (.aload_n 0, 1) := by decide +kernel
theorem dX11_lay_62 : decode cX11_lay 62 = .ok (.getfield 19, 3) := by decide +kernel
theorem dX11_lay_65 : decode cX11_lay 65 = .ok (.getfield 167, 3) := by decide +kernel
theorem dX11_lay_68 : decode cX11_lay 68 = .ok (.if_icmp .ge 24, 3) := by decide +kernel
theorem dX11_lay_71 : decode cX11_lay 71 = .ok (.aload_n 0, 1) := by decide +kernel
theorem dX11_lay_72 : decode cX11_lay 72 = .ok (.getfield 26, 3) := by decide +kernel
theorem dX11_lay_75 : decode cX11_lay 75 = .ok (.aload_n 0, 1) := by decide +kernel
theorem dX11_lay_76 : decode cX11_lay 76 = .ok (.getfield 19, 3) := by decide +kernel
theorem dX11_lay_79 : decode cX11_lay 79 = .ok (.iload_n 2, 1) := by decide +kernel
theorem dX11_lay_80 : decode cX11_lay 80 = .ok (.invokevirtual 170, 3) := by decide +kernel
theorem dX11_lay_83 : decode cX11_lay 83 = .ok (.invokevirtual 186, 3) := by decide +kernel
theorem dX11_lay_86 : decode cX11_lay 86 = .ok (.iinc 2 1, 3) := by decide +kernel
theorem dX11_lay_89 : decode cX11_lay 89 = .ok (.goto (-29), 3) := by decide +kernel
theorem dX11_lay_92 : decode cX11_lay 92 = .ok (.aload_n 0, 1) := by decide +kernel
theorem dX11_lay_93 : decode cX11_lay 93 = .ok (.getfield 26, 3) := by decide +kernel
theorem dX11_lay_96 : decode cX11_lay 96 = .ok (.getfield 189, 3) := by decide +kernel
theorem dX11_lay_99 : decode cX11_lay 99 = .ok (.ireturn, 1) := by decide +kernel
theorem dX11_bend_0 : decode cX11_bend 0 = .ok (.aload_n 0, 1) := by decide +kernel
theorem dX11_bend_1 : decode cX11_bend 1 = .ok (.getfield 26, 3) := by decide +kernel
theorem dX11_bend_4 : decode cX11_bend 4 = .ok (.iload_n 1, 1) := by decide +kernel
theorem dX11_bend_5 : decode cX11_bend 5 = .ok (.invokevirtual 190, 3) := by decide +kernel
theorem dX11_bend_8 : decode cX11_bend 8 = .ok (.ifCond .ne 10, 3) := by decide +kernel
theorem dX11_bend_11 : decode cX11_bend 11 = .ok (.aload_n 0, 1) := by decide +kernel
theorem dX11_bend_12 : decode cX11_bend 12 = .ok (.bipush (-3), 2) := by decide +kernel
theorem dX11_bend_14 : decode cX11_bend 14 = .ok (.invokevirtual 72, 3) := by decide +kernel
theorem dX11_bend_17 : decode cX11_bend 17 = .ok (.ireturn, 1) := by decide +kernel
theorem dX11_bend_18 : decode cX11_bend 18 = .ok (.aload_n 0, 1) := by decide +kernel
theorem dX11_bend_19 : decode cX11_bend 19 = .ok (.getfield 26, 3) := by decide +kernel
theorem dX11_bend_22 : decode cX11_bend 22 = .ok (.getfield 193, 3) := by decide +kernel
theorem dX11_bend_25 : decode cX11_bend 25 = .ok (.iload_n 1, 1) := by decide +kernel
theorem dX11_bend_26 : decode cX11_bend 26 = .ok (.iconst 1, 1) := by decide +kernel
theorem dX11_bend_27 : decode cX11_bend 27 = .ok (.aload_n 0, 1) := by decide +kernel
theorem dX11_bend_28 : decode cX11_bend 28 = .ok (.getfield 26, 3) := by decide +kernel
theorem dX11_bend_31 : decode cX11_bend 31 = .ok (.getfield 193, 3) := by decide +kernel
theorem dX11_bend_34 : decode cX11_bend 34 = .ok (.iload_n 1, 1) := by decide +kernel
theorem dX11_bend_35 : decode cX11_bend 35 = .ok (.iaload, 1) := by decide +kernel
theorem dX11_bend_36 : decode cX11_bend 36 = .ok (.isub, 1) := by decide +kernel
theorem dX11_bend_37 : decode cX11_bend 37 = .ok (.iastore, 1) := by decide +kernel
theorem dX11_bend_38 : decode cX11_bend 38 = .ok (.aload_n 0, 1) := by decide +kernel
theorem dX11_bend_39 : decode cX11_bend 39 = .ok (.getfield 26, 3) := by decide +kernel
theorem dX11_bend_42 : decode cX11_bend 42 = .ok (.getfield 193, 3) := by decide +kernel
theorem dX11_bend_45 : decode cX11_bend 45 = .ok (.iload_n 1, 1) := by decide +kernel
theorem dX11_bend_46 : decode cX11_bend 46 = .ok (.iaload, 1) := by decide +kernel
theorem dX11_bend_47 : decode cX11_bend 47 = .ok (.ireturn, 1) := by decide +kernel
theorem dX11_wipe_0 : decode cX11_wipe 0 = .ok (.aload_n 0, 1) := by decide +kernel
theorem dX11_wipe_1 : decode cX11_wipe 1 = .ok (.getfield 26, 3) := by decide +kernel
theorem dX11_wipe_4 : decode cX11_wipe 4 = .ok (.getfield 189, 3) := by decide +kernel
theorem dX11_wipe_7 : decode cX11_wipe 7 = .ok (.istore_n 1, 1) := by decide +kernel
theorem dX11_wipe_8 : decode cX11_wipe 8 = .ok (.aload_n 0, 1) := by decide +kernel
theorem dX11_wipe_9 : decode cX11_wipe 9 = .ok (.getfield 26, 3) := by decide +kernel
theorem dX11_wipe_12 : decode cX11_wipe 12 = .ok (.iconst 0, 1) := by decide +kernel
theorem dX11_wipe_13 : decode cX11_wipe 13 = .ok (.putfield 189, 3) := by decide +kernel
theorem dX11_wipe_16 : decode cX11_wipe 16 = .ok (.iload_n 1, 1) := by decide +kernel
theorem dX11_wipe_17 : decode cX11_wipe 17 = .ok (.ireturn, 1) := by decide +kernel
theorem dX11_read_0 : decode cX11_read 0 = .ok (.iload_n 1, 1) := by decide +kernel
theorem dX11_read_1 : decode cX11_read 1 = .ok (.iconst 0, 1) := by decide +kernel
theorem dX11_read_2 : decode cX11_read 2 = .ok (.aload_n 0, 1) := by decide +kernel
theorem dX11_read_3 : decode cX11_read 3 = .ok (.getfield 26, 3) := by decide +kernel
theorem dX11_read_6 : decode cX11_read 6 = .ok (.getfield 189, 3) := by decide +kernel
theorem dX11_read_9 : decode cX11_read 9 = .ok (.invokestatic 97, 3) := by decide +kernel
theorem dX11_read_12 : decode cX11_read 12 = .ok (.ifCond .ne 10, 3) := by decide +kernel
theorem dX11_read_15 : decode cX11_read 15 = .ok (.aload_n 0, 1) := by decide +kernel
theorem dX11_read_16 : decode cX11_read 16 = .ok (.bipush (-3), 2) := by decide +kernel
theorem dX11_read_18 : decode cX11_read 18 = .ok (.invokevirtual 72, 3) := by decide +kernel
theorem dX11_read_21 : decode cX11_read 21 = .ok (.ireturn, 1) := by decide +kernel
theorem dX11_read_22 : decode cX11_read 22 = .ok (.aload_n 0, 1) := by decide +kernel
theorem dX11_read_23 : decode cX11_read 23 = .ok (.getfield 35, 3) := by decide +kernel
theorem dX11_read_26 : decode cX11_read 26 = .ok (.iload_n 1, 1) := by decide +kernel
theorem dX11_read_27 : decode cX11_read 27 = .ok (.invokevirtual 196, 3) := by decide +kernel
theorem dX11_read_30 : decode cX11_read 30 = .ok (.aload_n 0, 1) := by decide +kernel
theorem dX11_read_31 : decode cX11_read 31 = .ok (.getfield 35, 3) := by decide +kernel
theorem dX11_read_34 : decode cX11_read 34 = .ok (.getfield 199, 3) := by decide +kernel
theorem dX11_read_37 : decode cX11_read 37 = .ok (.ireturn, 1) := by decide +kernel
theorem dX11_told_0 : decode cX11_told 0 = .ok (.iload_n 1, 1) := by decide +kernel
theorem dX11_told_1 : decode cX11_told 1 = .ok (.iconst 0, 1) := by decide +kernel
theorem dX11_told_2 : decode cX11_told 2 = .ok (.iconst 4, 1) := by decide +kernel
theorem dX11_told_3 : decode cX11_told 3 = .ok (.invokestatic 97, 3) := by decide +kernel
theorem dX11_told_6 : decode cX11_told 6 = .ok (.ifCond .ne 10, 3) := by decide +kernel
theorem dX11_told_9 : decode cX11_told 9 = .ok (.aload_n 0, 1) := by decide +kernel
theorem dX11_told_10 : decode cX11_told 10 = .ok (.bipush (-7), 2) := by decide +kernel
theorem dX11_told_12 : decode cX11_told 12 = .ok (.invokevirtual 72, 3) := by decide +kernel
theorem dX11_told_15 : decode cX11_told 15 = .ok (.ireturn, 1) := by decide +kernel
theorem dX11_told_16 : decode cX11_told 16 = .ok (.aload_n 0, 1) := by decide +kernel
theorem dX11_told_17 : decode cX11_told 17 = .ok (.getfield 35, 3) := by decide +kernel
theorem dX11_told_20 : decode cX11_told 20 = .ok (.getfield 202, 3) := by decide +kernel
theorem dX11_told_23 : decode cX11_told 23 = .ok (.ifCond .ne 10, 3) := by decide +kernel
theorem dX11_told_26 : decode cX11_told 26 = .ok (.aload_n 0, 1) := by decide +kernel
theorem dX11_told_27 : decode cX11_told 27 = .ok (.bipush (-2), 2) := by decide +kernel
theorem dX11_told_29 : decode cX11_told 29 = .ok (.invokevirtual 72, 3) := by decide +kernel
theorem dX11_told_32 : decode cX11_told 32 = .ok (.ireturn, 1) := by decide +kernel
theorem dX11_told_33 : decode cX11_told 33 = .ok (.aload_n 0, 1) := by decide +kernel
theorem dX11_told_34 : decode cX11_told 34 = .ok (.getfield 35, 3) := by decide +kernel
theorem dX11_told_37 : decode cX11_told 37 = .ok (.iload_n 1, 1) := by decide +kernel
theorem dX11_told_38 : decode cX11_told 38 = .ok (.invokevirtual 206, 3) := by decide +kernel
theorem dX11_told_41 : decode cX11_told 41 = .ok (.ireturn, 1) := by decide +kernel
theorem dX11_bytes_0 : decode cX11_bytes 0 = .ok (.aload_n 0, 1) := by decide +kernel
theorem dX11_bytes_1 : decode cX11_bytes 1 = .ok (.getfield 35, 3) := by decide +kernel
theorem dX11_bytes_4 : decode cX11_bytes 4 = .ok (.getfield 207, 3) := by decide +kernel
theorem dX11_bytes_7 : decode cX11_bytes 7 = .ok (.lreturn, 1) := by decide +kernel
theorem dX11_come_0 : decode cX11_come 0 = .ok (.aload_n 0, 1) := by decide +kernel
theorem dX11_come_1 : decode cX11_come 1 = .ok (.getfield 12, 3) := by decide +kernel
theorem dX11_come_4 : decode cX11_come 4 = .ok (.iload_n 1, 1) := by decide +kernel
theorem dX11_come_5 : decode cX11_come 5 = .ok (.invokevirtual 87, 3) := by decide +kernel
theorem dX11_come_8 : decode cX11_come 8 = .ok (.ifCond .ne 10, 3) := by decide +kernel
theorem dX11_come_11 : decode cX11_come 11 = .ok (.aload_n 0, 1) := by decide +kernel
theorem dX11_come_12 : decode cX11_come 12 = .ok (.bipush (-3), 2) := by decide +kernel
theorem dX11_come_14 : decode cX11_come 14 = .ok (.invokevirtual 72, 3) := by decide +kernel
theorem dX11_come_17 : decode cX11_come 17 = .ok (.ireturn, 1) := by decide +kernel
theorem dX11_come_18 : decode cX11_come 18 = .ok (.aload_n 0, 1) := by decide +kernel
theorem dX11_come_19 : decode cX11_come 19 = .ok (.getfield 12, 3) := by decide +kernel
theorem dX11_come_22 : decode cX11_come 22 = .ok (.getfield 137, 3) := by decide +kernel
theorem dX11_come_25 : decode cX11_come 25 = .ok (.iload_n 1, 1) := by decide +kernel
theorem dX11_come_26 : decode cX11_come 26 = .ok (.aaload, 1) := by decide +kernel
theorem dX11_come_27 : decode cX11_come 27 = .ok (.astore_n 2, 1) := by decide +kernel
theorem dX11_come_28 : decode cX11_come 28 = .ok (.aload_n 2, 1) := by decide +kernel
theorem dX11_come_29 : decode cX11_come 29 = .ok (.getfield 141, 3) := by decide +kernel
theorem dX11_come_32 : decode cX11_come 32 = .ok (.iconst 2, 1) := by decide +kernel
theorem dX11_come_33 : decode cX11_come 33 = .ok (.if_icmp .eq 10, 3) := by decide +kernel
theorem dX11_come_36 : decode cX11_come 36 = .ok (.aload_n 0, 1) := by decide +kernel
theorem dX11_come_37 : decode cX11_come 37 = .ok (.bipush (-5), 2) := by decide +kernel
theorem dX11_come_39 : decode cX11_come 39 = .ok (.invokevirtual 72, 3) := by decide +kernel
theorem dX11_come_42 : decode cX11_come 42 = .ok (.ireturn, 1) := by decide +kernel
theorem dX11_come_43 : decode cX11_come 43 = .ok (.aload_n 2, 1) := by decide +kernel
theorem dX11_come_44 : decode cX11_come 44 = .ok (.aload_n 0, 1) := by decide +kernel
theorem dX11_come_45 : decode cX11_come 45 = .ok (.getfield 44, 3) := by decide +kernel
theorem dX11_come_48 : decode cX11_come 48 = .ok (.getfield 117, 3) := by decide +kernel
theorem dX11_come_51 : decode cX11_come 51 = .ok (.invokevirtual 210, 3) := by decide +kernel
theorem dX11_come_54 : decode cX11_come 54 = .ok (.ifCond .ne 13, 3) := by decide +kernel
theorem dX11_come_57 : decode cX11_come 57 = .ok (.aload_n 2, 1) := by decide +kernel
theorem dX11_come_58 : decode cX11_come 58 = .ok (.getfield 213, 3) := by decide +kernel
theorem dX11_come_61 : decode cX11_come 61 = .ok (.invokevirtual 217, 3) := by decide +kernel
theorem dX11_come_64 : decode cX11_come 64 = .ok (.ifCond .eq 10, 3) := by decide +kernel
theorem dX11_come_67 : decode cX11_come 67 = .ok (.aload_n 0, 1) := by decide +kernel
theorem dX11_come_68 : decode cX11_come 68 = .ok (.bipush (-7), 2) := by decide +kernel
theorem dX11_come_70 : decode cX11_come 70 = .ok (.invokevirtual 72, 3) := by decide +kernel
theorem dX11_come_73 : decode cX11_come 73 = .ok (.ireturn, 1) := by decide +kernel
theorem dX11_come_74 : decode cX11_come 74 = .ok (.aload_n 2, 1) := by decide +kernel
theorem dX11_come_75 : decode cX11_come 75 = .ok (.iconst 1, 1) := by decide +kernel
theorem dX11_come_76 : decode cX11_come 76 = .ok (.putfield 221, 3) := by decide +kernel
theorem dX11_come_79 : decode cX11_come 79 = .ok (.aload_n 2, 1) := by decide +kernel
theorem dX11_come_80 : decode cX11_come 80 = .ok (.aload_n 0, 1) := by decide +kernel
theorem dX11_come_81 : decode cX11_come 81 = .ok (.getfield 44, 3) := by decide +kernel
theorem dX11_come_84 : decode cX11_come 84 = .ok (.getfield 117, 3) := by decide +kernel
theorem dX11_come_87 : decode cX11_come 87 = .ok (.putfield 224, 3) := by decide +kernel
theorem dX11_come_90 : decode cX11_come 90 = .ok (.aload_n 0, 1) := by decide +kernel
theorem dX11_come_91 : decode cX11_come 91 = .ok (.getfield 44, 3) := by decide +kernel
theorem dX11_come_94 : decode cX11_come 94 = .ok (.invokevirtual 128, 3) := by decide +kernel
theorem dX11_come_97 : decode cX11_come 97 = .ok (.iconst 1, 1) := by decide +kernel
theorem dX11_come_98 : decode cX11_come 98 = .ok (.ireturn, 1) := by decide +kernel
theorem dX11_disturb_0 : decode cX11_disturb 0 = .ok (.iload_n 1, 1) := by decide +kernel
theorem dX11_disturb_1 : decode cX11_disturb 1 = .ok (.aload_n 0, 1) := by decide +kernel
theorem dX11_disturb_2 : decode cX11_disturb 2 = .ok (.getfield 44, 3) := by decide +kernel
theorem dX11_disturb_5 : decode cX11_disturb 5 = .ok (.getfield 117, 3) := by decide +kernel
theorem dX11_disturb_8 : decode cX11_disturb 8 = .ok (.if_icmp .lt 17, 3) := by decide +kernel
theorem dX11_disturb_11 : decode cX11_disturb 11 = .ok (.aload_n 0, 1) := by decide +kernel
theorem dX11_disturb_12 : decode cX11_disturb 12 = .ok (.getfield 44, 3) := by decide +kernel
theorem dX11_disturb_15 : decode cX11_disturb 15 = .ok (.getfield 227, 3) := by decide +kernel
theorem dX11_disturb_18 : decode cX11_disturb 18 = .ok (.iload_n 1, 1) := by decide +kernel
theorem dX11_disturb_19 : decode cX11_disturb 19 = .ok (.invokevirtual 231, 3) := by decide +kernel
theorem dX11_disturb_22 : decode cX11_disturb 22 = .ok (.ifCond .eq 10, 3) := by decide +kernel
theorem dX11_disturb_25 : decode cX11_disturb 25 = .ok (.aload_n 0, 1) := by decide +kernel
theorem dX11_disturb_26 : decode cX11_disturb 26 = .ok (.bipush (-7), 2) := by decide +kernel
theorem dX11_disturb_28 : decode cX11_disturb 28 = .ok (.invokevirtual 72, 3) := by decide +kernel
theorem dX11_disturb_31 : decode cX11_disturb 31 = .ok (.ireturn, 1) := by decide +kernel
theorem dX11_disturb_32 : decode cX11_disturb 32 = .ok (.aload_n 0, 1) := by decide +kernel
theorem dX11_disturb_33 : decode cX11_disturb 33 = .ok (.getfield 44, 3) := by decide +kernel
theorem dX11_disturb_36 : decode cX11_disturb 36 = .ok (.getfield 227, 3) := by decide +kernel
theorem dX11_disturb_39 : decode cX11_disturb 39 = .ok (.getfield 236, 3) := by decide +kernel
theorem dX11_disturb_42 : decode cX11_disturb 42 = .ok (.bipush 60, 2) := by decide +kernel
theorem dX11_disturb_44 : decode cX11_disturb 44 = .ok (.if_icmp .lt 10, 3) := by decide +kernel
theorem dX11_disturb_47 : decode cX11_disturb 47 = .ok (.aload_n 0, 1) := by decide +kernel
theorem dX11_disturb_48 : decode cX11_disturb 48 = .ok (.bipush (-8), 2) := by decide +kernel
theorem dX11_disturb_50 : decode cX11_disturb 50 = .ok (.invokevirtual 72, 3) := by decide +kernel
theorem dX11_disturb_53 : decode cX11_disturb 53 = .ok (.ireturn, 1) := by decide +kernel
theorem dX11_disturb_54 : decode cX11_disturb 54 = .ok (.aload_n 0, 1) := by decide +kernel
theorem dX11_disturb_55 : decode cX11_disturb 55 = .ok (.getfield 44, 3) := by decide +kernel
theorem dX11_disturb_58 : decode cX11_disturb 58 = .ok (.getfield 227, 3) := by decide +kernel
theorem dX11_disturb_61 : decode cX11_disturb 61 = .ok (.iload_n 1, 1) := by decide +kernel
theorem dX11_disturb_62 : decode cX11_disturb 62 = .ok (.invokevirtual 239, 3) := by decide +kernel
theorem dX11_disturb_65 : decode cX11_disturb 65 = .ok (.aload_n 0, 1) := by decide +kernel
theorem dX11_disturb_66 : decode cX11_disturb 66 = .ok (.getfield 44, 3) := by decide +kernel
theorem dX11_disturb_69 : decode cX11_disturb 69 = .ok (.getfield 227, 3) := by decide +kernel
theorem dX11_disturb_72 : decode cX11_disturb 72 = .ok (.getfield 236, 3) := by decide +kernel
theorem dX11_disturb_75 : decode cX11_disturb 75 = .ok (.ireturn, 1) := by decide +kernel
theorem dX11_run_0 : decode cX11_run 0 = .ok (.iload_n 1, 1) := by decide +kernel
theorem dX11_run_1 : decode cX11_run 1 = .ok (.ifCond .ge 10, 3) := by decide +kernel
theorem dX11_run_4 : decode cX11_run 4 = .ok (.aload_n 0, 1) := by decide +kernel
theorem dX11_run_5 : decode cX11_run 5 = .ok (.bipush (-4), 2) := by decide +kernel
theorem dX11_run_7 : decode cX11_run 7 = .ok (.invokevirtual 72, 3) := by decide +kernel
theorem dX11_run_10 : decode cX11_run 10 = .ok (.ireturn, 1) := by decide +kernel
theorem dX11_run_11 : decode cX11_run 11 = .ok (.iload_n 1, 1) := by decide +kernel
theorem dX11_run_12 : decode cX11_run 12 = .ok (.iconst 1, 1) := by decide +kernel
theorem dX11_run_13 : decode cX11_run 13 = .ok (.sipush 5000, 3) := by decide +kernel
theorem dX11_run_16 : decode cX11_run 16 = .ok (.invokestatic 97, 3) := by decide +kernel
theorem dX11_run_19 : decode cX11_run 19 = .ok (.ifCond .ne 10, 3) := by decide +kernel
theorem dX11_run_22 : decode cX11_run 22 = .ok (.aload_n 0, 1) := by decide +kernel
theorem dX11_run_23 : decode cX11_run 23 = .ok (.bipush (-7), 2) := by decide +kernel
theorem dX11_run_25 : decode cX11_run 25 = .ok (.invokevirtual 72, 3) := by decide +kernel
theorem dX11_run_28 : decode cX11_run 28 = .ok (.ireturn, 1) := by decide +kernel
theorem dX11_run_29 : decode cX11_run 29 = .ok (.aload_n 0, 1) := by decide +kernel
theorem dX11_run_30 : decode cX11_run 30 = .ok (.getfield 44, 3) := by decide +kernel
theorem dX11_run_33 : decode cX11_run 33 = .ok (.getfield 242, 3) := by decide +kernel
theorem dX11_run_36 : decode cX11_run 36 = .ok (.istore_n 2, 1) := by decide +kernel
theorem dX11_run_37 : decode cX11_run 37 = .ok (.iconst 0, 1) := by decide +kernel
theorem dX11_run_38 : decode cX11_run 38 = .ok (.istore_n 3, 1) := by decide +kernel
theorem dX11_run_39 : decode cX11_run 39 = .ok (.iload_n 3, 1) := by decide +kernel
theorem dX11_run_40 : decode cX11_run 40 = .ok (.iload_n 1, 1) := by decide +kernel
theorem dX11_run_41 : decode cX11_run 41 = .ok (.if_icmp .ge 16, 3) := by decide +kernel
theorem dX11_run_44 : decode cX11_run 44 = .ok (.aload_n 0, 1) := by decide +kernel
theorem dX11_run_45 : decode cX11_run 45 = .ok (.getfield 44, 3) := by decide +kernel
theorem dX11_run_48 : decode cX11_run 48 = .ok (.invokevirtual 245, 3) := by decide +kernel
theorem dX11_run_51 : decode cX11_run 51 = .ok (.iinc 3 1, 3) := by decide +kernel
theorem dX11_run_54 : decode cX11_run 54 = .ok (.goto (-15), 3) := by decide +kernel
theorem dX11_run_57 : decode cX11_run 57 = .ok (.aload_n 0, 1) := by decide +kernel
theorem dX11_run_58 : decode cX11_run 58 = .ok (.getfield 44, 3) := by decide +kernel
theorem dX11_run_61 : decode cX11_run 61 = .ok (.getfield 242, 3) := by decide +kernel
theorem dX11_run_64 : decode cX11_run 64 = .ok (.iload_n 2, 1) := by decide +kernel
theorem dX11_run_65 : decode cX11_run 65 = .ok (.isub, 1) := by decide +kernel
theorem dX11_run_66 : decode cX11_run 66 = .ok (.ireturn, 1) := by decide +kernel
theorem dX11_count_0 : decode cX11_count 0 = .ok (.iload_n 1, 1) := by decide +kernel
theorem dX11_count_1 : decode cX11_count 1 = .ok (.iconst 0, 1) := by decide +kernel
theorem dX11_count_2 : decode cX11_count 2 = .ok (.bipush 7, 2) := by decide +kernel
theorem dX11_count_4 : decode cX11_count 4 = .ok (.invokestatic 97, 3) := by decide +kernel
theorem dX11_count_7 : decode cX11_count 7 = .ok (.ifCond .ne 10, 3) := by decide +kernel
theorem dX11_count_10 : decode cX11_count 10 = .ok (.aload_n 0, 1) := by decide +kernel
theorem dX11_count_11 : decode cX11_count 11 = .ok (.bipush (-7), 2) := by decide +kernel
theorem dX11_count_13 : decode cX11_count 13 = .ok (.invokevirtual 72, 3) := by decide +kernel
theorem dX11_count_16 : decode cX11_count 16 = .ok (.ireturn, 1) := by decide +kernel
theorem dX11_count_17 : decode cX11_count 17 = .ok (.aload_n 0, 1) := by decide +kernel
theorem dX11_count_18 : decode cX11_count 18 = .ok (.getfield 44, 3) := by decide +kernel
theorem dX11_count_21 : decode cX11_count 21 = .ok (.iload_n 1, 1) := by decide +kernel
theorem dX11_count_22 : decode cX11_count 22 = .ok (.invokevirtual 248, 3) := by decide +kernel
theorem dX11_count_25 : decode cX11_count 25 = .ok (.ireturn, 1) := by decide +kernel
theorem dX11_log_0 : decode cX11_log 0 = .ok (.aload_n 0, 1) := by decide +kernel
theorem dX11_log_1 : decode cX11_log 1 = .ok (.getfield 44, 3) := by decide +kernel
theorem dX11_log_4 : decode cX11_log 4 = .ok (.getfield 249, 3) := by decide +kernel
theorem dX11_log_7 : decode cX11_log 7 = .ok (.iload_n 1, 1) := by decide +kernel
theorem dX11_log_8 : decode cX11_log 8 = .ok (.invokevirtual 253, 3) := by decide +kernel
theorem dX11_log_11 : decode cX11_log 11 = .ok (.ifCond .ne 10, 3) := by decide +kernel
theorem dX11_log_14 : decode cX11_log 14 = .ok (.aload_n 0, 1) := by decide +kernel
theorem dX11_log_15 : decode cX11_log 15 = .ok (.bipush (-3), 2) := by decide +kernel
theorem dX11_log_17 : decode cX11_log 17 = .ok (.invokevirtual 72, 3) := by decide +kernel
theorem dX11_log_20 : decode cX11_log 20 = .ok (.ireturn, 1) := by decide +kernel
theorem dX11_log_21 : decode cX11_log 21 = .ok (.iload_n 2, 1) := by decide +kernel
theorem dX11_log_22 : decode cX11_log 22 = .ok (.iconst 0, 1) := by decide +kernel
theorem dX11_log_23 : decode cX11_log 23 = .ok (.iconst 3, 1) := by decide +kernel
theorem dX11_log_24 : decode cX11_log 24 = .ok (.invokestatic 97, 3) := by decide +kernel
theorem dX11_log_27 : decode cX11_log 27 = .ok (.ifCond .ne 10, 3) := by decide +kernel
theorem dX11_log_30 : decode cX11_log 30 = .ok (.aload_n 0, 1) := by decide +kernel
theorem dX11_log_31 : decode cX11_log 31 = .ok (.bipush (-7), 2) := by decide +kernel
theorem dX11_log_33 : decode cX11_log 33 = .ok (.invokevirtual 72, 3) := by decide +kernel
theorem dX11_log_36 : decode cX11_log 36 = .ok (.ireturn, 1) := by decide +kernel
theorem dX11_log_37 : decode cX11_log 37 = .ok (.aload_n 0, 1) := by decide +kernel
theorem dX11_log_38 : decode cX11_log 38 = .ok (.getfield 44, 3) := by decide +kernel
theorem dX11_log_41 : decode cX11_log 41 = .ok (.getfield 249, 3) := by decide +kernel
theorem dX11_log_44 : decode cX11_log 44 = .ok (.iload_n 1, 1) := by decide +kernel
theorem dX11_log_45 : decode cX11_log 45 = .ok (.iload_n 2, 1) := by decide +kernel
theorem dX11_log_46 : decode cX11_log 46 = .ok (.invokevirtual 258, 3) := by decide +kernel
theorem dX11_log_49 : decode cX11_log 49 = .ok (.ireturn, 1) := by decide +kernel
theorem dX11_every_0 : decode cX11_every 0 = .ok (.iload_n 1, 1) := by decide +kernel
theorem dX11_every_1 : decode cX11_every 1 = .ok (.ifCond .eq 21, 3) := by decide +kernel
theorem dX11_every_4 : decode cX11_every 4 = .ok (.iload_n 1, 1) := by decide +kernel
theorem dX11_every_5 : decode cX11_every 5 = .ok (.bipush 100, 2) := by decide +kernel
theorem dX11_every_7 : decode cX11_every 7 = .ok (.ldc 147, 2) := by decide +kernel
theorem dX11_every_9 : decode cX11_every 9 = .ok (.invokestatic 97, 3) := by decide +kernel
theorem dX11_every_12 : decode cX11_every 12 = .ok (.ifCond .ne 10, 3) := by decide +kernel
theorem dX11_every_15 : decode cX11_every 15 = .ok (.aload_n 0, 1) := by decide +kernel
theorem dX11_every_16 : decode cX11_every 16 = .ok (.bipush (-7), 2) := by decide +kernel
theorem dX11_every_18 : decode cX11_every 18 = .ok (.invokevirtual 72, 3) := by decide +kernel
theorem dX11_every_21 : decode cX11_every 21 = .ok (.ireturn, 1) := by decide +kernel
theorem dX11_every_22 : decode cX11_every 22 = .ok (.aload_n 0, 1) := by decide +kernel
theorem dX11_every_23 : decode cX11_every 23 = .ok (.getfield 53, 3) := by decide +kernel
theorem dX11_every_26 : decode cX11_every 26 = .ok (.getfield 261, 3) := by decide +kernel
theorem dX11_every_29 : decode cX11_every 29 = .ok (.istore_n 2, 1) := by decide +kernel
theorem dX11_every_30 : decode cX11_every 30 = .ok (.iload_n 1, 1) := by decide +kernel
theorem dX11_every_31 : decode cX11_every 31 = .ok (.iload_n 2, 1) := by decide +kernel
theorem dX11_every_32 : decode cX11_every 32 = .ok (.if_icmp .eq 18, 3) := by decide +kernel
theorem dX11_every_35 : decode cX11_every 35 = .ok (.aload_n 0, 1) := by decide +kernel
theorem dX11_every_36 : decode cX11_every 36 = .ok (.getfield 53, 3) := by decide +kernel
theorem dX11_every_39 : decode cX11_every 39 = .ok (.iload_n 1, 1) := by decide +kernel
theorem dX11_every_40 : decode cX11_every 40 = .ok (.putfield 261, 3) := by decide +kernel
theorem dX11_every_43 : decode cX11_every 43 = .ok (.aload_n 0, 1) := by decide +kernel
theorem dX11_every_44 : decode cX11_every 44 = .ok (.getfield 53, 3) := by decide +kernel
theorem dX11_every_47 : decode cX11_every 47 = .ok (.invokevirtual 131, 3) := by decide +kernel
theorem dX11_every_50 : decode cX11_every 50 = .ok (.iload_n 2, 1) := by decide +kernel
theorem dX11_every_51 : decode cX11_every 51 = .ok (.ireturn, 1) := by decide +kernel
theorem dX11_most_0 : decode cX11_most 0 = .ok (.aload_n 0, 1) := by decide +kernel
theorem dX11_most_1 : decode cX11_most 1 = .ok (.getfield 12, 3) := by decide +kernel
theorem dX11_most_4 : decode cX11_most 4 = .ok (.iload_n 1, 1) := by decide +kernel
theorem dX11_most_5 : decode cX11_most 5 = .ok (.invokevirtual 87, 3) := by decide +kernel
theorem dX11_most_8 : decode cX11_most 8 = .ok (.ifCond .ne 10, 3) := by decide +kernel
theorem dX11_most_11 : decode cX11_most 11 = .ok (.aload_n 0, 1) := by decide +kernel
theorem dX11_most_12 : decode cX11_most 12 = .ok (.bipush (-3), 2) := by decide +kernel
theorem dX11_most_14 : decode cX11_most 14 = .ok (.invokevirtual 72, 3) := by decide +kernel
theorem dX11_most_17 : decode cX11_most 17 = .ok (.ireturn, 1) := by decide +kernel
theorem dX11_most_18 : decode cX11_most 18 = .ok (.aload_n 0, 1) := by decide +kernel
theorem dX11_most_19 : decode cX11_most 19 = .ok (.getfield 12, 3) := by decide +kernel
theorem dX11_most_22 : decode cX11_most 22 = .ok (.getfield 137, 3) := by decide +kernel
theorem dX11_most_25 : decode cX11_most 25 = .ok (.iload_n 1, 1) := by decide +kernel
theorem dX11_most_26 : decode cX11_most 26 = .ok (.aaload, 1) := by decide +kernel
theorem dX11_most_27 : decode cX11_most 27 = .ok (.invokevirtual 264, 3) := by decide +kernel
theorem dX11_most_30 : decode cX11_most 30 = .ok (.ireturn, 1) := by decide +kernel
theorem dX11_worst_0 : decode cX11_worst 0 = .ok (.aload_n 0, 1) := by decide +kernel
theorem dX11_worst_1 : decode cX11_worst 1 = .ok (.getfield 12, 3) := by decide +kernel
theorem dX11_worst_4 : decode cX11_worst 4 = .ok (.iload_n 1, 1) := by decide +kernel
theorem dX11_worst_5 : decode cX11_worst 5 = .ok (.invokevirtual 87, 3) := by decide +kernel
theorem dX11_worst_8 : decode cX11_worst 8 = .ok (.ifCond .ne 10, 3) := by decide +kernel
theorem dX11_worst_11 : decode cX11_worst 11 = .ok (.aload_n 0, 1) := by decide +kernel
theorem dX11_worst_12 : decode cX11_worst 12 = .ok (.bipush (-3), 2) := by decide +kernel
theorem dX11_worst_14 : decode cX11_worst 14 = .ok (.invokevirtual 72, 3) := by decide +kernel
theorem dX11_worst_17 : decode cX11_worst 17 = .ok (.ireturn, 1) := by decide +kernel
theorem dX11_worst_18 : decode cX11_worst 18 = .ok (.aload_n 0, 1) := by decide +kernel
theorem dX11_worst_19 : decode cX11_worst 19 = .ok (.getfield 53, 3) := by decide +kernel
theorem dX11_worst_22 : decode cX11_worst 22 = .ok (.aload_n 0, 1) := by decide +kernel
theorem dX11_worst_23 : decode cX11_worst 23 = .ok (.getfield 12, 3) := by decide +kernel
theorem dX11_worst_26 : decode cX11_worst 26 = .ok (.getfield 137, 3) := by decide +kernel
theorem dX11_worst_29 : decode cX11_worst 29 = .ok (.iload_n 1, 1) := by decide +kernel
theorem dX11_worst_30 : decode cX11_worst 30 = .ok (.aaload, 1) := by decide +kernel
theorem dX11_worst_31 : decode cX11_worst 31 = .ok (.invokevirtual 267, 3) := by decide +kernel
theorem dX11_worst_34 : decode cX11_worst 34 = .ok (.ireturn, 1) := by decide +kernel
theorem dX11_misses_0 : decode cX11_misses 0 = .ok (.iconst 0, 1) := by decide +kernel
theorem dX11_misses_1 : decode cX11_misses 1 = .ok (.istore_n 1, 1) := by decide +kernel
theorem dX11_misses_2 : decode cX11_misses 2 = .ok (.iconst 0, 1) := by decide +kernel
theorem dX11_misses_3 : decode cX11_misses 3 = .ok (.istore_n 2, 1) := by decide +kernel
theorem dX11_misses_4 : decode cX11_misses 4 = .ok (.iload_n 2, 1) := by decide +kernel
theorem dX11_misses_5 : decode cX11_misses 5 = .ok (.aload_n 0, 1) := by decide +kernel
theorem dX11_misses_6 : decode cX11_misses 6 = .ok (.getfield 12, 3) := by decide +kernel
theorem dX11_misses_9 : decode cX11_misses 9 = .ok (.getfield 105, 3) := by decide +kernel
theorem dX11_misses_12 : decode cX11_misses 12 = .ok (.if_icmp .ge 37, 3) := by decide +kernel
theorem dX11_misses_15 : decode cX11_misses 15 = .ok (.aload_n 0, 1) := by decide +kernel
theorem dX11_misses_16 : decode cX11_misses 16 = .ok (.getfield 12, 3) := by decide +kernel
theorem dX11_misses_19 : decode cX11_misses 19 = .ok (.getfield 137, 3) := by decide +kernel
theorem dX11_misses_22 : decode cX11_misses 22 = .ok (.iload_n 2, 1) := by decide +kernel
theorem dX11_misses_23 : decode cX11_misses 23 = .ok (.aaload, 1) := by decide +kernel
theorem dX11_misses_24 : decode cX11_misses 24 = .ok (.astore_n 3, 1) := by decide +kernel
theorem dX11_misses_25 : decode cX11_misses 25 = .ok (.aload_n 3, 1) := by decide +kernel
theorem dX11_misses_26 : decode cX11_misses 26 = .ok (.aload_n 0, 1) := by decide +kernel
theorem dX11_misses_27 : decode cX11_misses 27 = .ok (.getfield 53, 3) := by decide +kernel
theorem dX11_misses_30 : decode cX11_misses 30 = .ok (.aload_n 3, 1) := by decide +kernel
theorem dX11_misses_31 : decode cX11_misses 31 = .ok (.invokevirtual 267, 3) := by decide +kernel
theorem dX11_misses_34 : decode cX11_misses 34 = .ok (.invokevirtual 271, 3) := by decide +kernel
theorem dX11_misses_37 : decode cX11_misses 37 = .ok (.ifCond .ne 6, 3) := by decide +kernel
theorem dX11_misses_40 : decode cX11_misses 40 = .ok (.iinc 1 1, 3) := by decide +kernel
theorem dX11_misses_43 : decode cX11_misses 43 = .ok (.iinc 2 1, 3) := by decide +kernel
theorem dX11_misses_46 : decode cX11_misses 46 = .ok (.goto (-42), 3) := by decide +kernel
theorem dX11_misses_49 : decode cX11_misses 49 = .ok (.iload_n 1, 1) := by decide +kernel
theorem dX11_misses_50 : decode cX11_misses 50 = .ok (.ireturn, 1) := by decide +kernel
theorem dX11_load_0 : decode cX11_load 0 = .ok (.lconst 0, 1) := by decide +kernel
theorem dX11_load_1 : decode cX11_load 1 = .ok (.lstore_n 1, 1) := by decide +kernel
theorem dX11_load_2 : decode cX11_load 2 = .ok (.iconst 0, 1) := by decide +kernel
theorem dX11_load_3 : decode cX11_load 3 = .ok (.istore_n 3, 1) := by decide +kernel
theorem dX11_load_4 : decode cX11_load 4 = .ok (.iload_n 3, 1) := by decide +kernel
theorem dX11_load_5 : decode cX11_load 5 = .ok (.aload_n 0, 1) := by decide +kernel
theorem dX11_load_6 : decode cX11_load 6 = .ok (.getfield 12, 3) := by decide +kernel
theorem dX11_load_9 : decode cX11_load 9 = .ok (.getfield 105, 3) := by decide +kernel
theorem dX11_load_12 : decode cX11_load 12 = .ok (.if_icmp .ge 42, 3) := by decide +kernel
theorem dX11_load_15 : decode cX11_load 15 = .ok (.aload_n 0, 1) := by decide +kernel
theorem dX11_load_16 : decode cX11_load 16 = .ok (.getfield 12, 3) := by decide +kernel
theorem dX11_load_19 : decode cX11_load 19 = .ok (.getfield 137, 3) := by decide +kernel
theorem dX11_load_22 : decode cX11_load 22 = .ok (.iload_n 3, 1) := by decide +kernel
theorem dX11_load_23 : decode cX11_load 23 = .ok (.aaload, 1) := by decide +kernel
theorem dX11_load_24 : decode cX11_load 24 = .ok (.astore 4, 2) := by decide +kernel
theorem dX11_load_26 : decode cX11_load 26 = .ok (.lload_n 1, 1) := by decide +kernel
theorem dX11_load_27 : decode cX11_load 27 = .ok (.ldc2_w 274, 3) := by decide +kernel
theorem dX11_load_30 : decode cX11_load 30 = .ok (.aload 4, 2) := by decide +kernel
theorem dX11_load_32 : decode cX11_load 32 = .ok (.invokevirtual 264, 3) := by decide +kernel
theorem dX11_load_35 : decode cX11_load 35 = .ok (.i2l, 1) := by decide +kernel
theorem dX11_load_36 : decode cX11_load 36 = .ok (.lmul, 1) := by decide +kernel
theorem dX11_load_37 : decode cX11_load 37 = .ok (.aload 4, 2) := by decide +kernel
theorem dX11_load_39 : decode cX11_load 39 = .ok (.getfield 276, 3) := by decide +kernel
theorem dX11_load_42 : decode cX11_load 42 = .ok (.i2l, 1) := by decide +kernel
theorem dX11_load_43 : decode cX11_load 43 = .ok (.invokestatic 279, 3) := by decide +kernel
theorem dX11_load_46 : decode cX11_load 46 = .ok (.ladd, 1) := by decide +kernel
theorem dX11_load_47 : decode cX11_load 47 = .ok (.lstore_n 1, 1) := by decide +kernel
theorem dX11_load_48 : decode cX11_load 48 = .ok (.iinc 3 1, 3) := by decide +kernel
theorem dX11_load_51 : decode cX11_load 51 = .ok (.goto (-47), 3) := by decide +kernel
theorem dX11_load_54 : decode cX11_load 54 = .ok (.lload_n 1, 1) := by decide +kernel
theorem dX11_load_55 : decode cX11_load 55 = .ok (.lreturn, 1) := by decide +kernel
theorem dX11_order_0 : decode cX11_order 0 = .ok (.aload_n 0, 1) := by decide +kernel
theorem dX11_order_1 : decode cX11_order 1 = .ok (.getfield 53, 3) := by decide +kernel
theorem dX11_order_4 : decode cX11_order 4 = .ok (.invokevirtual 283, 3) := by decide +kernel
theorem dX11_order_7 : decode cX11_order 7 = .ok (.ifCond .eq 7, 3) := by decide +kernel
theorem dX11_order_10 : decode cX11_order 10 = .ok (.iconst 1, 1) := by decide +kernel
theorem dX11_order_11 : decode cX11_order 11 = .ok (.goto 4, 3) := by decide +kernel
theorem dX11_order_14 : decode cX11_order 14 = .ok (.iconst 0, 1) := by decide +kernel
theorem dX11_order_15 : decode cX11_order 15 = .ok (.ireturn, 1) := by decide +kernel
theorem dX11_place_0 : decode cX11_place 0 = .ok (.aload_n 0, 1) := by decide +kernel
theorem dX11_place_1 : decode cX11_place 1 = .ok (.getfield 53, 3) := by decide +kernel
theorem dX11_place_4 : decode cX11_place 4 = .ok (.getfield 286, 3) := by decide +kernel
theorem dX11_place_7 : decode cX11_place 7 = .ok (.ifCond .ne 10, 3) := by decide +kernel
theorem dX11_place_10 : decode cX11_place 10 = .ok (.aload_n 0, 1) := by decide +kernel
theorem dX11_place_11 : decode cX11_place 11 = .ok (.bipush (-2), 2) := by decide +kernel
theorem dX11_place_13 : decode cX11_place 13 = .ok (.invokevirtual 72, 3) := by decide +kernel
theorem dX11_place_16 : decode cX11_place 16 = .ok (.ireturn, 1) := by decide +kernel
theorem dX11_place_17 : decode cX11_place 17 = .ok (.aload_n 0, 1) := by decide +kernel
theorem dX11_place_18 : decode cX11_place 18 = .ok (.getfield 12, 3) := by decide +kernel
theorem dX11_place_21 : decode cX11_place 21 = .ok (.iload_n 1, 1) := by decide +kernel
theorem dX11_place_22 : decode cX11_place 22 = .ok (.invokevirtual 87, 3) := by decide +kernel
theorem dX11_place_25 : decode cX11_place 25 = .ok (.ifCond .ne 10, 3) := by decide +kernel
theorem dX11_place_28 : decode cX11_place 28 = .ok (.aload_n 0, 1) := by decide +kernel
theorem dX11_place_29 : decode cX11_place 29 = .ok (.bipush (-3), 2) := by decide +kernel
theorem dX11_place_31 : decode cX11_place 31 = .ok (.invokevirtual 72, 3) := by decide +kernel
theorem dX11_place_34 : decode cX11_place 34 = .ok (.ireturn, 1) := by decide +kernel
theorem dX11_place_35 : decode cX11_place 35 = .ok (.aload_n 0, 1) := by decide +kernel
theorem dX11_place_36 : decode cX11_place 36 = .ok (.getfield 53, 3) := by decide +kernel
theorem dX11_place_39 : decode cX11_place 39 = .ok (.getfield 289, 3) := by decide +kernel
theorem dX11_place_42 : decode cX11_place 42 = .ok (.iload_n 1, 1) := by decide +kernel
theorem dX11_place_43 : decode cX11_place 43 = .ok (.iaload, 1) := by decide +kernel
theorem dX11_place_44 : decode cX11_place 44 = .ok (.ireturn, 1) := by decide +kernel
theorem dX11_give_0 : decode cX11_give 0 = .ok (.aload_n 0, 1) := by decide +kernel
theorem dX11_give_1 : decode cX11_give 1 = .ok (.getfield 53, 3) := by decide +kernel
theorem dX11_give_4 : decode cX11_give 4 = .ok (.getfield 286, 3) := by decide +kernel
theorem dX11_give_7 : decode cX11_give 7 = .ok (.ifCond .ne 10, 3) := by decide +kernel
theorem dX11_give_10 : decode cX11_give 10 = .ok (.aload_n 0, 1) := by decide +kernel
theorem dX11_give_11 : decode cX11_give 11 = .ok (.bipush (-2), 2) := by decide +kernel
theorem dX11_give_13 : decode cX11_give 13 = .ok (.invokevirtual 72, 3) := by decide +kernel
theorem dX11_give_16 : decode cX11_give 16 = .ok (.ireturn, 1) := by decide +kernel
theorem dX11_give_17 : decode cX11_give 17 = .ok (.aload_n 0, 1) := by decide +kernel
theorem dX11_give_18 : decode cX11_give 18 = .ok (.getfield 53, 3) := by decide +kernel
theorem dX11_give_21 : decode cX11_give 21 = .ok (.invokevirtual 292, 3) := by decide +kernel
theorem dX11_give_24 : decode cX11_give 24 = .ok (.iconst 1, 1) := by decide +kernel
theorem dX11_give_25 : decode cX11_give 25 = .ok (.ireturn, 1) := by decide +kernel
theorem dX11_put_0 : decode cX11_put 0 = .ok (.aload_n 0, 1) := by decide +kernel
theorem dX11_put_1 : decode cX11_put 1 = .ok (.getfield 12, 3) := by decide +kernel
theorem dX11_put_4 : decode cX11_put 4 = .ok (.iload_n 1, 1) := by decide +kernel
theorem dX11_put_5 : decode cX11_put 5 = .ok (.invokevirtual 87, 3) := by decide +kernel
theorem dX11_put_8 : decode cX11_put 8 = .ok (.ifCond .ne 10, 3) := by decide +kernel
theorem dX11_put_11 : decode cX11_put 11 = .ok (.aload_n 0, 1) := by decide +kernel
theorem dX11_put_12 : decode cX11_put 12 = .ok (.bipush (-3), 2) := by decide +kernel
theorem dX11_put_14 : decode cX11_put 14 = .ok (.invokevirtual 72, 3) := by decide +kernel
theorem dX11_put_17 : decode cX11_put 17 = .ok (.ireturn, 1) := by decide +kernel
theorem dX11_put_18 : decode cX11_put 18 = .ok (.aload_n 0, 1) := by decide +kernel
theorem dX11_put_19 : decode cX11_put 19 = .ok (.getfield 12, 3) := by decide +kernel
theorem dX11_put_22 : decode cX11_put 22 = .ok (.getfield 137, 3) := by decide +kernel
theorem dX11_put_25 : decode cX11_put 25 = .ok (.iload_n 1, 1) := by decide +kernel
theorem dX11_put_26 : decode cX11_put 26 = .ok (.aaload, 1) := by decide +kernel
theorem dX11_put_27 : decode cX11_put 27 = .ok (.astore_n 2, 1) := by decide +kernel
theorem dX11_put_28 : decode cX11_put 28 = .ok (.aload_n 0, 1) := by decide +kernel
theorem dX11_put_29 : decode cX11_put 29 = .ok (.getfield 60, 3) := by decide +kernel
theorem dX11_put_32 : decode cX11_put 32 = .ok (.aload_n 2, 1) := by decide +kernel
theorem dX11_put_33 : decode cX11_put 33 = .ok (.getfield 295, 3) := by decide +kernel
theorem dX11_put_36 : decode cX11_put 36 = .ok (.aload_n 2, 1) := by decide +kernel
theorem dX11_put_37 : decode cX11_put 37 = .ok (.getfield 151, 3) := by decide +kernel
theorem dX11_put_40 : decode cX11_put 40 = .ok (.invokevirtual 298, 3) := by decide +kernel
theorem dX11_put_43 : decode cX11_put 43 = .ok (.aload_n 2, 1) := by decide +kernel
theorem dX11_put_44 : decode cX11_put 44 = .ok (.getfield 295, 3) := by decide +kernel
theorem dX11_put_47 : decode cX11_put 47 = .ok (.ireturn, 1) := by decide +kernel
theorem dX11_tear_0 : decode cX11_tear 0 = .ok (.aload_n 0, 1) := by decide +kernel
theorem dX11_tear_1 : decode cX11_tear 1 = .ok (.getfield 60, 3) := by decide +kernel
theorem dX11_tear_4 : decode cX11_tear 4 = .ok (.getfield 302, 3) := by decide +kernel
theorem dX11_tear_7 : decode cX11_tear 7 = .ok (.ifCond .eq 7, 3) := by decide +kernel
theorem dX11_tear_10 : decode cX11_tear 10 = .ok (.iconst 1, 1) := by decide +kernel
theorem dX11_tear_11 : decode cX11_tear 11 = .ok (.goto 4, 3) := by decide +kernel
theorem dX11_tear_14 : decode cX11_tear 14 = .ok (.iconst 0, 1) := by decide +kernel
theorem dX11_tear_15 : decode cX11_tear 15 = .ok (.istore_n 1, 1) := by decide +kernel
theorem dX11_tear_16 : decode cX11_tear 16 = .ok (.aload_n 0, 1) := by decide +kernel
theorem dX11_tear_17 : decode cX11_tear 17 = .ok (.getfield 60, 3) := by decide +kernel
theorem dX11_tear_20 : decode cX11_tear 20 = .ok (.iconst 0, 1) := by decide +kernel
theorem dX11_tear_21 : decode cX11_tear 21 = .ok (.putfield 302, 3) := by decide +kernel
theorem dX11_tear_24 : decode cX11_tear 24 = .ok (.iload_n 1, 1) := by decide +kernel
theorem dX11_tear_25 : decode cX11_tear 25 = .ok (.ireturn, 1) := by decide +kernel
theorem dX11_row_0 : decode cX11_row 0 = .ok (.aload_n 0, 1) := by decide +kernel
theorem dX11_row_1 : decode cX11_row 1 = .ok (.getfield 60, 3) := by decide +kernel
theorem dX11_row_4 : decode cX11_row 4 = .ok (.getfield 302, 3) := by decide +kernel
theorem dX11_row_7 : decode cX11_row 7 = .ok (.ifCond .ne 10, 3) := by decide +kernel
theorem dX11_row_10 : decode cX11_row 10 = .ok (.aload_n 0, 1) := by decide +kernel
theorem dX11_row_11 : decode cX11_row 11 = .ok (.bipush (-2), 2) := by decide +kernel
theorem dX11_row_13 : decode cX11_row 13 = .ok (.invokevirtual 72, 3) := by decide +kernel
theorem dX11_row_16 : decode cX11_row 16 = .ok (.ireturn, 1) := by decide +kernel
theorem dX11_row_17 : decode cX11_row 17 = .ok (.iload_n 1, 1) := by decide +kernel
theorem dX11_row_18 : decode cX11_row 18 = .ok (.ifCond .lt 14, 3) := by decide +kernel
theorem dX11_row_21 : decode cX11_row 21 = .ok (.iload_n 1, 1) := by decide +kernel
theorem dX11_row_22 : decode cX11_row 22 = .ok (.aload_n 0, 1) := by decide +kernel
theorem dX11_row_23 : decode cX11_row 23 = .ok (.getfield 60, 3) := by decide +kernel
theorem dX11_row_26 : decode cX11_row 26 = .ok (.getfield 305, 3) := by decide +kernel
theorem dX11_row_29 : decode cX11_row 29 = .ok (.if_icmp .lt 10, 3) := by decide +kernel
theorem dX11_row_32 : decode cX11_row 32 = .ok (.aload_n 0, 1) := by decide +kernel
theorem dX11_row_33 : decode cX11_row 33 = .ok (.bipush (-3), 2) := by decide +kernel
theorem dX11_row_35 : decode cX11_row 35 = .ok (.invokevirtual 72, 3) := by decide +kernel
theorem dX11_row_38 : decode cX11_row 38 = .ok (.ireturn, 1) := by decide +kernel
theorem dX11_row_39 : decode cX11_row 39 = .ok (.aload_n 0, 1) := by decide +kernel
theorem dX11_row_40 : decode cX11_row 40 = .ok (.getfield 60, 3) := by decide +kernel
theorem dX11_row_43 : decode cX11_row 43 = .ok (.getfield 306, 3) := by decide +kernel
theorem dX11_row_46 : decode cX11_row 46 = .ok (.iload_n 1, 1) := by decide +kernel
theorem dX11_row_47 : decode cX11_row 47 = .ok (.baload, 1) := by decide +kernel
theorem dX11_row_48 : decode cX11_row 48 = .ok (.ireturn, 1) := by decide +kernel
theorem dX11_copy_0 : decode cX11_copy 0 = .ok (.aload_n 0, 1) := by decide +kernel
theorem dX11_copy_1 : decode cX11_copy 1 = .ok (.getfield 60, 3) := by decide +kernel
theorem dX11_copy_4 : decode cX11_copy 4 = .ok (.getfield 302, 3) := by decide +kernel
theorem dX11_copy_7 : decode cX11_copy 7 = .ok (.ifCond .ne 10, 3) := by decide +kernel
theorem dX11_copy_10 : decode cX11_copy 10 = .ok (.aload_n 0, 1) := by decide +kernel
theorem dX11_copy_11 : decode cX11_copy 11 = .ok (.bipush (-2), 2) := by decide +kernel
theorem dX11_copy_13 : decode cX11_copy 13 = .ok (.invokevirtual 72, 3) := by decide +kernel
theorem dX11_copy_16 : decode cX11_copy 16 = .ok (.ireturn, 1) := by decide +kernel
theorem dX11_copy_17 : decode cX11_copy 17 = .ok (.iload_n 3, 1) := by decide +kernel
theorem dX11_copy_18 : decode cX11_copy 18 = .ok (.ifCond .ge 10, 3) := by decide +kernel
theorem dX11_copy_21 : decode cX11_copy 21 = .ok (.aload_n 0, 1) := by decide +kernel
theorem dX11_copy_22 : decode cX11_copy 22 = .ok (.bipush (-4), 2) := by decide +kernel
theorem dX11_copy_24 : decode cX11_copy 24 = .ok (.invokevirtual 72, 3) := by decide +kernel
theorem dX11_copy_27 : decode cX11_copy 27 = .ok (.ireturn, 1) := by decide +kernel
theorem dX11_copy_28 : decode cX11_copy 28 = .ok (.aload_n 0, 1) := by decide +kernel
theorem dX11_copy_29 : decode cX11_copy 29 = .ok (.getfield 60, 3) := by decide +kernel
theorem dX11_copy_32 : decode cX11_copy 32 = .ok (.iload_n 1, 1) := by decide +kernel
theorem dX11_copy_33 : decode cX11_copy 33 = .ok (.iload_n 3, 1) := by decide +kernel
theorem dX11_copy_34 : decode cX11_copy 34 = .ok (.invokevirtual 309, 3) := by decide +kernel
theorem dX11_copy_37 : decode cX11_copy 37 = .ok (.ifCond .eq 15, 3) := by decide +kernel
theorem dX11_copy_40 : decode cX11_copy 40 = .ok (.aload_n 0, 1) := by decide +kernel
theorem dX11_copy_41 : decode cX11_copy 41 = .ok (.getfield 60, 3) := by decide +kernel
theorem dX11_copy_44 : decode cX11_copy 44 = .ok (.iload_n 2, 1) := by decide +kernel
theorem dX11_copy_45 : decode cX11_copy 45 = .ok (.iload_n 3, 1) := by decide +kernel
theorem dX11_copy_46 : decode cX11_copy 46 = .ok (.invokevirtual 309, 3) := by decide +kernel
theorem dX11_copy_49 : decode cX11_copy 49 = .ok (.ifCond .ne 10, 3) := by decide +kernel
theorem dX11_copy_52 : decode cX11_copy 52 = .ok (.aload_n 0, 1) := by decide +kernel
theorem dX11_copy_53 : decode cX11_copy 53 = .ok (.bipush (-6), 2) := by decide +kernel
theorem dX11_copy_55 : decode cX11_copy 55 = .ok (.invokevirtual 72, 3) := by decide +kernel
theorem dX11_copy_58 : decode cX11_copy 58 = .ok (.ireturn, 1) := by decide +kernel
theorem dX11_copy_59 : decode cX11_copy 59 = .ok (.aload_n 0, 1) := by decide +kernel
theorem dX11_copy_60 : decode cX11_copy 60 = .ok (.getfield 60, 3) := by decide +kernel
theorem dX11_copy_63 : decode cX11_copy 63 = .ok (.getfield 306, 3) := by decide +kernel
theorem dX11_copy_66 : decode cX11_copy 66 = .ok (.iload_n 1, 1) := by decide +kernel
theorem dX11_copy_67 : decode cX11_copy 67 = .ok (.aload_n 0, 1) := by decide +kernel
theorem dX11_copy_68 : decode cX11_copy 68 = .ok (.getfield 60, 3) := by decide +kernel
theorem dX11_copy_71 : decode cX11_copy 71 = .ok (.getfield 306, 3) := by decide +kernel
theorem dX11_copy_74 : decode cX11_copy 74 = .ok (.iload_n 2, 1) := by decide +kernel
theorem dX11_copy_75 : decode cX11_copy 75 = .ok (.iload_n 3, 1) := by decide +kernel
theorem dX11_copy_76 : decode cX11_copy 76 = .ok (.invokestatic 313, 3) := by decide +kernel
theorem dX11_copy_79 : decode cX11_copy 79 = .ok (.iload_n 3, 1) := by decide +kernel
theorem dX11_copy_80 : decode cX11_copy 80 = .ok (.ireturn, 1) := by decide +kernel
theorem dX11_status_0 : decode cX11_status 0 = .ok (.iload_n 1, 1) := by decide +kernel
theorem dX11_status_1 : decode cX11_status 1 = .ok (.bipush (-9), 2) := by decide +kernel
theorem dX11_status_3 : decode cX11_status 3 = .ok (.bipush (-2), 2) := by decide +kernel
theorem dX11_status_5 : decode cX11_status 5 = .ok (.invokestatic 97, 3) := by decide +kernel
theorem dX11_status_8 : decode cX11_status 8 = .ok (.ifCond .ne 10, 3) := by decide +kernel
theorem dX11_status_11 : decode cX11_status 11 = .ok (.aload_n 0, 1) := by decide +kernel
theorem dX11_status_12 : decode cX11_status 12 = .ok (.bipush (-7), 2) := by decide +kernel
theorem dX11_status_14 : decode cX11_status 14 = .ok (.invokevirtual 72, 3) := by decide +kernel
theorem dX11_status_17 : decode cX11_status 17 = .ok (.ireturn, 1) := by decide +kernel
theorem dX11_status_18 : decode cX11_status 18 = .ok (.aload_n 0, 1) := by decide +kernel
theorem dX11_status_19 : decode cX11_status 19 = .ok (.getfield 64, 3) := by decide +kernel
theorem dX11_status_22 : decode cX11_status 22 = .ok (.iload_n 1, 1) := by decide +kernel
theorem dX11_status_23 : decode cX11_status 23 = .ok (.ineg, 1) := by decide +kernel
theorem dX11_status_24 : decode cX11_status 24 = .ok (.iaload, 1) := by decide +kernel
theorem dX11_status_25 : decode cX11_status 25 = .ok (.ireturn, 1) := by decide +kernel
theorem dX11_refuse_0 : decode cX11_refuse 0 = .ok (.iload_n 1, 1) := by decide +kernel
theorem dX11_refuse_1 : decode cX11_refuse 1 = .ok (.bipush (-9), 2) := by decide +kernel
theorem dX11_refuse_3 : decode cX11_refuse 3 = .ok (.bipush (-2), 2) := by decide +kernel
theorem dX11_refuse_5 : decode cX11_refuse 5 = .ok (.invokestatic 97, 3) := by decide +kernel
theorem dX11_refuse_8 : decode cX11_refuse 8 = .ok (.ifCond .eq 14, 3) := by decide +kernel
theorem dX11_refuse_11 : decode cX11_refuse 11 = .ok (.aload_n 0, 1) := by decide +kernel
theorem dX11_refuse_12 : decode cX11_refuse 12 = .ok (.getfield 64, 3) := by decide +kernel
theorem dX11_refuse_15 : decode cX11_refuse 15 = .ok (.iload_n 1, 1) := by decide +kernel
theorem dX11_refuse_16 : decode cX11_refuse 16 = .ok (.ineg, 1) := by decide +kernel
theorem dX11_refuse_17 : decode cX11_refuse 17 = .ok (.dup2, 1) := by decide +kernel
theorem dX11_refuse_18 : decode cX11_refuse 18 = .ok (.iaload, 1) := by decide +kernel
theorem dX11_refuse_19 : decode cX11_refuse 19 = .ok (.iconst 1, 1) := by decide +kernel
theorem dX11_refuse_20 : decode cX11_refuse 20 = .ok (.iadd, 1) := by decide +kernel
theorem dX11_refuse_21 : decode cX11_refuse 21 = .ok (.iastore, 1) := by decide +kernel
theorem dX11_refuse_22 : decode cX11_refuse 22 = .ok (.iload_n 1, 1) := by decide +kernel
theorem dX11_refuse_23 : decode cX11_refuse 23 = .ok (.ireturn, 1) := by decide +kernel
theorem dX11_isWithin_0 : decode cX11_isWithin 0 = .ok (.iload_n 0, 1) := by decide +kernel
theorem dX11_isWithin_1 : decode cX11_isWithin 1 = .ok (.iload_n 1, 1) := by decide +kernel
theorem dX11_isWithin_2 : decode cX11_isWithin 2 = .ok (.if_icmp .lt 12, 3) := by decide +kernel
theorem dX11_isWithin_5 : decode cX11_isWithin 5 = .ok (.iload_n 0, 1) := by decide +kernel
theorem dX11_isWithin_6 : decode cX11_isWithin 6 = .ok (.iload_n 2, 1) := by decide +kernel
theorem dX11_isWithin_7 : decode cX11_isWithin 7 = .ok (.if_icmp .gt 7, 3) := by decide +kernel
theorem dX11_isWithin_10 : decode cX11_isWithin 10 = .ok (.iconst 1, 1) := by decide +kernel
theorem dX11_isWithin_11 : decode cX11_isWithin 11 = .ok (.goto 4, 3) := by decide +kernel
theorem dX11_isWithin_14 : decode cX11_isWithin 14 = .ok (.iconst 0, 1) := by decide +kernel
theorem dX11_isWithin_15 : decode cX11_isWithin 15 = .ok (.ireturn, 1) := by decide +kernel
theorem dX11_isRank_0 : decode cX11_isRank 0 = .ok (.iload_n 0, 1) := by decide +kernel
theorem dX11_isRank_1 : decode cX11_isRank 1 = .ok (.ifCond .lt 14, 3) := by decide +kernel
theorem dX11_isRank_4 : decode cX11_isRank 4 = .ok (.iload_n 0, 1) := by decide +kernel
theorem dX11_isRank_5 : decode cX11_isRank 5 = .ok (.ldc_w 319, 3) := by decide +kernel
theorem dX11_isRank_8 : decode cX11_isRank 8 = .ok (.if_icmp .ge 7, 3) := by decide +kernel
theorem dX11_isRank_11 : decode cX11_isRank 11 = .ok (.iconst 1, 1) := by decide +kernel
theorem dX11_isRank_12 : decode cX11_isRank 12 = .ok (.goto 4, 3) := by decide +kernel
theorem dX11_isRank_15 : decode cX11_isRank 15 = .ok (.iconst 0, 1) := by decide +kernel
theorem dX11_isRank_16 : decode cX11_isRank 16 = .ok (.ireturn, 1) := by decide +kernel
theorem dX11_isKind_0 : decode cX11_isKind 0 = .ok (.iload_n 0, 1) := by decide +kernel
theorem dX11_isKind_1 : decode cX11_isKind 1 = .ok (.iconst 0, 1) := by decide +kernel
theorem dX11_isKind_2 : decode cX11_isKind 2 = .ok (.bipush 38, 2) := by decide +kernel
theorem dX11_isKind_4 : decode cX11_isKind 4 = .ok (.invokestatic 97, 3) := by decide +kernel
theorem dX11_isKind_7 : decode cX11_isKind 7 = .ok (.ifCond .eq 16, 3) := by decide +kernel
theorem dX11_isKind_10 : decode cX11_isKind 10 = .ok (.iload_n 0, 1) := by decide +kernel
theorem dX11_isKind_11 : decode cX11_isKind 11 = .ok (.bipush 10, 2) := by decide +kernel
theorem dX11_isKind_13 : decode cX11_isKind 13 = .ok (.irem, 1) := by decide +kernel
theorem dX11_isKind_14 : decode cX11_isKind 14 = .ok (.bipush 8, 2) := by decide +kernel
theorem dX11_isKind_16 : decode cX11_isKind 16 = .ok (.if_icmp .gt 7, 3) := by decide +kernel
theorem dX11_isKind_19 : decode cX11_isKind 19 = .ok (.iconst 1, 1) := by decide +kernel
theorem dX11_isKind_20 : decode cX11_isKind 20 = .ok (.goto 4, 3) := by decide +kernel
theorem dX11_isKind_23 : decode cX11_isKind 23 = .ok (.iconst 0, 1) := by decide +kernel
theorem dX11_isKind_24 : decode cX11_isKind 24 = .ok (.ireturn, 1) := by decide +kernel
theorem dX11_isAsked_0 : decode cX11_isAsked 0 = .ok (.iload_n 0, 1) := by decide +kernel
theorem dX11_isAsked_1 : decode cX11_isAsked 1 = .ok (.bipush 30, 2) := by decide +kernel
theorem dX11_isAsked_3 : decode cX11_isAsked 3 = .ok (.bipush 39, 2) := by decide +kernel
theorem dX11_isAsked_5 : decode cX11_isAsked 5 = .ok (.invokestatic 97, 3) := by decide +kernel
theorem dX11_isAsked_8 : decode cX11_isAsked 8 = .ok (.ireturn, 1) := by decide +kernel
theorem dX11_quotient_0 : decode cX11_quotient 0 = .ok (.lload_n 2, 1) := by decide +kernel
theorem dX11_quotient_1 : decode cX11_quotient 1 = .ok (.lconst 0, 1) := by decide +kernel
theorem dX11_quotient_2 : decode cX11_quotient 2 = .ok (.lcmp, 1) := by decide +kernel
theorem dX11_quotient_3 : decode cX11_quotient 3 = .ok (.ifCond .gt 7, 3) := by decide +kernel
theorem dX11_quotient_6 : decode cX11_quotient 6 = .ok (.lconst 0, 1) := by decide +kernel
theorem dX11_quotient_7 : decode cX11_quotient 7 = .ok (.goto 6, 3) := by decide +kernel
theorem dX11_quotient_10 : decode cX11_quotient 10 = .ok (.lload_n 0, 1) := by decide +kernel
theorem dX11_quotient_11 : decode cX11_quotient 11 = .ok (.lload_n 2, 1) := by decide +kernel
theorem dX11_quotient_12 : decode cX11_quotient 12 = .ok (.ldiv, 1) := by decide +kernel
theorem dX11_quotient_13 : decode cX11_quotient 13 = .ok (.lreturn, 1) := by decide +kernel
theorem dX11_quotient__0 : decode cX11_quotient_ 0 = .ok (.iload_n 1, 1) := by decide +kernel
theorem dX11_quotient__1 : decode cX11_quotient_ 1 = .ok (.ifCond .gt 7, 3) := by decide +kernel
theorem dX11_quotient__4 : decode cX11_quotient_ 4 = .ok (.iconst 0, 1) := by decide +kernel
theorem dX11_quotient__5 : decode cX11_quotient_ 5 = .ok (.goto 6, 3) := by decide +kernel
theorem dX11_quotient__8 : decode cX11_quotient_ 8 = .ok (.iload_n 0, 1) := by decide +kernel
theorem dX11_quotient__9 : decode cX11_quotient_ 9 = .ok (.iload_n 1, 1) := by decide +kernel
theorem dX11_quotient__10 : decode cX11_quotient_ 10 = .ok (.idiv, 1) := by decide +kernel
theorem dX11_quotient__11 : decode cX11_quotient_ 11 = .ok (.ireturn, 1) := by decide +kernel
theorem dX11_remainder_0 : decode cX11_remainder 0 = .ok (.iload_n 1, 1) := by decide +kernel
theorem dX11_remainder_1 : decode cX11_remainder 1 = .ok (.ifCond .gt 7, 3) := by decide +kernel
theorem dX11_remainder_4 : decode cX11_remainder 4 = .ok (.iconst 0, 1) := by decide +kernel
theorem dX11_remainder_5 : decode cX11_remainder 5 = .ok (.goto 6, 3) := by decide +kernel
theorem dX11_remainder_8 : decode cX11_remainder 8 = .ok (.iload_n 0, 1) := by decide +kernel
theorem dX11_remainder_9 : decode cX11_remainder 9 = .ok (.iload_n 1, 1) := by decide +kernel
theorem dX11_remainder_10 : decode cX11_remainder 10 = .ok (.irem, 1) := by decide +kernel
theorem dX11_remainder_11 : decode cX11_remainder 11 = .ok (.ireturn, 1) := by decide +kernel
theorem dX11_sumWith_0 : decode cX11_sumWith 0 = .ok (.iload_n 0, 1) := by decide +kernel
theorem dX11_sumWith_1 : decode cX11_sumWith 1 = .ok (.bipush 14, 2) := by decide +kernel
theorem dX11_sumWith_3 : decode cX11_sumWith 3 = .ok (.iushr, 1) := by decide +kernel
theorem dX11_sumWith_4 : decode cX11_sumWith 4 = .ok (.iload_n 1, 1) := by decide +kernel
theorem dX11_sumWith_5 : decode cX11_sumWith 5 = .ok (.ixor, 1) := by decide +kernel
theorem dX11_sumWith_6 : decode cX11_sumWith 6 = .ok (.iconst 1, 1) := by decide +kernel
theorem dX11_sumWith_7 : decode cX11_sumWith 7 = .ok (.iand, 1) := by decide +kernel
theorem dX11_sumWith_8 : decode cX11_sumWith 8 = .ok (.istore_n 2, 1) := by decide +kernel
theorem dX11_sumWith_9 : decode cX11_sumWith 9 = .ok (.iload_n 0, 1) := by decide +kernel
theorem dX11_sumWith_10 : decode cX11_sumWith 10 = .ok (.iconst 1, 1) := by decide +kernel
theorem dX11_sumWith_11 : decode cX11_sumWith 11 = .ok (.ishl, 1) := by decide +kernel
theorem dX11_sumWith_12 : decode cX11_sumWith 12 = .ok (.sipush 32767, 3) := by decide +kernel
theorem dX11_sumWith_15 : decode cX11_sumWith 15 = .ok (.iand, 1) := by decide +kernel
theorem dX11_sumWith_16 : decode cX11_sumWith 16 = .ok (.istore_n 3, 1) := by decide +kernel
theorem dX11_sumWith_17 : decode cX11_sumWith 17 = .ok (.iload_n 2, 1) := by decide +kernel
theorem dX11_sumWith_18 : decode cX11_sumWith 18 = .ok (.iconst 1, 1) := by decide +kernel
theorem dX11_sumWith_19 : decode cX11_sumWith 19 = .ok (.if_icmp .ne 11, 3) := by decide +kernel
theorem dX11_sumWith_22 : decode cX11_sumWith 22 = .ok (.iload_n 3, 1) := by decide +kernel
theorem dX11_sumWith_23 : decode cX11_sumWith 23 = .ok (.sipush 17817, 3) := by decide +kernel
theorem dX11_sumWith_26 : decode cX11_sumWith 26 = .ok (.ixor, 1) := by decide +kernel
theorem dX11_sumWith_27 : decode cX11_sumWith 27 = .ok (.goto 4, 3) := by decide +kernel
theorem dX11_sumWith_30 : decode cX11_sumWith 30 = .ok (.iload_n 3, 1) := by decide +kernel
theorem dX11_sumWith_31 : decode cX11_sumWith 31 = .ok (.ireturn, 1) := by decide +kernel
theorem dX12_init_0 : decode cX12_init 0 = .ok (.aload_n 0, 1) := by decide +kernel
theorem dX12_init_1 : decode cX12_init 1 = .ok (.invokespecial 1, 3) := by decide +kernel
theorem dX12_init_4 : decode cX12_init 4 = .ok (.aload_n 0, 1) := by decide +kernel
theorem dX12_init_5 : decode cX12_init 5 = .ok (.bipush 10, 2) := by decide +kernel
theorem dX12_init_7 : decode cX12_init 7 = .ok (.newarray .int, 2) := by decide +kernel
theorem dX12_init_9 : decode cX12_init 9 = .ok (.putfield 7, 3) := by decide +kernel
theorem dX12_init_12 : decode cX12_init 12 = .ok (.aload_n 0, 1) := by decide +kernel
theorem dX12_init_13 : decode cX12_init 13 = .ok (.bipush 10, 2) := by decide +kernel
theorem dX12_init_15 : decode cX12_init 15 = .ok (.newarray .int, 2) := by decide +kernel
theorem dX12_init_17 : decode cX12_init 17 = .ok (.putfield 13, 3) := by decide +kernel
theorem dX12_init_20 : decode cX12_init 20 = .ok (.aload_n 0, 1) := by decide +kernel
theorem dX12_init_21 : decode cX12_init 21 = .ok (.bipush 10, 2) := by decide +kernel
theorem dX12_init_23 : decode cX12_init 23 = .ok (.newarray .int, 2) := by decide +kernel
theorem dX12_init_25 : decode cX12_init 25 = .ok (.putfield 16, 3) := by decide +kernel
theorem dX12_init_28 : decode cX12_init 28 = .ok (.aload_n 0, 1) := by decide +kernel
theorem dX12_init_29 : decode cX12_init 29 = .ok (.bipush 10, 2) := by decide +kernel
theorem dX12_init_31 : decode cX12_init 31 = .ok (.newarray .int, 2) := by decide +kernel
theorem dX12_init_33 : decode cX12_init 33 = .ok (.putfield 19, 3) := by decide +kernel
theorem dX12_init_36 : decode cX12_init 36 = .ok (.aload_n 0, 1) := by decide +kernel
theorem dX12_init_37 : decode cX12_init 37 = .ok (.bipush 24, 2) := by decide +kernel
theorem dX12_init_39 : decode cX12_init 39 = .ok (.newarray .int, 2) := by decide +kernel
theorem dX12_init_41 : decode cX12_init 41 = .ok (.putfield 22, 3) := by decide +kernel
theorem dX12_init_44 : decode cX12_init 44 = .ok (.aload_n 0, 1) := by decide +kernel
theorem dX12_init_45 : decode cX12_init 45 = .ok (.bipush 24, 2) := by decide +kernel
theorem dX12_init_47 : decode cX12_init 47 = .ok (.newarray .int, 2) := by decide +kernel
theorem dX12_init_49 : decode cX12_init 49 = .ok (.putfield 25, 3) := by decide +kernel
theorem dX12_init_52 : decode cX12_init 52 = .ok (.aload_n 0, 1) := by decide +kernel
theorem dX12_init_53 : decode cX12_init 53 = .ok (.bipush 24, 2) := by decide +kernel
theorem dX12_init_55 : decode cX12_init 55 = .ok (.newarray .int, 2) := by decide +kernel
theorem dX12_init_57 : decode cX12_init 57 = .ok (.putfield 28, 3) := by decide +kernel
theorem dX12_init_60 : decode cX12_init 60 = .ok (.aload_n 0, 1) := by decide +kernel
theorem dX12_init_61 : decode cX12_init 61 = .ok (.bipush 24, 2) := by decide +kernel
theorem dX12_init_63 : decode cX12_init 63 = .ok (.newarray .int, 2) := by decide +kernel
theorem dX12_init_65 : decode cX12_init 65 = .ok (.putfield 31, 3) := by decide +kernel
theorem dX12_init_68 : decode cX12_init 68 = .ok (.aload_n 0, 1) := by decide +kernel
theorem dX12_init_69 : decode cX12_init 69 = .ok (.bipush 24, 2) := by decide +kernel
theorem dX12_init_71 : decode cX12_init 71 = .ok (.newarray .int, 2) := by decide +kernel
theorem dX12_init_73 : decode cX12_init 73 = .ok (.putfield 34, 3) := by decide +kernel
theorem dX12_init_76 : decode cX12_init 76 = .ok (.aload_n 0, 1) := by decide +kernel
theorem dX12_init_77 : decode cX12_init 77 = .ok (.bipush 24, 2) := by decide +kernel
theorem dX12_init_79 : decode cX12_init 79 = .ok (.newarray .int, 2) := by decide +kernel
theorem dX12_init_81 : decode cX12_init 81 = .ok (.putfield 37, 3) := by decide +kernel
theorem dX12_init_84 : decode cX12_init 84 = .ok (.aload_n 0, 1) := by decide +kernel
theorem dX12_init_85 : decode cX12_init 85 = .ok (.bipush 24, 2) := by decide +kernel
theorem dX12_init_87 : decode cX12_init 87 = .ok (.newarray .int, 2) := by decide +kernel
theorem dX12_init_89 : decode cX12_init 89 = .ok (.putfield 40, 3) := by decide +kernel
theorem dX12_init_92 : decode cX12_init 92 = .ok (.aload_n 0, 1) := by decide +kernel
theorem dX12_init_93 : decode cX12_init 93 = .ok (.bipush 24, 2) := by decide +kernel
theorem dX12_init_95 : decode cX12_init 95 = .ok (.newarray .int, 2) := by decide +kernel
theorem dX12_init_97 : decode cX12_init 97 = .ok (.putfield 43, 3) := by decide +kernel
theorem dX12_init_100 : decode cX12_init 100 = .ok (.aload_n 0, 1) := by decide +kernel
theorem dX12_init_101 : decode cX12_init 101 = .ok (.bipush 24, 2) := by decide +kernel
theorem dX12_init_103 : decode cX12_init 103 = .ok (.newarray .long, 2) := by decide +kernel
theorem dX12_init_105 : decode cX12_init 105 = .ok (.putfield 46, 3) := by decide +kernel
theorem dX12_init_108 : decode cX12_init 108 = .ok (.aload_n 0, 1) := by decide +kernel
theorem dX12_init_109 : decode cX12_init 109 = .ok (.bipush 24, 2) := by decide +kernel
theorem dX12_init_111 : decode cX12_init 111 = .ok (.newarray .boolean, 2) := by decide +kernel
theorem dX12_init_113 : decode cX12_init 113 = .ok (.putfield 50, 3) := by decide +kernel
theorem dX12_init_116 : decode cX12_init 116 = .ok (.aload_n 0, 1) := by decide +kernel
theorem dX12_init_117 : decode cX12_init 117 = .ok (.bipush 24, 2) := by decide +kernel
theorem dX12_init_119 : decode cX12_init 119 = .ok (.newarray .int, 2) := by decide +kernel
theorem dX12_init_121 : decode cX12_init 121 = .ok (.putfield 54, 3) := by decide +kernel
theorem dX12_init_124 : decode cX12_init 124 = .ok (.aload_n 0, 1) := by decide +kernel
theorem dX12_init_125 : decode cX12_init 125 = .ok (.bipush 24, 2) := by decide +kernel
theorem dX12_init_127 : decode cX12_init 127 = .ok (.newarray .int, 2) := by decide +kernel
theorem dX12_init_129 : decode cX12_init 129 = .ok (.putfield 57, 3) := by decide +kernel
theorem dX12_init_132 : decode cX12_init 132 = .ok (.aload_n 0, 1) := by decide +kernel
theorem dX12_init_133 : decode cX12_init 133 = .ok (.bipush 24, 2) := by decide +kernel
theorem dX12_init_135 : decode cX12_init 135 = .ok (.newarray .int, 2) := by decide +kernel
theorem dX12_init_137 : decode cX12_init 137 = .ok (.putfield 60, 3) := by decide +kernel
theorem dX12_init_140 : decode cX12_init 140 = .ok (.aload_n 0, 1) := by decide +kernel
theorem dX12_init_141 : decode cX12_init 141 = .ok (.bipush 24, 2) := by decide +kernel
theorem dX12_init_143 : decode cX12_init 143 = .ok (.newarray .int, 2) := by decide +kernel
theorem dX12_init_145 : decode cX12_init 145 = .ok (.putfield 63, 3) := by decide +kernel
theorem dX12_init_148 : decode cX12_init 148 = .ok (.aload_n 0, 1) := by decide +kernel
theorem dX12_init_149 : decode cX12_init 149 = .ok (.bipush 24, 2) := by decide +kernel
theorem dX12_init_151 : decode cX12_init 151 = .ok (.newarray .int, 2) := by decide +kernel
theorem dX12_init_153 : decode cX12_init 153 = .ok (.putfield 66, 3) := by decide +kernel
theorem dX12_init_156 : decode cX12_init 156 = .ok (.aload_n 0, 1) := by decide +kernel
theorem dX12_init_157 : decode cX12_init 157 = .ok (.bipush 24, 2) := by decide +kernel
theorem dX12_init_159 : decode cX12_init 159 = .ok (.newarray .int, 2) := by decide +kernel
theorem dX12_init_161 : decode cX12_init 161 = .ok (.putfield 69, 3) := by decide +kernel
theorem dX12_init_164 : decode cX12_init 164 = .ok (.aload_n 0, 1) := by decide +kernel
theorem dX12_init_165 : decode cX12_init 165 = .ok (.bipush 24, 2) := by decide +kernel
theorem dX12_init_167 : decode cX12_init 167 = .ok (.newarray .int, 2) := by decide +kernel
theorem dX12_init_169 : decode cX12_init 169 = .ok (.putfield 72, 3) := by decide +kernel
theorem dX12_init_172 : decode cX12_init 172 = .ok (.aload_n 0, 1) := by decide +kernel
theorem dX12_init_173 : decode cX12_init 173 = .ok (.sipush 240, 3) := by decide +kernel
theorem dX12_init_176 : decode cX12_init 176 = .ok (.newarray .int, 2) := by decide +kernel
theorem dX12_init_178 : decode cX12_init 178 = .ok (.putfield 75, 3) := by decide +kernel
theorem dX12_init_181 : decode cX12_init 181 = .ok (.aload_n 0, 1) := by decide +kernel
theorem dX12_init_182 : decode cX12_init 182 = .ok (.sipush 2000, 3) := by decide +kernel
theorem dX12_init_185 : decode cX12_init 185 = .ok (.newarray .int, 2) := by decide +kernel
theorem dX12_init_187 : decode cX12_init 187 = .ok (.putfield 78, 3) := by decide +kernel
theorem dX12_init_190 : decode cX12_init 190 = .ok (.aload_n 0, 1) := by decide +kernel
theorem dX12_init_191 : decode cX12_init 191 = .ok (.iconst (-1), 1) := by decide +kernel
theorem dX12_init_192 : decode cX12_init 192 = .ok (.putfield 81, 3) := by decide +kernel
theorem dX12_init_195 : decode cX12_init 195 = .ok (.aload_n 0, 1) := by decide +kernel
theorem dX12_init_196 : decode cX12_init 196 = .ok (.iconst (-1), 1) := by decide +kernel
theorem dX12_init_197 : decode cX12_init 197 = .ok (.putfield 85, 3) := by decide +kernel
theorem dX12_init_200 : decode cX12_init 200 = .ok (.aload_n 0, 1) := by decide +kernel
theorem dX12_init_201 : decode cX12_init 201 = .ok (.iconst (-1), 1) := by decide +kernel
theorem dX12_init_202 : decode cX12_init 202 = .ok (.putfield 88, 3) := by decide +kernel
theorem dX12_init_205 : decode cX12_init 205 = .ok (.aload_n 0, 1) := by decide +kernel
theorem dX12_init_206 : decode cX12_init 206 = .ok (.iconst (-1), 1) := by decide +kernel
theorem dX12_init_207 : decode cX12_init 207 = .ok (.putfield 91, 3) := by decide +kernel
theorem dX12_init_210 : decode cX12_init 210 = .ok (.aload_n 0, 1) := by decide +kernel
theorem dX12_init_211 : decode cX12_init 211 = .ok (.bipush 60, 2) := by decide +kernel
theorem dX12_init_213 : decode cX12_init 213 = .ok (.newarray .int, 2) := by decide +kernel
theorem dX12_init_215 : decode cX12_init 215 = .ok (.putfield 94, 3) := by decide +kernel
theorem dX12_init_218 : decode cX12_init 218 = .ok (.aload_n 0, 1) := by decide +kernel
theorem dX12_init_219 : decode cX12_init 219 = .ok (.bipush 40, 2) := by decide +kernel
theorem dX12_init_221 : decode cX12_init 221 = .ok (.newarray .int, 2) := by decide +kernel
theorem dX12_init_223 : decode cX12_init 223 = .ok (.putfield 97, 3) := by decide +kernel
theorem dX12_init_226 : decode cX12_init 226 = .ok (.aload_n 0, 1) := by decide +kernel
theorem dX12_init_227 : decode cX12_init 227 = .ok (.bipush 40, 2) := by decide +kernel
theorem dX12_init_229 : decode cX12_init 229 = .ok (.newarray .int, 2) := by decide +kernel
theorem dX12_init_231 : decode cX12_init 231 = .ok (.putfield 100, 3) := by decide +kernel
theorem dX12_init_234 : decode cX12_init 234 = .ok (.aload_n 0, 1) := by decide +kernel
theorem dX12_init_235 : decode cX12_init 235 = .ok (.bipush 40, 2) := by decide +kernel
theorem dX12_init_237 : decode cX12_init 237 = .ok (.newarray .int, 2) := by decide +kernel
theorem dX12_init_239 : decode cX12_init 239 = .ok (.putfield 103, 3) := by decide +kernel
theorem dX12_init_242 : decode cX12_init 242 = .ok (.aload_n 0, 1) := by decide +kernel
theorem dX12_init_243 : decode cX12_init 243 = .ok (.bipush 40, 2) := by decide +kernel
theorem dX12_init_245 : decode cX12_init 245 = .ok (.newarray .int, 2) := by decide +kernel
theorem dX12_init_247 : decode cX12_init 247 = .ok (.putfield 106, 3) := by decide +kernel
theorem dX12_init_250 : decode cX12_init 250 = .ok (.aload_n 0, 1) := by decide +kernel
theorem dX12_init_251 : decode cX12_init 251 = .ok (.bipush 24, 2) := by decide +kernel
theorem dX12_init_253 : decode cX12_init 253 = .ok (.newarray .boolean, 2) := by decide +kernel
theorem dX12_init_255 : decode cX12_init 255 = .ok (.putfield 109, 3) := by decide +kernel
theorem dX12_init_258 : decode cX12_init 258 = .ok (.aload_n 0, 1) := by decide +kernel
theorem dX12_init_259 : decode cX12_init 259 = .ok (.bipush 24, 2) := by decide +kernel
theorem dX12_init_261 : decode cX12_init 261 = .ok (.newarray .int, 2) := by decide +kernel
theorem dX12_init_263 : decode cX12_init 263 = .ok (.putfield 112, 3) := by decide +kernel
theorem dX12_init_266 : decode cX12_init 266 = .ok (.aload_n 0, 1) := by decide +kernel
theorem dX12_init_267 : decode cX12_init 267 = .ok (.bipush 24, 2) := by decide +kernel
theorem dX12_init_269 : decode cX12_init 269 = .ok (.newarray .boolean, 2) := by decide +kernel
theorem dX12_init_271 : decode cX12_init 271 = .ok (.putfield 115, 3) := by decide +kernel
theorem dX12_init_274 : decode cX12_init 274 = .ok (.aload_n 0, 1) := by decide +kernel
theorem dX12_init_275 : decode cX12_init 275 = .ok (.bipush 24, 2) := by decide +kernel
theorem dX12_init_277 : decode cX12_init 277 = .ok (.newarray .int, 2) := by decide +kernel
theorem dX12_init_279 : decode cX12_init 279 = .ok (.putfield 118, 3) := by decide +kernel
theorem dX12_init_282 : decode cX12_init 282 = .ok (.aload_n 0, 1) := by decide +kernel
theorem dX12_init_283 : decode cX12_init 283 = .ok (.bipush 8, 2) := by decide +kernel
theorem dX12_init_285 : decode cX12_init 285 = .ok (.newarray .int, 2) := by decide +kernel
theorem dX12_init_287 : decode cX12_init 287 = .ok (.putfield 121, 3) := by decide +kernel
theorem dX12_init_290 : decode cX12_init 290 = .ok (.aload_n 0, 1) := by decide +kernel
theorem dX12_init_291 : decode cX12_init 291 = .ok (.bipush 8, 2) := by decide +kernel
theorem dX12_init_293 : decode cX12_init 293 = .ok (.newarray .int, 2) := by decide +kernel
theorem dX12_init_295 : decode cX12_init 295 = .ok (.putfield 124, 3) := by decide +kernel
theorem dX12_init_298 : decode cX12_init 298 = .ok (.aload_n 0, 1) := by decide +kernel
theorem dX12_init_299 : decode cX12_init 299 = .ok (.iconst (-1), 1) := by decide +kernel
theorem dX12_init_300 : decode cX12_init 300 = .ok (.putfield 127, 3) := by decide +kernel
theorem dX12_init_303 : decode cX12_init 303 = .ok (.return_, 1) := by decide +kernel
theorem dX12_isIn_0 : decode cX12_isIn 0 = .ok (.lload_n 0, 1) := by decide +kernel
theorem dX12_isIn_1 : decode cX12_isIn 1 = .ok (.lload_n 2, 1) := by decide +kernel
theorem dX12_isIn_2 : decode cX12_isIn 2 = .ok (.lcmp, 1) := by decide +kernel
theorem dX12_isIn_3 : decode cX12_isIn 3 = .ok (.ifCond .lt 14, 3) := by decide +kernel
theorem dX12_isIn_6 : decode cX12_isIn 6 = .ok (.lload_n 0, 1) := by decide +kernel
theorem dX12_isIn_7 : decode cX12_isIn 7 = .ok (.lload 4, 2) := by decide +kernel
theorem dX12_isIn_9 : decode cX12_isIn 9 = .ok (.lcmp, 1) := by decide +kernel
theorem dX12_isIn_10 : decode cX12_isIn 10 = .ok (.ifCond .gt 7, 3) := by decide +kernel
theorem dX12_isIn_13 : decode cX12_isIn 13 = .ok (.iconst 1, 1) := by decide +kernel
theorem dX12_isIn_14 : decode cX12_isIn 14 = .ok (.goto 4, 3) := by decide +kernel
theorem dX12_isIn_17 : decode cX12_isIn 17 = .ok (.iconst 0, 1) := by decide +kernel
theorem dX12_isIn_18 : decode cX12_isIn 18 = .ok (.ireturn, 1) := by decide +kernel
theorem dX12_no_0 : decode cX12_no 0 = .ok (.aload_n 0, 1) := by decide +kernel
theorem dX12_no_1 : decode cX12_no 1 = .ok (.getfield 7, 3) := by decide +kernel
theorem dX12_no_4 : decode cX12_no 4 = .ok (.iload_n 1, 1) := by decide +kernel
theorem dX12_no_5 : decode cX12_no 5 = .ok (.ineg, 1) := by decide +kernel
theorem dX12_no_6 : decode cX12_no 6 = .ok (.dup2, 1) := by decide +kernel
theorem dX12_no_7 : decode cX12_no 7 = .ok (.iaload, 1) := by decide +kernel
theorem dX12_no_8 : decode cX12_no 8 = .ok (.iconst 1, 1) := by decide +kernel
theorem dX12_no_9 : decode cX12_no 9 = .ok (.iadd, 1) := by decide +kernel
theorem dX12_no_10 : decode cX12_no 10 = .ok (.iastore, 1) := by decide +kernel
theorem dX12_no_11 : decode cX12_no 11 = .ok (.iload_n 1, 1) := by decide +kernel
theorem dX12_no_12 : decode cX12_no 12 = .ok (.ireturn, 1) := by decide +kernel
theorem dX12_isNode_0 : decode cX12_isNode 0 = .ok (.iload_n 1, 1) := by decide +kernel
theorem dX12_isNode_1 : decode cX12_isNode 1 = .ok (.ifCond .lt 15, 3) := by decide +kernel
theorem dX12_isNode_4 : decode cX12_isNode 4 = .ok (.iload_n 1, 1) := by decide +kernel
theorem dX12_isNode_5 : decode cX12_isNode 5 = .ok (.aload_n 0, 1) := by decide +kernel
theorem dX12_isNode_6 : decode cX12_isNode 6 = .ok (.getfield 130, 3) := by decide +kernel
theorem dX12_isNode_9 : decode cX12_isNode 9 = .ok (.if_icmp .ge 7, 3) := by decide +kernel
theorem dX12_isNode_12 : decode cX12_isNode 12 = .ok (.iconst 1, 1) := by decide +kernel
theorem dX12_isNode_13 : decode cX12_isNode 13 = .ok (.goto 4, 3) := by decide +kernel
theorem dX12_isNode_16 : decode cX12_isNode 16 = .ok (.iconst 0, 1) := by decide +kernel
theorem dX12_isNode_17 : decode cX12_isNode 17 = .ok (.ireturn, 1) := by decide +kernel
theorem dX12_isWord_0 : decode cX12_isWord 0 = .ok (.iload_n 1, 1) := by decide +kernel
theorem dX12_isWord_1 : decode cX12_isWord 1 = .ok (.ifCond .lt 15, 3) := by decide +kernel
theorem dX12_isWord_4 : decode cX12_isWord 4 = .ok (.iload_n 1, 1) := by decide +kernel
theorem dX12_isWord_5 : decode cX12_isWord 5 = .ok (.aload_n 0, 1) := by decide +kernel
theorem dX12_isWord_6 : decode cX12_isWord 6 = .ok (.getfield 133, 3) := by decide +kernel
theorem dX12_isWord_9 : decode cX12_isWord 9 = .ok (.if_icmp .ge 7, 3) := by decide +kernel
theorem dX12_isWord_12 : decode cX12_isWord 12 = .ok (.iconst 1, 1) := by decide +kernel
theorem dX12_isWord_13 : decode cX12_isWord 13 = .ok (.goto 4, 3) := by decide +kernel
theorem dX12_isWord_16 : decode cX12_isWord 16 = .ok (.iconst 0, 1) := by decide +kernel
theorem dX12_isWord_17 : decode cX12_isWord 17 = .ok (.ireturn, 1) := by decide +kernel
theorem dX12_isRank_0 : decode cX12_isRank 0 = .ok (.iload_n 0, 1) := by decide +kernel
theorem dX12_isRank_1 : decode cX12_isRank 1 = .ok (.i2l, 1) := by decide +kernel
theorem dX12_isRank_2 : decode cX12_isRank 2 = .ok (.lconst 0, 1) := by decide +kernel
theorem dX12_isRank_3 : decode cX12_isRank 3 = .ok (.ldc2_w 136, 3) := by decide +kernel
theorem dX12_isRank_6 : decode cX12_isRank 6 = .ok (.invokestatic 138, 3) := by decide +kernel
theorem dX12_isRank_9 : decode cX12_isRank 9 = .ok (.ireturn, 1) := by decide +kernel
theorem dX12_hasRank_0 : decode cX12_hasRank 0 = .ok (.iconst 0, 1) := by decide +kernel
theorem dX12_hasRank_1 : decode cX12_hasRank 1 = .ok (.istore_n 2, 1) := by decide +kernel
theorem dX12_hasRank_2 : decode cX12_hasRank 2 = .ok (.iconst 0, 1) := by decide +kernel
theorem dX12_hasRank_3 : decode cX12_hasRank 3 = .ok (.istore_n 3, 1) := by decide +kernel
theorem dX12_hasRank_4 : decode cX12_hasRank 4 = .ok (.iload_n 3, 1) := by decide +kernel
theorem dX12_hasRank_5 : decode cX12_hasRank 5 = .ok (.aload_n 0, 1) := by decide +kernel
theorem dX12_hasRank_6 : decode cX12_hasRank 6 = .ok (.getfield 133, 3) := by decide +kernel
theorem dX12_hasRank_9 : decode cX12_hasRank 9 = .ok (.if_icmp .ge 29, 3) := by decide +kernel
theorem dX12_hasRank_12 : decode cX12_hasRank 12 = .ok (.iload_n 2, 1) := by decide +kernel
theorem dX12_hasRank_13 : decode cX12_hasRank 13 = .ok (.ifCond .ne 13, 3) := by decide +kernel
theorem dX12_hasRank_16 : decode cX12_hasRank 16 = .ok (.aload_n 0, 1) := by decide +kernel
theorem dX12_hasRank_17 : decode cX12_hasRank 17 = .ok (.getfield 25, 3) := by decide +kernel
theorem dX12_hasRank_20 : decode cX12_hasRank 20 = .ok (.iload_n 3, 1) := by decide +kernel
theorem dX12_hasRank_21 : decode cX12_hasRank 21 = .ok (.iaload, 1) := by decide +kernel
theorem dX12_hasRank_22 : decode cX12_hasRank 22 = .ok (.iload_n 1, 1) := by decide +kernel
theorem dX12_hasRank_23 : decode cX12_hasRank 23 = .ok (.if_icmp .ne 7, 3) := by decide +kernel
theorem dX12_hasRank_26 : decode cX12_hasRank 26 = .ok (.iconst 1, 1) := by decide +kernel
theorem dX12_hasRank_27 : decode cX12_hasRank 27 = .ok (.goto 4, 3) := by decide +kernel
theorem dX12_hasRank_30 : decode cX12_hasRank 30 = .ok (.iconst 0, 1) := by decide +kernel
theorem dX12_hasRank_31 : decode cX12_hasRank 31 = .ok (.istore_n 2, 1) := by decide +kernel
theorem dX12_hasRank_32 : decode cX12_hasRank 32 = .ok (.iinc 3 1, 3) := by decide +kernel
theorem dX12_hasRank_35 : decode cX12_hasRank 35 = .ok (.goto (-31), 3) := by decide +kernel
theorem dX12_hasRank_38 : decode cX12_hasRank 38 = .ok (.iload_n 2, 1) := by decide +kernel
theorem dX12_hasRank_39 : decode cX12_hasRank 39 = .ok (.ireturn, 1) := by decide +kernel
theorem dX12_node_0 : decode cX12_node 0 = .ok (.aload_n 0, 1) := by decide +kernel
theorem dX12_node_1 : decode cX12_node 1 = .ok (.getfield 130, 3) := by decide +kernel
theorem dX12_node_4 : decode cX12_node 4 = .ok (.bipush 10, 2) := by decide +kernel
theorem dX12_node_6 : decode cX12_node 6 = .ok (.if_icmp .ne 10, 3) := by decide +kernel
theorem dX12_node_9 : decode cX12_node 9 = .ok (.aload_n 0, 1) := by decide +kernel
theorem dX12_node_10 : decode cX12_node 10 = .ok (.bipush (-8), 2) := by decide +kernel
theorem dX12_node_12 : decode cX12_node 12 = .ok (.invokevirtual 142, 3) := by decide +kernel
theorem dX12_node_15 : decode cX12_node 15 = .ok (.ireturn, 1) := by decide +kernel
theorem dX12_node_16 : decode cX12_node 16 = .ok (.aload_n 0, 1) := by decide +kernel
theorem dX12_node_17 : decode cX12_node 17 = .ok (.dup, 1) := by decide +kernel
theorem dX12_node_18 : decode cX12_node 18 = .ok (.getfield 130, 3) := by decide +kernel
theorem dX12_node_21 : decode cX12_node 21 = .ok (.iconst 1, 1) := by decide +kernel
theorem dX12_node_22 : decode cX12_node 22 = .ok (.iadd, 1) := by decide +kernel
theorem dX12_node_23 : decode cX12_node 23 = .ok (.putfield 130, 3) := by decide +kernel
theorem dX12_node_26 : decode cX12_node 26 = .ok (.aload_n 0, 1) := by decide +kernel
theorem dX12_node_27 : decode cX12_node 27 = .ok (.getfield 130, 3) := by decide +kernel
theorem dX12_node_30 : decode cX12_node 30 = .ok (.iconst 1, 1) := by decide +kernel
theorem dX12_node_31 : decode cX12_node 31 = .ok (.isub, 1) := by decide +kernel
theorem dX12_node_32 : decode cX12_node 32 = .ok (.ireturn, 1) := by decide +kernel
theorem dX12_word_0 : decode cX12_word 0 = .ok (.iload_n 3, 1) := by decide +kernel
theorem dX12_word_1 : decode cX12_word 1 = .ok (.ifCond .lt 37, 3) := by decide +kernel
theorem dX12_word_4 : decode cX12_word 4 = .ok (.iload_n 3, 1) := by decide +kernel
theorem dX12_word_5 : decode cX12_word 5 = .ok (.bipush 10, 2) := by decide +kernel
theorem dX12_word_7 : decode cX12_word 7 = .ok (.idiv, 1) := by decide +kernel
theorem dX12_word_8 : decode cX12_word 8 = .ok (.i2l, 1) := by decide +kernel
theorem dX12_word_9 : decode cX12_word 9 = .ok (.lconst 0, 1) := by decide +kernel
theorem dX12_word_10 : decode cX12_word 10 = .ok (.ldc2_w 146, 3) := by decide +kernel
theorem dX12_word_13 : decode cX12_word 13 = .ok (.invokestatic 138, 3) := by decide +kernel
theorem dX12_word_16 : decode cX12_word 16 = .ok (.ifCond .eq 22, 3) := by decide +kernel
theorem dX12_word_19 : decode cX12_word 19 = .ok (.iload_n 3, 1) := by decide +kernel
theorem dX12_word_20 : decode cX12_word 20 = .ok (.bipush 10, 2) := by decide +kernel
theorem dX12_word_22 : decode cX12_word 22 = .ok (.irem, 1) := by decide +kernel
theorem dX12_word_23 : decode cX12_word 23 = .ok (.i2l, 1) := by decide +kernel
theorem dX12_word_24 : decode cX12_word 24 = .ok (.lconst 0, 1) := by decide +kernel
theorem dX12_word_25 : decode cX12_word 25 = .ok (.ldc2_w 148, 3) := by decide +kernel
theorem dX12_word_28 : decode cX12_word 28 = .ok (.invokestatic 138, 3) := by decide +kernel
theorem dX12_word_31 : decode cX12_word 31 = .ok (.ifCond .eq 7, 3) := by decide +kernel
theorem dX12_word_34 : decode cX12_word 34 = .ok (.iconst 1, 1) := by decide +kernel
theorem dX12_word_35 : decode cX12_word 35 = .ok (.goto 4, 3) := by decide +kernel
theorem dX12_word_38 : decode cX12_word 38 = .ok (.iconst 0, 1) := by decide +kernel
theorem dX12_word_39 : decode cX12_word 39 = .ok (.istore 6, 2) := by decide +kernel
theorem dX12_word_41 : decode cX12_word 41 = .ok (.iload_n 3, 1) := by decide +kernel
theorem dX12_word_42 : decode cX12_word 42 = .ok (.ifCond .lt 15, 3) := by decide +kernel
theorem dX12_word_45 : decode cX12_word 45 = .ok (.iload_n 3, 1) := by decide +kernel
theorem dX12_word_46 : decode cX12_word 46 = .ok (.bipush 10, 2) := by decide +kernel
theorem dX12_word_48 : decode cX12_word 48 = .ok (.idiv, 1) := by decide +kernel
theorem dX12_word_49 : decode cX12_word 49 = .ok (.iconst 3, 1) := by decide +kernel
theorem dX12_word_50 : decode cX12_word 50 = .ok (.if_icmp .ne 7, 3) := by decide +kernel
theorem dX12_word_53 : decode cX12_word 53 = .ok (.iconst 1, 1) := by decide +kernel
theorem dX12_word_54 : decode cX12_word 54 = .ok (.goto 4, 3) := by decide +kernel
theorem dX12_word_57 : decode cX12_word 57 = .ok (.iconst 0, 1) := by decide +kernel
theorem dX12_word_58 : decode cX12_word 58 = .ok (.istore 7, 2) := by decide +kernel
theorem dX12_word_60 : decode cX12_word 60 = .ok (.aload_n 0, 1) := by decide +kernel
theorem dX12_word_61 : decode cX12_word 61 = .ok (.iload_n 1, 1) := by decide +kernel
theorem dX12_word_62 : decode cX12_word 62 = .ok (.invokevirtual 150, 3) := by decide +kernel
theorem dX12_word_65 : decode cX12_word 65 = .ok (.ifCond .eq 17, 3) := by decide +kernel
theorem dX12_word_68 : decode cX12_word 68 = .ok (.iload 7, 2) := by decide +kernel
theorem dX12_word_70 : decode cX12_word 70 = .ok (.ifCond .eq 19, 3) := by decide +kernel
theorem dX12_word_73 : decode cX12_word 73 = .ok (.aload_n 0, 1) := by decide +kernel
theorem dX12_word_74 : decode cX12_word 74 = .ok (.iload 5, 2) := by decide +kernel
theorem dX12_word_76 : decode cX12_word 76 = .ok (.invokevirtual 154, 3) := by decide +kernel
theorem dX12_word_79 : decode cX12_word 79 = .ok (.ifCond .ne 10, 3) := by decide +kernel
theorem dX12_word_82 : decode cX12_word 82 = .ok (.aload_n 0, 1) := by decide +kernel
theorem dX12_word_83 : decode cX12_word 83 = .ok (.bipush (-3), 2) := by decide +kernel
theorem dX12_word_85 : decode cX12_word 85 = .ok (.invokevirtual 142, 3) := by decide +kernel
theorem dX12_word_88 : decode cX12_word 88 = .ok (.ireturn, 1) := by decide +kernel
theorem dX12_word_89 : decode cX12_word 89 = .ok (.iload 6, 2) := by decide +kernel
theorem dX12_word_91 : decode cX12_word 91 = .ok (.ifCond .eq 43, 3) := by decide +kernel
theorem dX12_word_94 : decode cX12_word 94 = .ok (.iload_n 2, 1) := by decide +kernel
theorem dX12_word_95 : decode cX12_word 95 = .ok (.invokestatic 157, 3) := by decide +kernel
theorem dX12_word_98 : decode cX12_word 98 = .ok (.ifCond .eq 36, 3) := by decide +kernel
theorem dX12_word_101 : decode cX12_word 101 = .ok (.iload 4, 2) := by decide +kernel
theorem dX12_word_103 : decode cX12_word 103 = .ok (.i2l, 1) := by decide +kernel
theorem dX12_word_104 : decode cX12_word 104 = .ok (.ldc2_w 160, 3) := by decide +kernel
theorem dX12_word_107 : decode cX12_word 107 = .ok (.ldc2_w 162, 3) := by decide +kernel
theorem dX12_word_110 : decode cX12_word 110 = .ok (.invokestatic 138, 3) := by decide +kernel
theorem dX12_word_113 : decode cX12_word 113 = .ok (.ifCond .eq 21, 3) := by decide +kernel
theorem dX12_word_116 : decode cX12_word 116 = .ok (.iload 7, 2) := by decide +kernel
theorem dX12_word_118 : decode cX12_word 118 = .ok (.ifCond .ne 23, 3) := by decide +kernel
theorem dX12_word_121 : decode cX12_word 121 = .ok (.iload 5, 2) := by decide +kernel
theorem dX12_word_123 : decode cX12_word 123 = .ok (.i2l, 1) := by decide +kernel
theorem dX12_word_124 : decode cX12_word 124 = .ok (.lconst 0, 1) := by decide +kernel
theorem dX12_word_125 : decode cX12_word 125 = .ok (.ldc2_w 162, 3) := by decide +kernel
theorem dX12_word_128 : decode cX12_word 128 = .ok (.invokestatic 138, 3) := by decide +kernel
theorem dX12_word_131 : decode cX12_word 131 = .ok (.ifCond .ne 10, 3) := by decide +kernel
theorem dX12_word_134 : decode cX12_word 134 = .ok (.aload_n 0, 1) := by decide +kernel
theorem dX12_word_135 : decode cX12_word 135 = .ok (.bipush (-7), 2) := by decide +kernel
theorem dX12_word_137 : decode cX12_word 137 = .ok (.invokevirtual 142, 3) := by decide +kernel
theorem dX12_word_140 : decode cX12_word 140 = .ok (.ireturn, 1) := by decide +kernel
theorem dX12_word_141 : decode cX12_word 141 = .ok (.aload_n 0, 1) := by decide +kernel
theorem dX12_word_142 : decode cX12_word 142 = .ok (.iload_n 2, 1) := by decide +kernel
theorem dX12_word_143 : decode cX12_word 143 = .ok (.invokevirtual 164, 3) := by decide +kernel
theorem dX12_word_146 : decode cX12_word 146 = .ok (.ifCond .eq 10, 3) := by decide +kernel
theorem dX12_word_149 : decode cX12_word 149 = .ok (.aload_n 0, 1) := by decide +kernel
theorem dX12_word_150 : decode cX12_word 150 = .ok (.bipush (-9), 2) := by decide +kernel
theorem dX12_word_152 : decode cX12_word 152 = .ok (.invokevirtual 142, 3) := by decide +kernel
theorem dX12_word_155 : decode cX12_word 155 = .ok (.ireturn, 1) := by decide +kernel
theorem dX12_word_156 : decode cX12_word 156 = .ok (.aload_n 0, 1) := by decide +kernel
theorem dX12_word_157 : decode cX12_word 157 = .ok (.getfield 133, 3) := by decide +kernel
theorem dX12_word_160 : decode cX12_word 160 = .ok (.bipush 24, 2) := by decide +kernel
theorem dX12_word_162 : decode cX12_word 162 = .ok (.if_icmp .ne 10, 3) := by decide +kernel
theorem dX12_word_165 : decode cX12_word 165 = .ok (.aload_n 0, 1) := by decide +kernel
theorem dX12_word_166 : decode cX12_word 166 = .ok (.bipush (-8), 2) := by decide +kernel
theorem dX12_word_168 : decode cX12_word 168 = .ok (.invokevirtual 142, 3) := by decide +kernel
theorem dX12_word_171 : decode cX12_word 171 = .ok (.ireturn, 1) := by decide +kernel
theorem dX12_word_172 : decode cX12_word 172 = .ok (.aload_n 0, 1) := by decide +kernel
theorem dX12_word_173 : decode cX12_word 173 = .ok (.getfield 133, 3) := by decide +kernel
theorem dX12_word_176 : decode cX12_word 176 = .ok (.istore 8, 2) := by decide +kernel
theorem dX12_word_178 : decode cX12_word 178 = .ok (.aload_n 0, 1) := by decide +kernel
theorem dX12_word_179 : decode cX12_word 179 = .ok (.dup, 1) := by decide +kernel
theorem dX12_word_180 : decode cX12_word 180 = .ok (.getfield 133, 3) := by decide +kernel
theorem dX12_word_183 : decode cX12_word 183 = .ok (.iconst 1, 1) := by decide +kernel
theorem dX12_word_184 : decode cX12_word 184 = .ok (.iadd, 1) := by decide +kernel
theorem dX12_word_185 : decode cX12_word 185 = .ok (.putfield 133, 3) := by decide +kernel
theorem dX12_word_188 : decode cX12_word 188 = .ok (.aload_n 0, 1) := by decide +kernel
theorem dX12_word_189 : decode cX12_word 189 = .ok (.getfield 22, 3) := by decide +kernel
theorem dX12_word_192 : decode cX12_word 192 = .ok (.iload 8, 2) := by decide +kernel
theorem dX12_word_194 : decode cX12_word 194 = .ok (.iload_n 1, 1) := by decide +kernel
theorem dX12_word_195 : decode cX12_word 195 = .ok (.iastore, 1) := by decide +kernel
theorem dX12_word_196 : decode cX12_word 196 = .ok (.aload_n 0, 1) := by decide +kernel
theorem dX12_word_197 : decode cX12_word 197 = .ok (.getfield 25, 3) := by decide +kernel
theorem dX12_word_200 : decode cX12_word 200 = .ok (.iload 8, 2) := by decide +kernel
theorem dX12_word_202 : decode cX12_word 202 = .ok (.iload_n 2, 1) := by decide +kernel
theorem dX12_word_203 : decode cX12_word 203 = .ok (.iastore, 1) := by decide +kernel
theorem dX12_word_204 : decode cX12_word 204 = .ok (.aload_n 0, 1) := by decide +kernel
theorem dX12_word_205 : decode cX12_word 205 = .ok (.getfield 28, 3) := by decide +kernel
theorem dX12_word_208 : decode cX12_word 208 = .ok (.iload 8, 2) := by decide +kernel
theorem dX12_word_210 : decode cX12_word 210 = .ok (.iload_n 3, 1) := by decide +kernel
theorem dX12_word_211 : decode cX12_word 211 = .ok (.bipush 10, 2) := by decide +kernel
theorem dX12_word_213 : decode cX12_word 213 = .ok (.idiv, 1) := by decide +kernel
theorem dX12_word_214 : decode cX12_word 214 = .ok (.iastore, 1) := by decide +kernel
theorem dX12_word_215 : decode cX12_word 215 = .ok (.aload_n 0, 1) := by decide +kernel
theorem dX12_word_216 : decode cX12_word 216 = .ok (.getfield 31, 3) := by decide +kernel
theorem dX12_word_219 : decode cX12_word 219 = .ok (.iload 8, 2) := by decide +kernel
theorem dX12_word_221 : decode cX12_word 221 = .ok (.iload_n 3, 1) := by decide +kernel
theorem dX12_word_222 : decode cX12_word 222 = .ok (.bipush 10, 2) := by decide +kernel
theorem dX12_word_224 : decode cX12_word 224 = .ok (.irem, 1) := by decide +kernel
theorem dX12_word_225 : decode cX12_word 225 = .ok (.iastore, 1) := by decide +kernel
theorem dX12_word_226 : decode cX12_word 226 = .ok (.aload_n 0, 1) := by decide +kernel
theorem dX12_word_227 : decode cX12_word 227 = .ok (.getfield 34, 3) := by decide +kernel
theorem dX12_word_230 : decode cX12_word 230 = .ok (.iload 8, 2) := by decide +kernel
theorem dX12_word_232 : decode cX12_word 232 = .ok (.iload 4, 2) := by decide +kernel
theorem dX12_word_234 : decode cX12_word 234 = .ok (.iastore, 1) := by decide +kernel
theorem dX12_word_235 : decode cX12_word 235 = .ok (.aload_n 0, 1) := by decide +kernel
theorem dX12_word_236 : decode cX12_word 236 = .ok (.getfield 37, 3) := by decide +kernel
theorem dX12_word_239 : decode cX12_word 239 = .ok (.iload 8, 2) := by decide +kernel
theorem dX12_word_241 : decode cX12_word 241 = .ok (.iload 5, 2) := by decide +kernel
theorem dX12_word_243 : decode cX12_word 243 = .ok (.iastore, 1) := by decide +kernel
theorem dX12_word_244 : decode cX12_word 244 = .ok (.aload_n 0, 1) := by decide +kernel
theorem dX12_word_245 : decode cX12_word 245 = .ok (.getfield 43, 3) := by decide +kernel
theorem dX12_word_248 : decode cX12_word 248 = .ok (.iload 8, 2) := by decide +kernel
theorem dX12_word_250 : decode cX12_word 250 = .ok (.iload 4, 2) := by decide +kernel
theorem dX12_word_252 : decode cX12_word 252 = .ok (.iastore, 1) := by decide +kernel
theorem dX12_word_253 : decode cX12_word 253 = .ok (.aload_n 0, 1) := by decide +kernel
theorem dX12_word_254 : decode cX12_word 254 = .ok (.getfield 72, 3) := by decide +kernel
theorem dX12_word_257 : decode cX12_word 257 = .ok (.iload 8, 2) := by decide +kernel
theorem dX12_word_259 : decode cX12_word 259 = .ok (.iconst (-1), 1) := by decide +kernel
theorem dX12_word_260 : decode cX12_word 260 = .ok (.iastore, 1) := by decide +kernel
theorem dX12_word_261 : decode cX12_word 261 = .ok (.aload_n 0, 1) := by decide +kernel
theorem dX12_word_262 : decode cX12_word 262 = .ok (.getfield 60, 3) := by decide +kernel
theorem dX12_word_265 : decode cX12_word 265 = .ok (.iload 8, 2) := by decide +kernel
theorem dX12_word_267 : decode cX12_word 267 = .ok (.iconst (-1), 1) := by decide +kernel
theorem dX12_word_268 : decode cX12_word 268 = .ok (.iastore, 1) := by decide +kernel
theorem dX12_word_269 : decode cX12_word 269 = .ok (.aload_n 0, 1) := by decide +kernel
theorem dX12_word_270 : decode cX12_word 270 = .ok (.getfield 63, 3) := by decide +kernel
theorem dX12_word_273 : decode cX12_word 273 = .ok (.iload 8, 2) := by decide +kernel
theorem dX12_word_275 : decode cX12_word 275 = .ok (.iconst (-1), 1) := by decide +kernel
theorem dX12_word_276 : decode cX12_word 276 = .ok (.iastore, 1) := by decide +kernel
theorem dX12_word_277 : decode cX12_word 277 = .ok (.aload_n 0, 1) := by decide +kernel
theorem dX12_word_278 : decode cX12_word 278 = .ok (.getfield 167, 3) := by decide +kernel
theorem dX12_word_281 : decode cX12_word 281 = .ok (.iload 5, 2) := by decide +kernel
theorem dX12_word_283 : decode cX12_word 283 = .ok (.if_icmp .le 25, 3) := by decide +kernel
theorem dX12_word_286 : decode cX12_word 286 = .ok (.aload_n 0, 1) := by decide +kernel
theorem dX12_word_287 : decode cX12_word 287 = .ok (.getfield 57, 3) := by decide +kernel
theorem dX12_word_290 : decode cX12_word 290 = .ok (.iload 8, 2) := by decide +kernel
theorem dX12_word_292 : decode cX12_word 292 = .ok (.aload_n 0, 1) := by decide +kernel
theorem dX12_word_293 : decode cX12_word 293 = .ok (.getfield 167, 3) := by decide +kernel
theorem dX12_word_296 : decode cX12_word 296 = .ok (.iload 5, 2) := by decide +kernel
theorem dX12_word_298 : decode cX12_word 298 = .ok (.isub, 1) := by decide +kernel
theorem dX12_word_299 : decode cX12_word 299 = .ok (.iload 4, 2) := by decide +kernel
theorem dX12_word_301 : decode cX12_word 301 = .ok (.iadd, 1) := by decide +kernel
theorem dX12_word_302 : decode cX12_word 302 = .ok (.iconst 1, 1) := by decide +kernel
theorem dX12_word_303 : decode cX12_word 303 = .ok (.isub, 1) := by decide +kernel
theorem dX12_word_304 : decode cX12_word 304 = .ok (.iload 4, 2) := by decide +kernel
theorem dX12_word_306 : decode cX12_word 306 = .ok (.idiv, 1) := by decide +kernel
theorem dX12_word_307 : decode cX12_word 307 = .ok (.iastore, 1) := by decide +kernel
theorem dX12_word_308 : decode cX12_word 308 = .ok (.aload_n 0, 1) := by decide +kernel
theorem dX12_word_309 : decode cX12_word 309 = .ok (.iconst 0, 1) := by decide +kernel
theorem dX12_word_310 : decode cX12_word 310 = .ok (.putfield 170, 3) := by decide +kernel
theorem dX12_word_313 : decode cX12_word 313 = .ok (.iload 8, 2) := by decide +kernel
theorem dX12_word_315 : decode cX12_word 315 = .ok (.ireturn, 1) := by decide +kernel
theorem dX12_late_0 : decode cX12_late 0 = .ok (.aload_n 0, 1) := by decide +kernel
theorem dX12_late_1 : decode cX12_late 1 = .ok (.iload_n 1, 1) := by decide +kernel
theorem dX12_late_2 : decode cX12_late 2 = .ok (.invokevirtual 154, 3) := by decide +kernel
theorem dX12_late_5 : decode cX12_late 5 = .ok (.ifCond .ne 10, 3) := by decide +kernel
theorem dX12_late_8 : decode cX12_late 8 = .ok (.aload_n 0, 1) := by decide +kernel
theorem dX12_late_9 : decode cX12_late 9 = .ok (.bipush (-3), 2) := by decide +kernel
theorem dX12_late_11 : decode cX12_late 11 = .ok (.invokevirtual 142, 3) := by decide +kernel
theorem dX12_late_14 : decode cX12_late 14 = .ok (.ireturn, 1) := by decide +kernel
theorem dX12_late_15 : decode cX12_late 15 = .ok (.aload_n 0, 1) := by decide +kernel
theorem dX12_late_16 : decode cX12_late 16 = .ok (.getfield 28, 3) := by decide +kernel
theorem dX12_late_19 : decode cX12_late 19 = .ok (.iload_n 1, 1) := by decide +kernel
theorem dX12_late_20 : decode cX12_late 20 = .ok (.iaload, 1) := by decide +kernel
theorem dX12_late_21 : decode cX12_late 21 = .ok (.iconst 1, 1) := by decide +kernel
theorem dX12_late_22 : decode cX12_late 22 = .ok (.if_icmp .eq 10, 3) := by decide +kernel
theorem dX12_late_25 : decode cX12_late 25 = .ok (.aload_n 0, 1) := by decide +kernel
theorem dX12_late_26 : decode cX12_late 26 = .ok (.bipush (-5), 2) := by decide +kernel
theorem dX12_late_28 : decode cX12_late 28 = .ok (.invokevirtual 142, 3) := by decide +kernel
theorem dX12_late_31 : decode cX12_late 31 = .ok (.ireturn, 1) := by decide +kernel
theorem dX12_late_32 : decode cX12_late 32 = .ok (.iload_n 2, 1) := by decide +kernel
theorem dX12_late_33 : decode cX12_late 33 = .ok (.i2l, 1) := by decide +kernel
theorem dX12_late_34 : decode cX12_late 34 = .ok (.lconst 0, 1) := by decide +kernel
theorem dX12_late_35 : decode cX12_late 35 = .ok (.ldc2_w 174, 3) := by decide +kernel
theorem dX12_late_38 : decode cX12_late 38 = .ok (.invokestatic 138, 3) := by decide +kernel
theorem dX12_late_41 : decode cX12_late 41 = .ok (.ifCond .ne 10, 3) := by decide +kernel
theorem dX12_late_44 : decode cX12_late 44 = .ok (.aload_n 0, 1) := by decide +kernel
theorem dX12_late_45 : decode cX12_late 45 = .ok (.bipush (-7), 2) := by decide +kernel
theorem dX12_late_47 : decode cX12_late 47 = .ok (.invokevirtual 142, 3) := by decide +kernel
theorem dX12_late_50 : decode cX12_late 50 = .ok (.ireturn, 1) := by decide +kernel
theorem dX12_late_51 : decode cX12_late 51 = .ok (.aload_n 0, 1) := by decide +kernel
theorem dX12_late_52 : decode cX12_late 52 = .ok (.getfield 40, 3) := by decide +kernel
theorem dX12_late_55 : decode cX12_late 55 = .ok (.iload_n 1, 1) := by decide +kernel
theorem dX12_late_56 : decode cX12_late 56 = .ok (.iaload, 1) := by decide +kernel
theorem dX12_late_57 : decode cX12_late 57 = .ok (.istore_n 3, 1) := by decide +kernel
theorem dX12_late_58 : decode cX12_late 58 = .ok (.aload_n 0, 1) := by decide +kernel
theorem dX12_late_59 : decode cX12_late 59 = .ok (.getfield 40, 3) := by decide +kernel
theorem dX12_late_62 : decode cX12_late 62 = .ok (.iload_n 1, 1) := by decide +kernel
theorem dX12_late_63 : decode cX12_late 63 = .ok (.iload_n 2, 1) := by decide +kernel
theorem dX12_late_64 : decode cX12_late 64 = .ok (.iastore, 1) := by decide +kernel
theorem dX12_late_65 : decode cX12_late 65 = .ok (.aload_n 0, 1) := by decide +kernel
theorem dX12_late_66 : decode cX12_late 66 = .ok (.aload_n 0, 1) := by decide +kernel
theorem dX12_late_67 : decode cX12_late 67 = .ok (.getfield 170, 3) := by decide +kernel
theorem dX12_late_70 : decode cX12_late 70 = .ok (.ifCond .eq 12, 3) := by decide +kernel
theorem dX12_late_73 : decode cX12_late 73 = .ok (.iload_n 3, 1) := by decide +kernel
theorem dX12_late_74 : decode cX12_late 74 = .ok (.iload_n 2, 1) := by decide +kernel
theorem dX12_late_75 : decode cX12_late 75 = .ok (.if_icmp .ne 7, 3) := by decide +kernel
theorem dX12_late_78 : decode cX12_late 78 = .ok (.iconst 1, 1) := by decide +kernel
theorem dX12_late_79 : decode cX12_late 79 = .ok (.goto 4, 3) := by decide +kernel
theorem dX12_late_82 : decode cX12_late 82 = .ok (.iconst 0, 1) := by decide +kernel
theorem dX12_late_83 : decode cX12_late 83 = .ok (.putfield 170, 3) := by decide +kernel
theorem dX12_late_86 : decode cX12_late 86 = .ok (.iload_n 3, 1) := by decide +kernel
theorem dX12_late_87 : decode cX12_late 87 = .ok (.ireturn, 1) := by decide +kernel
theorem dX12_due_0 : decode cX12_due 0 = .ok (.aload_n 0, 1) := by decide +kernel
theorem dX12_due_1 : decode cX12_due 1 = .ok (.iload_n 1, 1) := by decide +kernel
theorem dX12_due_2 : decode cX12_due 2 = .ok (.invokevirtual 154, 3) := by decide +kernel
theorem dX12_due_5 : decode cX12_due 5 = .ok (.ifCond .ne 10, 3) := by decide +kernel
theorem dX12_due_8 : decode cX12_due 8 = .ok (.aload_n 0, 1) := by decide +kernel
theorem dX12_due_9 : decode cX12_due 9 = .ok (.bipush (-3), 2) := by decide +kernel
theorem dX12_due_11 : decode cX12_due 11 = .ok (.invokevirtual 142, 3) := by decide +kernel
theorem dX12_due_14 : decode cX12_due 14 = .ok (.ireturn, 1) := by decide +kernel
theorem dX12_due_15 : decode cX12_due 15 = .ok (.iload_n 2, 1) := by decide +kernel
theorem dX12_due_16 : decode cX12_due 16 = .ok (.i2l, 1) := by decide +kernel
theorem dX12_due_17 : decode cX12_due 17 = .ok (.lconst 1, 1) := by decide +kernel
theorem dX12_due_18 : decode cX12_due 18 = .ok (.ldc2_w 176, 3) := by decide +kernel
theorem dX12_due_21 : decode cX12_due 21 = .ok (.invokestatic 138, 3) := by decide +kernel
theorem dX12_due_24 : decode cX12_due 24 = .ok (.ifCond .ne 10, 3) := by decide +kernel
theorem dX12_due_27 : decode cX12_due 27 = .ok (.aload_n 0, 1) := by decide +kernel
theorem dX12_due_28 : decode cX12_due 28 = .ok (.bipush (-7), 2) := by decide +kernel
theorem dX12_due_30 : decode cX12_due 30 = .ok (.invokevirtual 142, 3) := by decide +kernel
theorem dX12_due_33 : decode cX12_due 33 = .ok (.ireturn, 1) := by decide +kernel
theorem dX12_due_34 : decode cX12_due 34 = .ok (.aload_n 0, 1) := by decide +kernel
theorem dX12_due_35 : decode cX12_due 35 = .ok (.getfield 43, 3) := by decide +kernel
theorem dX12_due_38 : decode cX12_due 38 = .ok (.iload_n 1, 1) := by decide +kernel
theorem dX12_due_39 : decode cX12_due 39 = .ok (.iaload, 1) := by decide +kernel
theorem dX12_due_40 : decode cX12_due 40 = .ok (.istore_n 3, 1) := by decide +kernel
theorem dX12_due_41 : decode cX12_due 41 = .ok (.aload_n 0, 1) := by decide +kernel
theorem dX12_due_42 : decode cX12_due 42 = .ok (.getfield 43, 3) := by decide +kernel
theorem dX12_due_45 : decode cX12_due 45 = .ok (.iload_n 1, 1) := by decide +kernel
theorem dX12_due_46 : decode cX12_due 46 = .ok (.iload_n 2, 1) := by decide +kernel
theorem dX12_due_47 : decode cX12_due 47 = .ok (.iastore, 1) := by decide +kernel
theorem dX12_due_48 : decode cX12_due 48 = .ok (.aload_n 0, 1) := by decide +kernel
theorem dX12_due_49 : decode cX12_due 49 = .ok (.aload_n 0, 1) := by decide +kernel
theorem dX12_due_50 : decode cX12_due 50 = .ok (.getfield 170, 3) := by decide +kernel
theorem dX12_due_53 : decode cX12_due 53 = .ok (.ifCond .eq 12, 3) := by decide +kernel
theorem dX12_due_56 : decode cX12_due 56 = .ok (.iload_n 3, 1) := by decide +kernel
theorem dX12_due_57 : decode cX12_due 57 = .ok (.iload_n 2, 1) := by decide +kernel
theorem dX12_due_58 : decode cX12_due 58 = .ok (.if_icmp .ne 7, 3) := by decide +kernel
theorem dX12_due_61 : decode cX12_due 61 = .ok (.iconst 1, 1) := by decide +kernel
theorem dX12_due_62 : decode cX12_due 62 = .ok (.goto 4, 3) := by decide +kernel
theorem dX12_due_65 : decode cX12_due 65 = .ok (.iconst 0, 1) := by decide +kernel
theorem dX12_due_66 : decode cX12_due 66 = .ok (.putfield 170, 3) := by decide +kernel
theorem dX12_due_69 : decode cX12_due 69 = .ok (.iload_n 3, 1) := by decide +kernel
theorem dX12_due_70 : decode cX12_due 70 = .ok (.ireturn, 1) := by decide +kernel
theorem dX12_value_0 : decode cX12_value 0 = .ok (.aload_n 0, 1) := by decide +kernel
theorem dX12_value_1 : decode cX12_value 1 = .ok (.iload_n 1, 1) := by decide +kernel
theorem dX12_value_2 : decode cX12_value 2 = .ok (.invokevirtual 154, 3) := by decide +kernel
theorem dX12_value_5 : decode cX12_value 5 = .ok (.ifCond .ne 10, 3) := by decide +kernel
theorem dX12_value_8 : decode cX12_value 8 = .ok (.aload_n 0, 1) := by decide +kernel
theorem dX12_value_9 : decode cX12_value 9 = .ok (.bipush (-3), 2) := by decide +kernel
theorem dX12_value_11 : decode cX12_value 11 = .ok (.invokevirtual 142, 3) := by decide +kernel
theorem dX12_value_14 : decode cX12_value 14 = .ok (.ireturn, 1) := by decide +kernel
theorem dX12_value_15 : decode cX12_value 15 = .ok (.aload_n 0, 1) := by decide +kernel
theorem dX12_value_16 : decode cX12_value 16 = .ok (.getfield 46, 3) := by decide +kernel
theorem dX12_value_19 : decode cX12_value 19 = .ok (.iload_n 1, 1) := by decide +kernel
theorem dX12_value_20 : decode cX12_value 20 = .ok (.laload, 1) := by decide +kernel
theorem dX12_value_21 : decode cX12_value 21 = .ok (.lload_n 2, 1) := by decide +kernel
theorem dX12_value_22 : decode cX12_value 22 = .ok (.lcmp, 1) := by decide +kernel
theorem dX12_value_23 : decode cX12_value 23 = .ok (.ifCond .eq 7, 3) := by decide +kernel
theorem dX12_value_26 : decode cX12_value 26 = .ok (.iconst 1, 1) := by decide +kernel
theorem dX12_value_27 : decode cX12_value 27 = .ok (.goto 4, 3) := by decide +kernel
theorem dX12_value_30 : decode cX12_value 30 = .ok (.iconst 0, 1) := by decide +kernel
theorem dX12_value_31 : decode cX12_value 31 = .ok (.istore 4, 2) := by decide +kernel
theorem dX12_value_33 : decode cX12_value 33 = .ok (.aload_n 0, 1) := by decide +kernel
theorem dX12_value_34 : decode cX12_value 34 = .ok (.getfield 46, 3) := by decide +kernel
theorem dX12_value_37 : decode cX12_value 37 = .ok (.iload_n 1, 1) := by decide +kernel
theorem dX12_value_38 : decode cX12_value 38 = .ok (.lload_n 2, 1) := by decide +kernel
theorem dX12_value_39 : decode cX12_value 39 = .ok (.lastore, 1) := by decide +kernel
theorem dX12_value_40 : decode cX12_value 40 = .ok (.iload 4, 2) := by decide +kernel
theorem dX12_value_42 : decode cX12_value 42 = .ok (.ifCond .eq 7, 3) := by decide +kernel
theorem dX12_value_45 : decode cX12_value 45 = .ok (.iconst 1, 1) := by decide +kernel
theorem dX12_value_46 : decode cX12_value 46 = .ok (.goto 4, 3) := by decide +kernel
theorem dX12_value_49 : decode cX12_value 49 = .ok (.iconst 0, 1) := by decide +kernel
theorem dX12_value_50 : decode cX12_value 50 = .ok (.ireturn, 1) := by decide +kernel
theorem dX12_rank_0 : decode cX12_rank 0 = .ok (.aload_n 0, 1) := by decide +kernel
theorem dX12_rank_1 : decode cX12_rank 1 = .ok (.iload_n 1, 1) := by decide +kernel
theorem dX12_rank_2 : decode cX12_rank 2 = .ok (.invokevirtual 154, 3) := by decide +kernel
theorem dX12_rank_5 : decode cX12_rank 5 = .ok (.ifCond .ne 10, 3) := by decide +kernel
theorem dX12_rank_8 : decode cX12_rank 8 = .ok (.aload_n 0, 1) := by decide +kernel
theorem dX12_rank_9 : decode cX12_rank 9 = .ok (.bipush (-3), 2) := by decide +kernel
theorem dX12_rank_11 : decode cX12_rank 11 = .ok (.invokevirtual 142, 3) := by decide +kernel
theorem dX12_rank_14 : decode cX12_rank 14 = .ok (.ireturn, 1) := by decide +kernel
theorem dX12_rank_15 : decode cX12_rank 15 = .ok (.iload_n 2, 1) := by decide +kernel
theorem dX12_rank_16 : decode cX12_rank 16 = .ok (.invokestatic 157, 3) := by decide +kernel
theorem dX12_rank_19 : decode cX12_rank 19 = .ok (.ifCond .ne 10, 3) := by decide +kernel
theorem dX12_rank_22 : decode cX12_rank 22 = .ok (.aload_n 0, 1) := by decide +kernel
theorem dX12_rank_23 : decode cX12_rank 23 = .ok (.bipush (-7), 2) := by decide +kernel
theorem dX12_rank_25 : decode cX12_rank 25 = .ok (.invokevirtual 142, 3) := by decide +kernel
theorem dX12_rank_28 : decode cX12_rank 28 = .ok (.ireturn, 1) := by decide +kernel
theorem dX12_rank_29 : decode cX12_rank 29 = .ok (.aload_n 0, 1) := by decide +kernel
theorem dX12_rank_30 : decode cX12_rank 30 = .ok (.getfield 25, 3) := by decide +kernel
theorem dX12_rank_33 : decode cX12_rank 33 = .ok (.iload_n 1, 1) := by decide +kernel
theorem dX12_rank_34 : decode cX12_rank 34 = .ok (.iaload, 1) := by decide +kernel
theorem dX12_rank_35 : decode cX12_rank 35 = .ok (.istore_n 3, 1) := by decide +kernel
theorem dX12_rank_36 : decode cX12_rank 36 = .ok (.iload_n 2, 1) := by decide +kernel
theorem dX12_rank_37 : decode cX12_rank 37 = .ok (.iload_n 3, 1) := by decide +kernel
theorem dX12_rank_38 : decode cX12_rank 38 = .ok (.if_icmp .ne 5, 3) := by decide +kernel
theorem dX12_rank_41 : decode cX12_rank 41 = .ok (.iload_n 3, 1) := by decide +kernel
theorem dX12_rank_42 : decode cX12_rank 42 = .ok (.ireturn, 1) := by decide +kernel
theorem dX12_rank_43 : decode cX12_rank 43 = .ok (.aload_n 0, 1) := by decide +kernel
theorem dX12_rank_44 : decode cX12_rank 44 = .ok (.iload_n 2, 1) := by decide +kernel
theorem dX12_rank_45 : decode cX12_rank 45 = .ok (.invokevirtual 164, 3) := by decide +kernel
theorem dX12_rank_48 : decode cX12_rank 48 = .ok (.ifCond .eq 10, 3) := by decide +kernel
theorem dX12_rank_51 : decode cX12_rank 51 = .ok (.aload_n 0, 1) := by decide +kernel
theorem dX12_rank_52 : decode cX12_rank 52 = .ok (.bipush (-9), 2) := by decide +kernel
theorem dX12_rank_54 : decode cX12_rank 54 = .ok (.invokevirtual 142, 3) := by decide +kernel
theorem dX12_rank_57 : decode cX12_rank 57 = .ok (.ireturn, 1) := by decide +kernel
theorem dX12_rank_58 : decode cX12_rank 58 = .ok (.aload_n 0, 1) := by decide +kernel
theorem dX12_rank_59 : decode cX12_rank 59 = .ok (.getfield 25, 3) := by decide +kernel
theorem dX12_rank_62 : decode cX12_rank 62 = .ok (.iload_n 1, 1) := by decide +kernel
theorem dX12_rank_63 : decode cX12_rank 63 = .ok (.iload_n 2, 1) := by decide +kernel
theorem dX12_rank_64 : decode cX12_rank 64 = .ok (.iastore, 1) := by decide +kernel
theorem dX12_rank_65 : decode cX12_rank 65 = .ok (.aload_n 0, 1) := by decide +kernel
theorem dX12_rank_66 : decode cX12_rank 66 = .ok (.iconst 0, 1) := by decide +kernel
theorem dX12_rank_67 : decode cX12_rank 67 = .ok (.putfield 170, 3) := by decide +kernel
theorem dX12_rank_70 : decode cX12_rank 70 = .ok (.iload_n 3, 1) := by decide +kernel
theorem dX12_rank_71 : decode cX12_rank 71 = .ok (.ireturn, 1) := by decide +kernel
theorem dX12_of_0 : decode cX12_of 0 = .ok (.aload_n 0, 1) := by decide +kernel
theorem dX12_of_1 : decode cX12_of 1 = .ok (.iload_n 1, 1) := by decide +kernel
theorem dX12_of_2 : decode cX12_of 2 = .ok (.invokevirtual 154, 3) := by decide +kernel
theorem dX12_of_5 : decode cX12_of 5 = .ok (.ifCond .ne 10, 3) := by decide +kernel
theorem dX12_of_8 : decode cX12_of 8 = .ok (.aload_n 0, 1) := by decide +kernel
theorem dX12_of_9 : decode cX12_of 9 = .ok (.bipush (-3), 2) := by decide +kernel
theorem dX12_of_11 : decode cX12_of 11 = .ok (.invokevirtual 142, 3) := by decide +kernel
theorem dX12_of_14 : decode cX12_of 14 = .ok (.ireturn, 1) := by decide +kernel
theorem dX12_of_15 : decode cX12_of 15 = .ok (.iload_n 2, 1) := by decide +kernel
theorem dX12_of_16 : decode cX12_of 16 = .ok (.tableswitch 156 0 11 #[64, 71, 78, 85, 92, 99, 106, 113, 120, 135, 142, 149], 64) := by decide +kernel
theorem dX12_of_80 : decode cX12_of 80 = .ok (.aload_n 0, 1) := by decide +kernel
theorem dX12_of_81 : decode cX12_of 81 = .ok (.getfield 22, 3) := by decide +kernel
theorem dX12_of_84 : decode cX12_of 84 = .ok (.iload_n 1, 1) := by decide +kernel
theorem dX12_of_85 : decode cX12_of 85 = .ok (.iaload, 1) := by decide +kernel
theorem dX12_of_86 : decode cX12_of 86 = .ok (.ireturn, 1) := by decide +kernel
theorem dX12_of_87 : decode cX12_of 87 = .ok (.aload_n 0, 1) := by decide +kernel
theorem dX12_of_88 : decode cX12_of 88 = .ok (.getfield 25, 3) := by decide +kernel
theorem dX12_of_91 : decode cX12_of 91 = .ok (.iload_n 1, 1) := by decide +kernel
theorem dX12_of_92 : decode cX12_of 92 = .ok (.iaload, 1) := by decide +kernel
theorem dX12_of_93 : decode cX12_of 93 = .ok (.ireturn, 1) := by decide +kernel
theorem dX12_of_94 : decode cX12_of 94 = .ok (.aload_n 0, 1) := by decide +kernel
theorem dX12_of_95 : decode cX12_of 95 = .ok (.getfield 28, 3) := by decide +kernel
theorem dX12_of_98 : decode cX12_of 98 = .ok (.iload_n 1, 1) := by decide +kernel
theorem dX12_of_99 : decode cX12_of 99 = .ok (.iaload, 1) := by decide +kernel
theorem dX12_of_100 : decode cX12_of 100 = .ok (.ireturn, 1) := by decide +kernel
theorem dX12_of_101 : decode cX12_of 101 = .ok (.aload_n 0, 1) := by decide +kernel
theorem dX12_of_102 : decode cX12_of 102 = .ok (.getfield 31, 3) := by decide +kernel
theorem dX12_of_105 : decode cX12_of 105 = .ok (.iload_n 1, 1) := by decide +kernel
theorem dX12_of_106 : decode cX12_of 106 = .ok (.iaload, 1) := by decide +kernel
theorem dX12_of_107 : decode cX12_of 107 = .ok (.ireturn, 1) := by decide +kernel
theorem dX12_of_108 : decode cX12_of 108 = .ok (.aload_n 0, 1) := by decide +kernel
theorem dX12_of_109 : decode cX12_of 109 = .ok (.getfield 34, 3) := by decide +kernel
theorem dX12_of_112 : decode cX12_of 112 = .ok (.iload_n 1, 1) := by decide +kernel
theorem dX12_of_113 : decode cX12_of 113 = .ok (.iaload, 1) := by decide +kernel
theorem dX12_of_114 : decode cX12_of 114 = .ok (.ireturn, 1) := by decide +kernel
theorem dX12_of_115 : decode cX12_of 115 = .ok (.aload_n 0, 1) := by decide +kernel
theorem dX12_of_116 : decode cX12_of 116 = .ok (.getfield 37, 3) := by decide +kernel
theorem dX12_of_119 : decode cX12_of 119 = .ok (.iload_n 1, 1) := by decide +kernel
theorem dX12_of_120 : decode cX12_of 120 = .ok (.iaload, 1) := by decide +kernel
theorem dX12_of_121 : decode cX12_of 121 = .ok (.ireturn, 1) := by decide +kernel
theorem dX12_of_122 : decode cX12_of 122 = .ok (.aload_n 0, 1) := by decide +kernel
theorem dX12_of_123 : decode cX12_of 123 = .ok (.getfield 40, 3) := by decide +kernel
theorem dX12_of_126 : decode cX12_of 126 = .ok (.iload_n 1, 1) := by decide +kernel
theorem dX12_of_127 : decode cX12_of 127 = .ok (.iaload, 1) := by decide +kernel
theorem dX12_of_128 : decode cX12_of 128 = .ok (.ireturn, 1) := by decide +kernel
theorem dX12_of_129 : decode cX12_of 129 = .ok (.aload_n 0, 1) := by decide +kernel
theorem dX12_of_130 : decode cX12_of 130 = .ok (.getfield 43, 3) := by decide +kernel
theorem dX12_of_133 : decode cX12_of 133 = .ok (.iload_n 1, 1) := by decide +kernel
theorem dX12_of_134 : decode cX12_of 134 = .ok (.iaload, 1) := by decide +kernel
theorem dX12_of_135 : decode cX12_of 135 = .ok (.ireturn, 1) := by decide +kernel
theorem dX12_of_136 : decode cX12_of 136 = .ok (.aload_n 0, 1) := by decide +kernel
theorem dX12_of_137 : decode cX12_of 137 = .ok (.getfield 50, 3) := by decide +kernel
theorem dX12_of_140 : decode cX12_of 140 = .ok (.iload_n 1, 1) := by decide +kernel
theorem dX12_of_141 : decode cX12_of 141 = .ok (.baload, 1) := by decide +kernel
theorem dX12_of_142 : decode cX12_of 142 = .ok (.ifCond .eq 7, 3) := by decide +kernel
theorem dX12_of_145 : decode cX12_of 145 = .ok (.iconst 1, 1) := by decide +kernel
theorem dX12_of_146 : decode cX12_of 146 = .ok (.goto 4, 3) := by decide +kernel
theorem dX12_of_149 : decode cX12_of 149 = .ok (.iconst 0, 1) := by decide +kernel
theorem dX12_of_150 : decode cX12_of 150 = .ok (.ireturn, 1) := by decide +kernel
theorem dX12_of_151 : decode cX12_of 151 = .ok (.aload_n 0, 1) := by decide +kernel
theorem dX12_of_152 : decode cX12_of 152 = .ok (.getfield 66, 3) := by decide +kernel
theorem dX12_of_155 : decode cX12_of 155 = .ok (.iload_n 1, 1) := by decide +kernel
theorem dX12_of_156 : decode cX12_of 156 = .ok (.iaload, 1) := by decide +kernel
theorem dX12_of_157 : decode cX12_of 157 = .ok (.ireturn, 1) := by decide +kernel
theorem dX12_of_158 : decode cX12_of 158 = .ok (.aload_n 0, 1) := by decide +kernel
theorem dX12_of_159 : decode cX12_of 159 = .ok (.getfield 69, 3) := by decide +kernel
theorem dX12_of_162 : decode cX12_of 162 = .ok (.iload_n 1, 1) := by decide +kernel
theorem dX12_of_163 : decode cX12_of 163 = .ok (.iaload, 1) := by decide +kernel
theorem dX12_of_164 : decode cX12_of 164 = .ok (.ireturn, 1) := by decide +kernel
theorem dX12_of_165 : decode cX12_of 165 = .ok (.aload_n 0, 1) := by decide +kernel
theorem dX12_of_166 : decode cX12_of 166 = .ok (.getfield 72, 3) := by decide +kernel
theorem dX12_of_169 : decode cX12_of 169 = .ok (.iload_n 1, 1) := by decide +kernel
theorem dX12_of_170 : decode cX12_of 170 = .ok (.iaload, 1) := by decide +kernel
theorem dX12_of_171 : decode cX12_of 171 = .ok (.ireturn, 1) := by decide +kernel
theorem dX12_of_172 : decode cX12_of 172 = .ok (.aload_n 0, 1) := by decide +kernel
theorem dX12_of_173 : decode cX12_of 173 = .ok (.bipush (-7), 2) := by decide +kernel
theorem dX12_of_175 : decode cX12_of 175 = .ok (.invokevirtual 142, 3) := by decide +kernel
theorem dX12_of_178 : decode cX12_of 178 = .ok (.ireturn, 1) := by decide +kernel
theorem dX12_about_0 : decode cX12_about 0 = .ok (.aload_n 0, 1) := by decide +kernel
theorem dX12_about_1 : decode cX12_about 1 = .ok (.iload_n 1, 1) := by decide +kernel
theorem dX12_about_2 : decode cX12_about 2 = .ok (.invokevirtual 150, 3) := by decide +kernel
theorem dX12_about_5 : decode cX12_about 5 = .ok (.ifCond .ne 10, 3) := by decide +kernel
theorem dX12_about_8 : decode cX12_about 8 = .ok (.aload_n 0, 1) := by decide +kernel
theorem dX12_about_9 : decode cX12_about 9 = .ok (.bipush (-3), 2) := by decide +kernel
theorem dX12_about_11 : decode cX12_about 11 = .ok (.invokevirtual 142, 3) := by decide +kernel
theorem dX12_about_14 : decode cX12_about 14 = .ok (.ireturn, 1) := by decide +kernel
theorem dX12_about_15 : decode cX12_about 15 = .ok (.iload_n 2, 1) := by decide +kernel
theorem dX12_about_16 : decode cX12_about 16 = .ok (.tableswitch 76 0 2 #[28, 35, 69], 28) := by decide +kernel
theorem dX12_about_44 : decode cX12_about 44 = .ok (.aload_n 0, 1) := by decide +kernel
theorem dX12_about_45 : decode cX12_about 45 = .ok (.getfield 13, 3) := by decide +kernel
theorem dX12_about_48 : decode cX12_about 48 = .ok (.iload_n 1, 1) := by decide +kernel
theorem dX12_about_49 : decode cX12_about 49 = .ok (.iaload, 1) := by decide +kernel
theorem dX12_about_50 : decode cX12_about 50 = .ok (.ireturn, 1) := by decide +kernel
theorem dX12_about_51 : decode cX12_about 51 = .ok (.aload_n 0, 1) := by decide +kernel
theorem dX12_about_52 : decode cX12_about 52 = .ok (.getfield 13, 3) := by decide +kernel
theorem dX12_about_55 : decode cX12_about 55 = .ok (.iload_n 1, 1) := by decide +kernel
theorem dX12_about_56 : decode cX12_about 56 = .ok (.iaload, 1) := by decide +kernel
theorem dX12_about_57 : decode cX12_about 57 = .ok (.sipush 128, 3) := by decide +kernel
theorem dX12_about_60 : decode cX12_about 60 = .ok (.if_icmp .ge 7, 3) := by decide +kernel
theorem dX12_about_63 : decode cX12_about 63 = .ok (.iconst 0, 1) := by decide +kernel
theorem dX12_about_64 : decode cX12_about 64 = .ok (.goto 20, 3) := by decide +kernel
theorem dX12_about_67 : decode cX12_about 67 = .ok (.aload_n 0, 1) := by decide +kernel
theorem dX12_about_68 : decode cX12_about 68 = .ok (.getfield 13, 3) := by decide +kernel
theorem dX12_about_71 : decode cX12_about 71 = .ok (.iload_n 1, 1) := by decide +kernel
theorem dX12_about_72 : decode cX12_about 72 = .ok (.iaload, 1) := by decide +kernel
theorem dX12_about_73 : decode cX12_about 73 = .ok (.sipush 256, 3) := by decide +kernel
theorem dX12_about_76 : decode cX12_about 76 = .ok (.if_icmp .ge 7, 3) := by decide +kernel
theorem dX12_about_79 : decode cX12_about 79 = .ok (.iconst 1, 1) := by decide +kernel
theorem dX12_about_80 : decode cX12_about 80 = .ok (.goto 4, 3) := by decide +kernel
theorem dX12_about_83 : decode cX12_about 83 = .ok (.iconst 2, 1) := by decide +kernel
theorem dX12_about_84 : decode cX12_about 84 = .ok (.ireturn, 1) := by decide +kernel
theorem dX12_about_85 : decode cX12_about 85 = .ok (.aload_n 0, 1) := by decide +kernel
theorem dX12_about_86 : decode cX12_about 86 = .ok (.getfield 19, 3) := by decide +kernel
theorem dX12_about_89 : decode cX12_about 89 = .ok (.iload_n 1, 1) := by decide +kernel
theorem dX12_about_90 : decode cX12_about 90 = .ok (.iaload, 1) := by decide +kernel
theorem dX12_about_91 : decode cX12_about 91 = .ok (.ireturn, 1) := by decide +kernel
theorem dX12_about_92 : decode cX12_about 92 = .ok (.aload_n 0, 1) := by decide +kernel
theorem dX12_about_93 : decode cX12_about 93 = .ok (.bipush (-7), 2) := by decide +kernel
theorem dX12_about_95 : decode cX12_about 95 = .ok (.invokevirtual 142, 3) := by decide +kernel
theorem dX12_about_98 : decode cX12_about 98 = .ok (.ireturn, 1) := by decide +kernel
theorem dX12_writes_0 : decode cX12_writes 0 = .ok (.aload_n 0, 1) := by decide +kernel
theorem dX12_writes_1 : decode cX12_writes 1 = .ok (.getfield 75, 3) := by decide +kernel
theorem dX12_writes_4 : decode cX12_writes 4 = .ok (.aload_n 0, 1) := by decide +kernel
theorem dX12_writes_5 : decode cX12_writes 5 = .ok (.getfield 178, 3) := by decide +kernel
theorem dX12_writes_8 : decode cX12_writes 8 = .ok (.iload_n 1, 1) := by decide +kernel
theorem dX12_writes_9 : decode cX12_writes 9 = .ok (.iastore, 1) := by decide +kernel
theorem dX12_writes_10 : decode cX12_writes 10 = .ok (.aload_n 0, 1) := by decide +kernel
theorem dX12_writes_11 : decode cX12_writes 11 = .ok (.dup, 1) := by decide +kernel
theorem dX12_writes_12 : decode cX12_writes 12 = .ok (.getfield 178, 3) := by decide +kernel
theorem dX12_writes_15 : decode cX12_writes 15 = .ok (.iconst 1, 1) := by decide +kernel
theorem dX12_writes_16 : decode cX12_writes 16 = .ok (.iadd, 1) := by decide +kernel
theorem dX12_writes_17 : decode cX12_writes 17 = .ok (.putfield 178, 3) := by decide +kernel
theorem dX12_writes_20 : decode cX12_writes 20 = .ok (.aload_n 0, 1) := by decide +kernel
theorem dX12_writes_21 : decode cX12_writes 21 = .ok (.iload_n 1, 1) := by decide +kernel
theorem dX12_writes_22 : decode cX12_writes 22 = .ok (.aload_n 0, 1) := by decide +kernel
theorem dX12_writes_23 : decode cX12_writes 23 = .ok (.getfield 181, 3) := by decide +kernel
theorem dX12_writes_26 : decode cX12_writes 26 = .ok (.if_icmp .ne 12, 3) := by decide +kernel
theorem dX12_writes_29 : decode cX12_writes 29 = .ok (.aload_n 0, 1) := by decide +kernel
theorem dX12_writes_30 : decode cX12_writes 30 = .ok (.getfield 184, 3) := by decide +kernel
theorem dX12_writes_33 : decode cX12_writes 33 = .ok (.iconst 1, 1) := by decide +kernel
theorem dX12_writes_34 : decode cX12_writes 34 = .ok (.iadd, 1) := by decide +kernel
theorem dX12_writes_35 : decode cX12_writes 35 = .ok (.goto 4, 3) := by decide +kernel
theorem dX12_writes_38 : decode cX12_writes 38 = .ok (.iconst 1, 1) := by decide +kernel
theorem dX12_writes_39 : decode cX12_writes 39 = .ok (.putfield 184, 3) := by decide +kernel
theorem dX12_writes_42 : decode cX12_writes 42 = .ok (.aload_n 0, 1) := by decide +kernel
theorem dX12_writes_43 : decode cX12_writes 43 = .ok (.iload_n 1, 1) := by decide +kernel
theorem dX12_writes_44 : decode cX12_writes 44 = .ok (.putfield 181, 3) := by decide +kernel
theorem dX12_writes_47 : decode cX12_writes 47 = .ok (.aload_n 0, 1) := by decide +kernel
theorem dX12_writes_48 : decode cX12_writes 48 = .ok (.getfield 184, 3) := by decide +kernel
theorem dX12_writes_51 : decode cX12_writes 51 = .ok (.iconst 5, 1) := by decide +kernel
theorem dX12_writes_52 : decode cX12_writes 52 = .ok (.if_icmp .ge 4, 3) := by decide +kernel
theorem dX12_writes_55 : decode cX12_writes 55 = .ok (.return_, 1) := by decide +kernel
theorem dX12_writes_56 : decode cX12_writes 56 = .ok (.aload_n 0, 1) := by decide +kernel
theorem dX12_writes_57 : decode cX12_writes 57 = .ok (.getfield 75, 3) := by decide +kernel
theorem dX12_writes_60 : decode cX12_writes 60 = .ok (.aload_n 0, 1) := by decide +kernel
theorem dX12_writes_61 : decode cX12_writes 61 = .ok (.getfield 178, 3) := by decide +kernel
theorem dX12_writes_64 : decode cX12_writes 64 = .ok (.iconst 1, 1) := by decide +kernel
theorem dX12_writes_65 : decode cX12_writes 65 = .ok (.iload_n 1, 1) := by decide +kernel
theorem dX12_writes_66 : decode cX12_writes 66 = .ok (.isub, 1) := by decide +kernel
theorem dX12_writes_67 : decode cX12_writes 67 = .ok (.iastore, 1) := by decide +kernel
theorem dX12_writes_68 : decode cX12_writes 68 = .ok (.aload_n 0, 1) := by decide +kernel
theorem dX12_writes_69 : decode cX12_writes 69 = .ok (.dup, 1) := by decide +kernel
theorem dX12_writes_70 : decode cX12_writes 70 = .ok (.getfield 178, 3) := by decide +kernel
theorem dX12_writes_73 : decode cX12_writes 73 = .ok (.iconst 1, 1) := by decide +kernel
theorem dX12_writes_74 : decode cX12_writes 74 = .ok (.iadd, 1) := by decide +kernel
theorem dX12_writes_75 : decode cX12_writes 75 = .ok (.putfield 178, 3) := by decide +kernel
theorem dX12_writes_78 : decode cX12_writes 78 = .ok (.aload_n 0, 1) := by decide +kernel
theorem dX12_writes_79 : decode cX12_writes 79 = .ok (.dup, 1) := by decide +kernel
theorem dX12_writes_80 : decode cX12_writes 80 = .ok (.getfield 187, 3) := by decide +kernel
theorem dX12_writes_83 : decode cX12_writes 83 = .ok (.iconst 1, 1) := by decide +kernel
theorem dX12_writes_84 : decode cX12_writes 84 = .ok (.iadd, 1) := by decide +kernel
theorem dX12_writes_85 : decode cX12_writes 85 = .ok (.putfield 187, 3) := by decide +kernel
theorem dX12_writes_88 : decode cX12_writes 88 = .ok (.aload_n 0, 1) := by decide +kernel
theorem dX12_writes_89 : decode cX12_writes 89 = .ok (.iconst 1, 1) := by decide +kernel
theorem dX12_writes_90 : decode cX12_writes 90 = .ok (.putfield 184, 3) := by decide +kernel
theorem dX12_writes_93 : decode cX12_writes 93 = .ok (.aload_n 0, 1) := by decide +kernel
theorem dX12_writes_94 : decode cX12_writes 94 = .ok (.iconst 1, 1) := by decide +kernel
theorem dX12_writes_95 : decode cX12_writes 95 = .ok (.iload_n 1, 1) := by decide +kernel
theorem dX12_writes_96 : decode cX12_writes 96 = .ok (.isub, 1) := by decide +kernel
theorem dX12_writes_97 : decode cX12_writes 97 = .ok (.putfield 181, 3) := by decide +kernel
theorem dX12_writes_100 : decode cX12_writes 100 = .ok (.return_, 1) := by decide +kernel
theorem dX12_summed_0 : decode cX12_summed 0 = .ok (.iload_n 0, 1) := by decide +kernel
theorem dX12_summed_1 : decode cX12_summed 1 = .ok (.bipush 14, 2) := by decide +kernel
theorem dX12_summed_3 : decode cX12_summed 3 = .ok (.ishr, 1) := by decide +kernel
theorem dX12_summed_4 : decode cX12_summed 4 = .ok (.iconst 1, 1) := by decide +kernel
theorem dX12_summed_5 : decode cX12_summed 5 = .ok (.iand, 1) := by decide +kernel
theorem dX12_summed_6 : decode cX12_summed 6 = .ok (.iload_n 1, 1) := by decide +kernel
theorem dX12_summed_7 : decode cX12_summed 7 = .ok (.ixor, 1) := by decide +kernel
theorem dX12_summed_8 : decode cX12_summed 8 = .ok (.istore_n 2, 1) := by decide +kernel
theorem dX12_summed_9 : decode cX12_summed 9 = .ok (.iload_n 0, 1) := by decide +kernel
theorem dX12_summed_10 : decode cX12_summed 10 = .ok (.iconst 1, 1) := by decide +kernel
theorem dX12_summed_11 : decode cX12_summed 11 = .ok (.ishl, 1) := by decide +kernel
theorem dX12_summed_12 : decode cX12_summed 12 = .ok (.sipush 32767, 3) := by decide +kernel
theorem dX12_summed_15 : decode cX12_summed 15 = .ok (.iand, 1) := by decide +kernel
theorem dX12_summed_16 : decode cX12_summed 16 = .ok (.istore_n 3, 1) := by decide +kernel
theorem dX12_summed_17 : decode cX12_summed 17 = .ok (.iload_n 2, 1) := by decide +kernel
theorem dX12_summed_18 : decode cX12_summed 18 = .ok (.iconst 1, 1) := by decide +kernel
theorem dX12_summed_19 : decode cX12_summed 19 = .ok (.if_icmp .ne 11, 3) := by decide +kernel
theorem dX12_summed_22 : decode cX12_summed 22 = .ok (.iload_n 3, 1) := by decide +kernel
theorem dX12_summed_23 : decode cX12_summed 23 = .ok (.sipush 17817, 3) := by decide +kernel
theorem dX12_summed_26 : decode cX12_summed 26 = .ok (.ixor, 1) := by decide +kernel
theorem dX12_summed_27 : decode cX12_summed 27 = .ok (.goto 4, 3) := by decide +kernel
theorem dX12_summed_30 : decode cX12_summed 30 = .ok (.iload_n 3, 1) := by decide +kernel
theorem dX12_summed_31 : decode cX12_summed 31 = .ok (.ireturn, 1) := by decide +kernel
theorem dX12_plain_0 : decode cX12_plain 0 = .ok (.iload_n 3, 1) := by decide +kernel
theorem dX12_plain_1 : decode cX12_plain 1 = .ok (.iconst 1, 1) := by decide +kernel
theorem dX12_plain_2 : decode cX12_plain 2 = .ok (.isub, 1) := by decide +kernel
theorem dX12_plain_3 : decode cX12_plain 3 = .ok (.istore 4, 2) := by decide +kernel
theorem dX12_plain_5 : decode cX12_plain 5 = .ok (.iload 4, 2) := by decide +kernel
theorem dX12_plain_7 : decode cX12_plain 7 = .ok (.ifCond .lt 37, 3) := by decide +kernel
theorem dX12_plain_10 : decode cX12_plain 10 = .ok (.lload_n 1, 1) := by decide +kernel
theorem dX12_plain_11 : decode cX12_plain 11 = .ok (.iload 4, 2) := by decide +kernel
theorem dX12_plain_13 : decode cX12_plain 13 = .ok (.lshr, 1) := by decide +kernel
theorem dX12_plain_14 : decode cX12_plain 14 = .ok (.lconst 1, 1) := by decide +kernel
theorem dX12_plain_15 : decode cX12_plain 15 = .ok (.land, 1) := by decide +kernel
theorem dX12_plain_16 : decode cX12_plain 16 = .ok (.l2i, 1) := by decide +kernel
theorem dX12_plain_17 : decode cX12_plain 17 = .ok (.istore 5, 2) := by decide +kernel
theorem dX12_plain_19 : decode cX12_plain 19 = .ok (.aload_n 0, 1) := by decide +kernel
theorem dX12_plain_20 : decode cX12_plain 20 = .ok (.aload_n 0, 1) := by decide +kernel
theorem dX12_plain_21 : decode cX12_plain 21 = .ok (.getfield 190, 3) := by decide +kernel
theorem dX12_plain_24 : decode cX12_plain 24 = .ok (.iload 5, 2) := by decide +kernel
theorem dX12_plain_26 : decode cX12_plain 26 = .ok (.invokestatic 193, 3) := by decide +kernel
theorem dX12_plain_29 : decode cX12_plain 29 = .ok (.putfield 190, 3) := by decide +kernel
theorem dX12_plain_32 : decode cX12_plain 32 = .ok (.aload_n 0, 1) := by decide +kernel
theorem dX12_plain_33 : decode cX12_plain 33 = .ok (.iload 5, 2) := by decide +kernel
theorem dX12_plain_35 : decode cX12_plain 35 = .ok (.invokevirtual 197, 3) := by decide +kernel
theorem dX12_plain_38 : decode cX12_plain 38 = .ok (.iinc 4 (-1), 3) := by decide +kernel
theorem dX12_plain_41 : decode cX12_plain 41 = .ok (.goto (-36), 3) := by decide +kernel
theorem dX12_plain_44 : decode cX12_plain 44 = .ok (.return_, 1) := by decide +kernel
theorem dX12_build_0 : decode cX12_build 0 = .ok (.aload_n 0, 1) := by decide +kernel
theorem dX12_build_1 : decode cX12_build 1 = .ok (.iconst 0, 1) := by decide +kernel
theorem dX12_build_2 : decode cX12_build 2 = .ok (.putfield 178, 3) := by decide +kernel
theorem dX12_build_5 : decode cX12_build 5 = .ok (.aload_n 0, 1) := by decide +kernel
theorem dX12_build_6 : decode cX12_build 6 = .ok (.iconst 0, 1) := by decide +kernel
theorem dX12_build_7 : decode cX12_build 7 = .ok (.putfield 190, 3) := by decide +kernel
theorem dX12_build_10 : decode cX12_build 10 = .ok (.aload_n 0, 1) := by decide +kernel
theorem dX12_build_11 : decode cX12_build 11 = .ok (.iconst 0, 1) := by decide +kernel
theorem dX12_build_12 : decode cX12_build 12 = .ok (.putfield 187, 3) := by decide +kernel
theorem dX12_build_15 : decode cX12_build 15 = .ok (.aload_n 0, 1) := by decide +kernel
theorem dX12_build_16 : decode cX12_build 16 = .ok (.iconst 0, 1) := by decide +kernel
theorem dX12_build_17 : decode cX12_build 17 = .ok (.putfield 184, 3) := by decide +kernel
theorem dX12_build_20 : decode cX12_build 20 = .ok (.aload_n 0, 1) := by decide +kernel
theorem dX12_build_21 : decode cX12_build 21 = .ok (.iconst (-1), 1) := by decide +kernel
theorem dX12_build_22 : decode cX12_build 22 = .ok (.putfield 181, 3) := by decide +kernel
theorem dX12_build_25 : decode cX12_build 25 = .ok (.aload_n 0, 1) := by decide +kernel
theorem dX12_build_26 : decode cX12_build 26 = .ok (.lconst 0, 1) := by decide +kernel
theorem dX12_build_27 : decode cX12_build 27 = .ok (.iconst 1, 1) := by decide +kernel
theorem dX12_build_28 : decode cX12_build 28 = .ok (.invokevirtual 201, 3) := by decide +kernel
theorem dX12_build_31 : decode cX12_build 31 = .ok (.aload_n 0, 1) := by decide +kernel
theorem dX12_build_32 : decode cX12_build 32 = .ok (.getfield 25, 3) := by decide +kernel
theorem dX12_build_35 : decode cX12_build 35 = .ok (.iload_n 1, 1) := by decide +kernel
theorem dX12_build_36 : decode cX12_build 36 = .ok (.iaload, 1) := by decide +kernel
theorem dX12_build_37 : decode cX12_build 37 = .ok (.sipush 2048, 3) := by decide +kernel
theorem dX12_build_40 : decode cX12_build 40 = .ok (.if_icmp .ge 25, 3) := by decide +kernel
theorem dX12_build_43 : decode cX12_build 43 = .ok (.aload_n 0, 1) := by decide +kernel
theorem dX12_build_44 : decode cX12_build 44 = .ok (.aload_n 0, 1) := by decide +kernel
theorem dX12_build_45 : decode cX12_build 45 = .ok (.getfield 25, 3) := by decide +kernel
theorem dX12_build_48 : decode cX12_build 48 = .ok (.iload_n 1, 1) := by decide +kernel
theorem dX12_build_49 : decode cX12_build 49 = .ok (.iaload, 1) := by decide +kernel
theorem dX12_build_50 : decode cX12_build 50 = .ok (.i2l, 1) := by decide +kernel
theorem dX12_build_51 : decode cX12_build 51 = .ok (.bipush 11, 2) := by decide +kernel
theorem dX12_build_53 : decode cX12_build 53 = .ok (.invokevirtual 201, 3) := by decide +kernel
theorem dX12_build_56 : decode cX12_build 56 = .ok (.aload_n 0, 1) := by decide +kernel
theorem dX12_build_57 : decode cX12_build 57 = .ok (.lconst 0, 1) := by decide +kernel
theorem dX12_build_58 : decode cX12_build 58 = .ok (.iconst 1, 1) := by decide +kernel
theorem dX12_build_59 : decode cX12_build 59 = .ok (.invokevirtual 201, 3) := by decide +kernel
theorem dX12_build_62 : decode cX12_build 62 = .ok (.goto 42, 3) := by decide +kernel
theorem dX12_build_65 : decode cX12_build 65 = .ok (.aload_n 0, 1) := by decide +kernel
theorem dX12_build_66 : decode cX12_build 66 = .ok (.getfield 25, 3) := by decide +kernel
theorem dX12_build_69 : decode cX12_build 69 = .ok (.iload_n 1, 1) := by decide +kernel
theorem dX12_build_70 : decode cX12_build 70 = .ok (.iaload, 1) := by decide +kernel
theorem dX12_build_71 : decode cX12_build 71 = .ok (.sipush 2048, 3) := by decide +kernel
theorem dX12_build_74 : decode cX12_build 74 = .ok (.isub, 1) := by decide +kernel
theorem dX12_build_75 : decode cX12_build 75 = .ok (.istore_n 2, 1) := by decide +kernel
theorem dX12_build_76 : decode cX12_build 76 = .ok (.aload_n 0, 1) := by decide +kernel
theorem dX12_build_77 : decode cX12_build 77 = .ok (.iload_n 2, 1) := by decide +kernel
theorem dX12_build_78 : decode cX12_build 78 = .ok (.bipush 18, 2) := by decide +kernel
theorem dX12_build_80 : decode cX12_build 80 = .ok (.ishr, 1) := by decide +kernel
theorem dX12_build_81 : decode cX12_build 81 = .ok (.i2l, 1) := by decide +kernel
theorem dX12_build_82 : decode cX12_build 82 = .ok (.bipush 11, 2) := by decide +kernel
theorem dX12_build_84 : decode cX12_build 84 = .ok (.invokevirtual 201, 3) := by decide +kernel
theorem dX12_build_87 : decode cX12_build 87 = .ok (.aload_n 0, 1) := by decide +kernel
theorem dX12_build_88 : decode cX12_build 88 = .ok (.lconst 1, 1) := by decide +kernel
theorem dX12_build_89 : decode cX12_build 89 = .ok (.iconst 1, 1) := by decide +kernel
theorem dX12_build_90 : decode cX12_build 90 = .ok (.invokevirtual 201, 3) := by decide +kernel
theorem dX12_build_93 : decode cX12_build 93 = .ok (.aload_n 0, 1) := by decide +kernel
theorem dX12_build_94 : decode cX12_build 94 = .ok (.iload_n 2, 1) := by decide +kernel
theorem dX12_build_95 : decode cX12_build 95 = .ok (.ldc 205, 2) := by decide +kernel
theorem dX12_build_97 : decode cX12_build 97 = .ok (.iand, 1) := by decide +kernel
theorem dX12_build_98 : decode cX12_build 98 = .ok (.i2l, 1) := by decide +kernel
theorem dX12_build_99 : decode cX12_build 99 = .ok (.bipush 18, 2) := by decide +kernel
theorem dX12_build_101 : decode cX12_build 101 = .ok (.invokevirtual 201, 3) := by decide +kernel
theorem dX12_build_104 : decode cX12_build 104 = .ok (.aload_n 0, 1) := by decide +kernel
theorem dX12_build_105 : decode cX12_build 105 = .ok (.aload_n 0, 1) := by decide +kernel
theorem dX12_build_106 : decode cX12_build 106 = .ok (.getfield 31, 3) := by decide +kernel
theorem dX12_build_109 : decode cX12_build 109 = .ok (.iload_n 1, 1) := by decide +kernel
theorem dX12_build_110 : decode cX12_build 110 = .ok (.iaload, 1) := by decide +kernel
theorem dX12_build_111 : decode cX12_build 111 = .ok (.i2l, 1) := by decide +kernel
theorem dX12_build_112 : decode cX12_build 112 = .ok (.iconst 4, 1) := by decide +kernel
theorem dX12_build_113 : decode cX12_build 113 = .ok (.invokevirtual 201, 3) := by decide +kernel
theorem dX12_build_116 : decode cX12_build 116 = .ok (.aload_n 0, 1) := by decide +kernel
theorem dX12_build_117 : decode cX12_build 117 = .ok (.getfield 31, 3) := by decide +kernel
theorem dX12_build_120 : decode cX12_build 120 = .ok (.iload_n 1, 1) := by decide +kernel
theorem dX12_build_121 : decode cX12_build 121 = .ok (.iaload, 1) := by decide +kernel
theorem dX12_build_122 : decode cX12_build 122 = .ok (.iconst 1, 1) := by decide +kernel
theorem dX12_build_123 : decode cX12_build 123 = .ok (.isub, 1) := by decide +kernel
theorem dX12_build_124 : decode cX12_build 124 = .ok (.istore_n 2, 1) := by decide +kernel
theorem dX12_build_125 : decode cX12_build 125 = .ok (.iload_n 2, 1) := by decide +kernel
theorem dX12_build_126 : decode cX12_build 126 = .ok (.ifCond .lt 30, 3) := by decide +kernel
theorem dX12_build_129 : decode cX12_build 129 = .ok (.aload_n 0, 1) := by decide +kernel
theorem dX12_build_130 : decode cX12_build 130 = .ok (.aload_n 0, 1) := by decide +kernel
theorem dX12_build_131 : decode cX12_build 131 = .ok (.getfield 46, 3) := by decide +kernel
theorem dX12_build_134 : decode cX12_build 134 = .ok (.iload_n 1, 1) := by decide +kernel
theorem dX12_build_135 : decode cX12_build 135 = .ok (.laload, 1) := by decide +kernel
theorem dX12_build_136 : decode cX12_build 136 = .ok (.bipush 8, 2) := by decide +kernel
theorem dX12_build_138 : decode cX12_build 138 = .ok (.iload_n 2, 1) := by decide +kernel
theorem dX12_build_139 : decode cX12_build 139 = .ok (.imul, 1) := by decide +kernel
theorem dX12_build_140 : decode cX12_build 140 = .ok (.lshr, 1) := by decide +kernel
theorem dX12_build_141 : decode cX12_build 141 = .ok (.ldc2_w 206, 3) := by decide +kernel
theorem dX12_build_144 : decode cX12_build 144 = .ok (.land, 1) := by decide +kernel
theorem dX12_build_145 : decode cX12_build 145 = .ok (.bipush 8, 2) := by decide +kernel
theorem dX12_build_147 : decode cX12_build 147 = .ok (.invokevirtual 201, 3) := by decide +kernel
theorem dX12_build_150 : decode cX12_build 150 = .ok (.iinc 2 (-1), 3) := by decide +kernel
theorem dX12_build_153 : decode cX12_build 153 = .ok (.goto (-28), 3) := by decide +kernel
theorem dX12_build_156 : decode cX12_build 156 = .ok (.aload_n 0, 1) := by decide +kernel
theorem dX12_build_157 : decode cX12_build 157 = .ok (.getfield 190, 3) := by decide +kernel
theorem dX12_build_160 : decode cX12_build 160 = .ok (.istore_n 2, 1) := by decide +kernel
theorem dX12_build_161 : decode cX12_build 161 = .ok (.bipush 14, 2) := by decide +kernel
theorem dX12_build_163 : decode cX12_build 163 = .ok (.istore_n 3, 1) := by decide +kernel
theorem dX12_build_164 : decode cX12_build 164 = .ok (.iload_n 3, 1) := by decide +kernel
theorem dX12_build_165 : decode cX12_build 165 = .ok (.ifCond .lt 18, 3) := by decide +kernel
theorem dX12_build_168 : decode cX12_build 168 = .ok (.aload_n 0, 1) := by decide +kernel
theorem dX12_build_169 : decode cX12_build 169 = .ok (.iload_n 2, 1) := by decide +kernel
theorem dX12_build_170 : decode cX12_build 170 = .ok (.iload_n 3, 1) := by decide +kernel
theorem dX12_build_171 : decode cX12_build 171 = .ok (.ishr, 1) := by decide +kernel
theorem dX12_build_172 : decode cX12_build 172 = .ok (.iconst 1, 1) := by decide +kernel
theorem dX12_build_173 : decode cX12_build 173 = .ok (.iand, 1) := by decide +kernel
theorem dX12_build_174 : decode cX12_build 174 = .ok (.invokevirtual 197, 3) := by decide +kernel
theorem dX12_build_177 : decode cX12_build 177 = .ok (.iinc 3 (-1), 3) := by decide +kernel
theorem dX12_build_180 : decode cX12_build 180 = .ok (.goto (-16), 3) := by decide +kernel
theorem dX12_build_183 : decode cX12_build 183 = .ok (.aload_n 0, 1) := by decide +kernel
theorem dX12_build_184 : decode cX12_build 184 = .ok (.iload_n 2, 1) := by decide +kernel
theorem dX12_build_185 : decode cX12_build 185 = .ok (.putfield 190, 3) := by decide +kernel
theorem dX12_build_188 : decode cX12_build 188 = .ok (.iconst 0, 1) := by decide +kernel
theorem dX12_build_189 : decode cX12_build 189 = .ok (.istore_n 3, 1) := by decide +kernel
theorem dX12_build_190 : decode cX12_build 190 = .ok (.iload_n 3, 1) := by decide +kernel
theorem dX12_build_191 : decode cX12_build 191 = .ok (.bipush 10, 2) := by decide +kernel
theorem dX12_build_193 : decode cX12_build 193 = .ok (.if_icmp .ge 38, 3) := by decide +kernel
theorem dX12_build_196 : decode cX12_build 196 = .ok (.aload_n 0, 1) := by decide +kernel
theorem dX12_build_197 : decode cX12_build 197 = .ok (.getfield 75, 3) := by decide +kernel
theorem dX12_build_200 : decode cX12_build 200 = .ok (.aload_n 0, 1) := by decide +kernel
theorem dX12_build_201 : decode cX12_build 201 = .ok (.getfield 178, 3) := by decide +kernel
theorem dX12_build_204 : decode cX12_build 204 = .ok (.iload_n 3, 1) := by decide +kernel
theorem dX12_build_205 : decode cX12_build 205 = .ok (.iconst 1, 1) := by decide +kernel
theorem dX12_build_206 : decode cX12_build 206 = .ok (.if_icmp .ne 7, 3) := by decide +kernel
theorem dX12_build_209 : decode cX12_build 209 = .ok (.iconst 0, 1) := by decide +kernel
theorem dX12_build_210 : decode cX12_build 210 = .ok (.goto 4, 3) := by decide +kernel
theorem dX12_build_213 : decode cX12_build 213 = .ok (.iconst 1, 1) := by decide +kernel
theorem dX12_build_214 : decode cX12_build 214 = .ok (.iastore, 1) := by decide +kernel
theorem dX12_build_215 : decode cX12_build 215 = .ok (.aload_n 0, 1) := by decide +kernel
theorem dX12_build_216 : decode cX12_build 216 = .ok (.dup, 1) := by decide +kernel
theorem dX12_build_217 : decode cX12_build 217 = .ok (.getfield 178, 3) := by decide +kernel
theorem dX12_build_220 : decode cX12_build 220 = .ok (.iconst 1, 1) := by decide +kernel
theorem dX12_build_221 : decode cX12_build 221 = .ok (.iadd, 1) := by decide +kernel
theorem dX12_build_222 : decode cX12_build 222 = .ok (.putfield 178, 3) := by decide +kernel
theorem dX12_build_225 : decode cX12_build 225 = .ok (.iinc 3 1, 3) := by decide +kernel
theorem dX12_build_228 : decode cX12_build 228 = .ok (.goto (-38), 3) := by decide +kernel
theorem dX12_build_231 : decode cX12_build 231 = .ok (.return_, 1) := by decide +kernel
theorem dX12_size_0 : decode cX12_size 0 = .ok (.aload_n 0, 1) := by decide +kernel
theorem dX12_size_1 : decode cX12_size 1 = .ok (.iload_n 1, 1) := by decide +kernel
theorem dX12_size_2 : decode cX12_size 2 = .ok (.invokevirtual 154, 3) := by decide +kernel
theorem dX12_size_5 : decode cX12_size 5 = .ok (.ifCond .ne 10, 3) := by decide +kernel
theorem dX12_size_8 : decode cX12_size 8 = .ok (.aload_n 0, 1) := by decide +kernel
theorem dX12_size_9 : decode cX12_size 9 = .ok (.bipush (-3), 2) := by decide +kernel
theorem dX12_size_11 : decode cX12_size 11 = .ok (.invokevirtual 142, 3) := by decide +kernel
theorem dX12_size_14 : decode cX12_size 14 = .ok (.ireturn, 1) := by decide +kernel
theorem dX12_size_15 : decode cX12_size 15 = .ok (.aload_n 0, 1) := by decide +kernel
theorem dX12_size_16 : decode cX12_size 16 = .ok (.iload_n 1, 1) := by decide +kernel
theorem dX12_size_17 : decode cX12_size 17 = .ok (.invokevirtual 208, 3) := by decide +kernel
theorem dX12_size_20 : decode cX12_size 20 = .ok (.aload_n 0, 1) := by decide +kernel
theorem dX12_size_21 : decode cX12_size 21 = .ok (.getfield 178, 3) := by decide +kernel
theorem dX12_size_24 : decode cX12_size 24 = .ok (.ireturn, 1) := by decide +kernel
theorem dX12_bit_0 : decode cX12_bit 0 = .ok (.aload_n 0, 1) := by decide +kernel
theorem dX12_bit_1 : decode cX12_bit 1 = .ok (.iload_n 1, 1) := by decide +kernel
theorem dX12_bit_2 : decode cX12_bit 2 = .ok (.invokevirtual 154, 3) := by decide +kernel
theorem dX12_bit_5 : decode cX12_bit 5 = .ok (.ifCond .ne 10, 3) := by decide +kernel
theorem dX12_bit_8 : decode cX12_bit 8 = .ok (.aload_n 0, 1) := by decide +kernel
theorem dX12_bit_9 : decode cX12_bit 9 = .ok (.bipush (-3), 2) := by decide +kernel
theorem dX12_bit_11 : decode cX12_bit 11 = .ok (.invokevirtual 142, 3) := by decide +kernel
theorem dX12_bit_14 : decode cX12_bit 14 = .ok (.ireturn, 1) := by decide +kernel
theorem dX12_bit_15 : decode cX12_bit 15 = .ok (.iload_n 2, 1) := by decide +kernel
theorem dX12_bit_16 : decode cX12_bit 16 = .ok (.ifCond .ge 10, 3) := by decide +kernel
theorem dX12_bit_19 : decode cX12_bit 19 = .ok (.aload_n 0, 1) := by decide +kernel
theorem dX12_bit_20 : decode cX12_bit 20 = .ok (.bipush (-4), 2) := by decide +kernel
theorem dX12_bit_22 : decode cX12_bit 22 = .ok (.invokevirtual 142, 3) := by decide +kernel
theorem dX12_bit_25 : decode cX12_bit 25 = .ok (.ireturn, 1) := by decide +kernel
theorem dX12_bit_26 : decode cX12_bit 26 = .ok (.aload_n 0, 1) := by decide +kernel
theorem dX12_bit_27 : decode cX12_bit 27 = .ok (.iload_n 1, 1) := by decide +kernel
theorem dX12_bit_28 : decode cX12_bit 28 = .ok (.invokevirtual 208, 3) := by decide +kernel
theorem dX12_bit_31 : decode cX12_bit 31 = .ok (.iload_n 2, 1) := by decide +kernel
theorem dX12_bit_32 : decode cX12_bit 32 = .ok (.aload_n 0, 1) := by decide +kernel
theorem dX12_bit_33 : decode cX12_bit 33 = .ok (.getfield 178, 3) := by decide +kernel
theorem dX12_bit_36 : decode cX12_bit 36 = .ok (.if_icmp .ge 12, 3) := by decide +kernel
theorem dX12_bit_39 : decode cX12_bit 39 = .ok (.aload_n 0, 1) := by decide +kernel
theorem dX12_bit_40 : decode cX12_bit 40 = .ok (.getfield 75, 3) := by decide +kernel
theorem dX12_bit_43 : decode cX12_bit 43 = .ok (.iload_n 2, 1) := by decide +kernel
theorem dX12_bit_44 : decode cX12_bit 44 = .ok (.iaload, 1) := by decide +kernel
theorem dX12_bit_45 : decode cX12_bit 45 = .ok (.goto 4, 3) := by decide +kernel
theorem dX12_bit_48 : decode cX12_bit 48 = .ok (.iconst (-1), 1) := by decide +kernel
theorem dX12_bit_49 : decode cX12_bit 49 = .ok (.ireturn, 1) := by decide +kernel
theorem dX12_sum_0 : decode cX12_sum 0 = .ok (.aload_n 0, 1) := by decide +kernel
theorem dX12_sum_1 : decode cX12_sum 1 = .ok (.iload_n 1, 1) := by decide +kernel
theorem dX12_sum_2 : decode cX12_sum 2 = .ok (.invokevirtual 154, 3) := by decide +kernel
theorem dX12_sum_5 : decode cX12_sum 5 = .ok (.ifCond .ne 10, 3) := by decide +kernel
theorem dX12_sum_8 : decode cX12_sum 8 = .ok (.aload_n 0, 1) := by decide +kernel
theorem dX12_sum_9 : decode cX12_sum 9 = .ok (.bipush (-3), 2) := by decide +kernel
theorem dX12_sum_11 : decode cX12_sum 11 = .ok (.invokevirtual 142, 3) := by decide +kernel
theorem dX12_sum_14 : decode cX12_sum 14 = .ok (.ireturn, 1) := by decide +kernel
theorem dX12_sum_15 : decode cX12_sum 15 = .ok (.aload_n 0, 1) := by decide +kernel
theorem dX12_sum_16 : decode cX12_sum 16 = .ok (.iload_n 1, 1) := by decide +kernel
theorem dX12_sum_17 : decode cX12_sum 17 = .ok (.invokevirtual 208, 3) := by decide +kernel
theorem dX12_sum_20 : decode cX12_sum 20 = .ok (.aload_n 0, 1) := by decide +kernel
theorem dX12_sum_21 : decode cX12_sum 21 = .ok (.getfield 190, 3) := by decide +kernel
theorem dX12_sum_24 : decode cX12_sum 24 = .ok (.ireturn, 1) := by decide +kernel
theorem dX12_stuffed_0 : decode cX12_stuffed 0 = .ok (.aload_n 0, 1) := by decide +kernel
theorem dX12_stuffed_1 : decode cX12_stuffed 1 = .ok (.iload_n 1, 1) := by decide +kernel
theorem dX12_stuffed_2 : decode cX12_stuffed 2 = .ok (.invokevirtual 154, 3) := by decide +kernel
theorem dX12_stuffed_5 : decode cX12_stuffed 5 = .ok (.ifCond .ne 10, 3) := by decide +kernel
theorem dX12_stuffed_8 : decode cX12_stuffed 8 = .ok (.aload_n 0, 1) := by decide +kernel
theorem dX12_stuffed_9 : decode cX12_stuffed 9 = .ok (.bipush (-3), 2) := by decide +kernel
theorem dX12_stuffed_11 : decode cX12_stuffed 11 = .ok (.invokevirtual 142, 3) := by decide +kernel
theorem dX12_stuffed_14 : decode cX12_stuffed 14 = .ok (.ireturn, 1) := by decide +kernel
theorem dX12_stuffed_15 : decode cX12_stuffed 15 = .ok (.aload_n 0, 1) := by decide +kernel
theorem dX12_stuffed_16 : decode cX12_stuffed 16 = .ok (.iload_n 1, 1) := by decide +kernel
theorem dX12_stuffed_17 : decode cX12_stuffed 17 = .ok (.invokevirtual 208, 3) := by decide +kernel
theorem dX12_stuffed_20 : decode cX12_stuffed 20 = .ok (.aload_n 0, 1) := by decide +kernel
theorem dX12_stuffed_21 : decode cX12_stuffed 21 = .ok (.getfield 187, 3) := by decide +kernel
theorem dX12_stuffed_24 : decode cX12_stuffed 24 = .ok (.ireturn, 1) := by decide +kernel
theorem dX12_key_0 : decode cX12_key 0 = .ok (.iload_n 0, 1) := by decide +kernel
theorem dX12_key_1 : decode cX12_key 1 = .ok (.sipush 2048, 3) := by decide +kernel
theorem dX12_key_4 : decode cX12_key 4 = .ok (.if_icmp .ge 8, 3) := by decide +kernel
theorem dX12_key_7 : decode cX12_key 7 = .ok (.iload_n 0, 1) := by decide +kernel
theorem dX12_key_8 : decode cX12_key 8 = .ok (.bipush 19, 2) := by decide +kernel
theorem dX12_key_10 : decode cX12_key 10 = .ok (.ishl, 1) := by decide +kernel
theorem dX12_key_11 : decode cX12_key 11 = .ok (.ireturn, 1) := by decide +kernel
theorem dX12_key_12 : decode cX12_key 12 = .ok (.iload_n 0, 1) := by decide +kernel
theorem dX12_key_13 : decode cX12_key 13 = .ok (.sipush 2048, 3) := by decide +kernel
theorem dX12_key_16 : decode cX12_key 16 = .ok (.isub, 1) := by decide +kernel
theorem dX12_key_17 : decode cX12_key 17 = .ok (.istore_n 1, 1) := by decide +kernel
theorem dX12_key_18 : decode cX12_key 18 = .ok (.iload_n 1, 1) := by decide +kernel
theorem dX12_key_19 : decode cX12_key 19 = .ok (.bipush 18, 2) := by decide +kernel
theorem dX12_key_21 : decode cX12_key 21 = .ok (.ishr, 1) := by decide +kernel
theorem dX12_key_22 : decode cX12_key 22 = .ok (.bipush 19, 2) := by decide +kernel
theorem dX12_key_24 : decode cX12_key 24 = .ok (.ishl, 1) := by decide +kernel
theorem dX12_key_25 : decode cX12_key 25 = .ok (.ldc 211, 2) := by decide +kernel
theorem dX12_key_27 : decode cX12_key 27 = .ok (.ior, 1) := by decide +kernel
theorem dX12_key_28 : decode cX12_key 28 = .ok (.iload_n 1, 1) := by decide +kernel
theorem dX12_key_29 : decode cX12_key 29 = .ok (.ldc 205, 2) := by decide +kernel
theorem dX12_key_31 : decode cX12_key 31 = .ok (.iand, 1) := by decide +kernel
theorem dX12_key_32 : decode cX12_key 32 = .ok (.ior, 1) := by decide +kernel
theorem dX12_key_33 : decode cX12_key 33 = .ok (.ireturn, 1) := by decide +kernel
theorem dX12_isAhead_0 : decode cX12_isAhead 0 = .ok (.aload_n 0, 1) := by decide +kernel
theorem dX12_isAhead_1 : decode cX12_isAhead 1 = .ok (.getfield 25, 3) := by decide +kernel
theorem dX12_isAhead_4 : decode cX12_isAhead 4 = .ok (.iload_n 1, 1) := by decide +kernel
theorem dX12_isAhead_5 : decode cX12_isAhead 5 = .ok (.iaload, 1) := by decide +kernel
theorem dX12_isAhead_6 : decode cX12_isAhead 6 = .ok (.invokestatic 212, 3) := by decide +kernel
theorem dX12_isAhead_9 : decode cX12_isAhead 9 = .ok (.aload_n 0, 1) := by decide +kernel
theorem dX12_isAhead_10 : decode cX12_isAhead 10 = .ok (.getfield 25, 3) := by decide +kernel
theorem dX12_isAhead_13 : decode cX12_isAhead 13 = .ok (.iload_n 2, 1) := by decide +kernel
theorem dX12_isAhead_14 : decode cX12_isAhead 14 = .ok (.iaload, 1) := by decide +kernel
theorem dX12_isAhead_15 : decode cX12_isAhead 15 = .ok (.invokestatic 212, 3) := by decide +kernel
theorem dX12_isAhead_18 : decode cX12_isAhead 18 = .ok (.if_icmp .ge 7, 3) := by decide +kernel
theorem dX12_isAhead_21 : decode cX12_isAhead 21 = .ok (.iconst 1, 1) := by decide +kernel
theorem dX12_isAhead_22 : decode cX12_isAhead 22 = .ok (.goto 4, 3) := by decide +kernel
theorem dX12_isAhead_25 : decode cX12_isAhead 25 = .ok (.iconst 0, 1) := by decide +kernel
theorem dX12_isAhead_26 : decode cX12_isAhead 26 = .ok (.ireturn, 1) := by decide +kernel
theorem dX12_ahead_0 : decode cX12_ahead 0 = .ok (.aload_n 0, 1) := by decide +kernel
theorem dX12_ahead_1 : decode cX12_ahead 1 = .ok (.iload_n 1, 1) := by decide +kernel
theorem dX12_ahead_2 : decode cX12_ahead 2 = .ok (.invokevirtual 154, 3) := by decide +kernel
theorem dX12_ahead_5 : decode cX12_ahead 5 = .ok (.ifCond .eq 11, 3) := by decide +kernel
theorem dX12_ahead_8 : decode cX12_ahead 8 = .ok (.aload_n 0, 1) := by decide +kernel
theorem dX12_ahead_9 : decode cX12_ahead 9 = .ok (.iload_n 2, 1) := by decide +kernel
theorem dX12_ahead_10 : decode cX12_ahead 10 = .ok (.invokevirtual 154, 3) := by decide +kernel
theorem dX12_ahead_13 : decode cX12_ahead 13 = .ok (.ifCond .ne 10, 3) := by decide +kernel
theorem dX12_ahead_16 : decode cX12_ahead 16 = .ok (.aload_n 0, 1) := by decide +kernel
theorem dX12_ahead_17 : decode cX12_ahead 17 = .ok (.bipush (-3), 2) := by decide +kernel
theorem dX12_ahead_19 : decode cX12_ahead 19 = .ok (.invokevirtual 142, 3) := by decide +kernel
theorem dX12_ahead_22 : decode cX12_ahead 22 = .ok (.ireturn, 1) := by decide +kernel
theorem dX12_ahead_23 : decode cX12_ahead 23 = .ok (.aload_n 0, 1) := by decide +kernel
theorem dX12_ahead_24 : decode cX12_ahead 24 = .ok (.iload_n 2, 1) := by decide +kernel
theorem dX12_ahead_25 : decode cX12_ahead 25 = .ok (.iload_n 1, 1) := by decide +kernel
theorem dX12_ahead_26 : decode cX12_ahead 26 = .ok (.invokevirtual 215, 3) := by decide +kernel
theorem dX12_ahead_29 : decode cX12_ahead 29 = .ok (.ifCond .eq 7, 3) := by decide +kernel
theorem dX12_ahead_32 : decode cX12_ahead 32 = .ok (.iload_n 2, 1) := by decide +kernel
theorem dX12_ahead_33 : decode cX12_ahead 33 = .ok (.goto 4, 3) := by decide +kernel
theorem dX12_ahead_36 : decode cX12_ahead 36 = .ok (.iload_n 1, 1) := by decide +kernel
theorem dX12_ahead_37 : decode cX12_ahead 37 = .ok (.ireturn, 1) := by decide +kernel
theorem dX12_feed_0 : decode cX12_feed 0 = .ok (.iload_n 2, 1) := by decide +kernel
theorem dX12_feed_1 : decode cX12_feed 1 = .ok (.ifCond .ge 10, 3) := by decide +kernel
theorem dX12_feed_4 : decode cX12_feed 4 = .ok (.aload_n 0, 1) := by decide +kernel
theorem dX12_feed_5 : decode cX12_feed 5 = .ok (.bipush (-4), 2) := by decide +kernel
theorem dX12_feed_7 : decode cX12_feed 7 = .ok (.invokevirtual 142, 3) := by decide +kernel
theorem dX12_feed_10 : decode cX12_feed 10 = .ok (.ireturn, 1) := by decide +kernel
theorem dX12_feed_11 : decode cX12_feed 11 = .ok (.iload_n 2, 1) := by decide +kernel
theorem dX12_feed_12 : decode cX12_feed 12 = .ok (.bipush 32, 2) := by decide +kernel
theorem dX12_feed_14 : decode cX12_feed 14 = .ok (.if_icmp .le 10, 3) := by decide +kernel
theorem dX12_feed_17 : decode cX12_feed 17 = .ok (.aload_n 0, 1) := by decide +kernel
theorem dX12_feed_18 : decode cX12_feed 18 = .ok (.bipush (-7), 2) := by decide +kernel
theorem dX12_feed_20 : decode cX12_feed 20 = .ok (.invokevirtual 142, 3) := by decide +kernel
theorem dX12_feed_23 : decode cX12_feed 23 = .ok (.ireturn, 1) := by decide +kernel
theorem dX12_feed_24 : decode cX12_feed 24 = .ok (.aload_n 0, 1) := by decide +kernel
theorem dX12_feed_25 : decode cX12_feed 25 = .ok (.getfield 219, 3) := by decide +kernel
theorem dX12_feed_28 : decode cX12_feed 28 = .ok (.iload_n 2, 1) := by decide +kernel
theorem dX12_feed_29 : decode cX12_feed 29 = .ok (.iadd, 1) := by decide +kernel
theorem dX12_feed_30 : decode cX12_feed 30 = .ok (.sipush 2000, 3) := by decide +kernel
theorem dX12_feed_33 : decode cX12_feed 33 = .ok (.if_icmp .le 10, 3) := by decide +kernel
theorem dX12_feed_36 : decode cX12_feed 36 = .ok (.aload_n 0, 1) := by decide +kernel
theorem dX12_feed_37 : decode cX12_feed 37 = .ok (.bipush (-8), 2) := by decide +kernel
theorem dX12_feed_39 : decode cX12_feed 39 = .ok (.invokevirtual 142, 3) := by decide +kernel
theorem dX12_feed_42 : decode cX12_feed 42 = .ok (.ireturn, 1) := by decide +kernel
theorem dX12_feed_43 : decode cX12_feed 43 = .ok (.iload_n 2, 1) := by decide +kernel
theorem dX12_feed_44 : decode cX12_feed 44 = .ok (.iconst 1, 1) := by decide +kernel
theorem dX12_feed_45 : decode cX12_feed 45 = .ok (.isub, 1) := by decide +kernel
theorem dX12_feed_46 : decode cX12_feed 46 = .ok (.istore_n 3, 1) := by decide +kernel
theorem dX12_feed_47 : decode cX12_feed 47 = .ok (.iload_n 3, 1) := by decide +kernel
theorem dX12_feed_48 : decode cX12_feed 48 = .ok (.ifCond .lt 33, 3) := by decide +kernel
theorem dX12_feed_51 : decode cX12_feed 51 = .ok (.aload_n 0, 1) := by decide +kernel
theorem dX12_feed_52 : decode cX12_feed 52 = .ok (.getfield 78, 3) := by decide +kernel
theorem dX12_feed_55 : decode cX12_feed 55 = .ok (.aload_n 0, 1) := by decide +kernel
theorem dX12_feed_56 : decode cX12_feed 56 = .ok (.getfield 219, 3) := by decide +kernel
theorem dX12_feed_59 : decode cX12_feed 59 = .ok (.iload_n 1, 1) := by decide +kernel
theorem dX12_feed_60 : decode cX12_feed 60 = .ok (.iload_n 3, 1) := by decide +kernel
theorem dX12_feed_61 : decode cX12_feed 61 = .ok (.iushr, 1) := by decide +kernel
theorem dX12_feed_62 : decode cX12_feed 62 = .ok (.iconst 1, 1) := by decide +kernel
theorem dX12_feed_63 : decode cX12_feed 63 = .ok (.iand, 1) := by decide +kernel
theorem dX12_feed_64 : decode cX12_feed 64 = .ok (.iastore, 1) := by decide +kernel
theorem dX12_feed_65 : decode cX12_feed 65 = .ok (.aload_n 0, 1) := by decide +kernel
theorem dX12_feed_66 : decode cX12_feed 66 = .ok (.dup, 1) := by decide +kernel
theorem dX12_feed_67 : decode cX12_feed 67 = .ok (.getfield 219, 3) := by decide +kernel
theorem dX12_feed_70 : decode cX12_feed 70 = .ok (.iconst 1, 1) := by decide +kernel
theorem dX12_feed_71 : decode cX12_feed 71 = .ok (.iadd, 1) := by decide +kernel
theorem dX12_feed_72 : decode cX12_feed 72 = .ok (.putfield 219, 3) := by decide +kernel
theorem dX12_feed_75 : decode cX12_feed 75 = .ok (.iinc 3 (-1), 3) := by decide +kernel
theorem dX12_feed_78 : decode cX12_feed 78 = .ok (.goto (-31), 3) := by decide +kernel
theorem dX12_feed_81 : decode cX12_feed 81 = .ok (.aload_n 0, 1) := by decide +kernel
theorem dX12_feed_82 : decode cX12_feed 82 = .ok (.getfield 219, 3) := by decide +kernel
theorem dX12_feed_85 : decode cX12_feed 85 = .ok (.ireturn, 1) := by decide +kernel
theorem dX12_lay_0 : decode cX12_lay 0 = .ok (.aload_n 0, 1) := by decide +kernel
theorem dX12_lay_1 : decode cX12_lay 1 = .ok (.iload_n 1, 1) := by decide +kernel
theorem dX12_lay_2 : decode cX12_lay 2 = .ok (.invokevirtual 154, 3) := by decide +kernel
theorem dX12_lay_5 : decode cX12_lay 5 = .ok (.ifCond .ne 10, 3) := by decide +kernel
theorem dX12_lay_8 : decode cX12_lay 8 = .ok (.aload_n 0, 1) := by decide +kernel
theorem dX12_lay_9 : decode cX12_lay 9 = .ok (.bipush (-3), 2) := by decide +kernel
theorem dX12_lay_11 : decode cX12_lay 11 = .ok (.invokevirtual 142, 3) := by decide +kernel
theorem dX12_lay_14 : decode cX12_lay 14 = .ok (.ireturn, 1) := by decide +kernel
theorem dX12_lay_15 : decode cX12_lay 15 = .ok (.aload_n 0, 1) := by decide +kernel
theorem dX12_lay_16 : decode cX12_lay 16 = .ok (.iload_n 1, 1) := by decide +kernel
theorem dX12_lay_17 : decode cX12_lay 17 = .ok (.invokevirtual 208, 3) := by decide +kernel
theorem dX12_lay_20 : decode cX12_lay 20 = .ok (.aload_n 0, 1) := by decide +kernel
theorem dX12_lay_21 : decode cX12_lay 21 = .ok (.getfield 219, 3) := by decide +kernel
theorem dX12_lay_24 : decode cX12_lay 24 = .ok (.aload_n 0, 1) := by decide +kernel
theorem dX12_lay_25 : decode cX12_lay 25 = .ok (.getfield 178, 3) := by decide +kernel
theorem dX12_lay_28 : decode cX12_lay 28 = .ok (.iadd, 1) := by decide +kernel
theorem dX12_lay_29 : decode cX12_lay 29 = .ok (.sipush 2000, 3) := by decide +kernel
theorem dX12_lay_32 : decode cX12_lay 32 = .ok (.if_icmp .le 10, 3) := by decide +kernel
theorem dX12_lay_35 : decode cX12_lay 35 = .ok (.aload_n 0, 1) := by decide +kernel
theorem dX12_lay_36 : decode cX12_lay 36 = .ok (.bipush (-8), 2) := by decide +kernel
theorem dX12_lay_38 : decode cX12_lay 38 = .ok (.invokevirtual 142, 3) := by decide +kernel
theorem dX12_lay_41 : decode cX12_lay 41 = .ok (.ireturn, 1) := by decide +kernel
theorem dX12_lay_42 : decode cX12_lay 42 = .ok (.iconst 0, 1) := by decide +kernel
theorem dX12_lay_43 : decode cX12_lay 43 = .ok (.istore_n 2, 1) := by decide +kernel
theorem dX12_lay_44 : decode cX12_lay 44 = .ok (.iload_n 2, 1) := by decide +kernel
theorem dX12_lay_45 : decode cX12_lay 45 = .ok (.aload_n 0, 1) := by decide +kernel
theorem dX12_lay_46 : decode cX12_lay 46 = .ok (.getfield 178, 3) := by decide +kernel
theorem dX12_lay_49 : decode cX12_lay 49 = .ok (.if_icmp .ge 34, 3) := by decide +kernel
theorem dX12_lay_52 : decode cX12_lay 52 = .ok (.aload_n 0, 1) := by decide +kernel
theorem dX12_lay_53 : decode cX12_lay 53 = .ok (.getfield 78, 3) := by decide +kernel
theorem dX12_lay_56 : decode cX12_lay 56 = .ok (.aload_n 0, 1) := by decide +kernel
theorem dX12_lay_57 : decode cX12_lay 57 = .ok (.getfield 219, 3) := by decide +kernel
theorem dX12_lay_60 : decode cX12_lay 60 = .ok (.aload_n 0, 1) := by decide +kernel
theorem dX12_lay_61 : decode cX12_lay 61 = .ok (.getfield 75, 3) := by decide +kernel
theorem dX12_lay_64 : decode cX12_lay 64 = .ok (.iload_n 2, 1) := by decide +kernel
theorem dX12_lay_65 : decode cX12_lay 65 = .ok (.iaload, 1) := by decide +kernel
theorem dX12_lay_66 : decode cX12_lay 66 = .ok (.iastore, 1) := by decide +kernel
theorem dX12_lay_67 : decode cX12_lay 67 = .ok (.aload_n 0, 1) := by decide +kernel
theorem dX12_lay_68 : decode cX12_lay 68 = .ok (.dup, 1) := by decide +kernel
theorem dX12_lay_69 : decode cX12_lay 69 = .ok (.getfield 219, 3) := by decide +kernel
theorem dX12_lay_72 : decode cX12_lay 72 = .ok (.iconst 1, 1) := by decide +kernel
theorem dX12_lay_73 : decode cX12_lay 73 = .ok (.iadd, 1) := by decide +kernel
theorem dX12_lay_74 : decode cX12_lay 74 = .ok (.putfield 219, 3) := by decide +kernel
theorem dX12_lay_77 : decode cX12_lay 77 = .ok (.iinc 2 1, 3) := by decide +kernel
theorem dX12_lay_80 : decode cX12_lay 80 = .ok (.goto (-36), 3) := by decide +kernel
theorem dX12_lay_83 : decode cX12_lay 83 = .ok (.aload_n 0, 1) := by decide +kernel
theorem dX12_lay_84 : decode cX12_lay 84 = .ok (.getfield 219, 3) := by decide +kernel
theorem dX12_lay_87 : decode cX12_lay 87 = .ok (.ireturn, 1) := by decide +kernel
theorem dX12_bend_0 : decode cX12_bend 0 = .ok (.iload_n 1, 1) := by decide +kernel
theorem dX12_bend_1 : decode cX12_bend 1 = .ok (.i2l, 1) := by decide +kernel
theorem dX12_bend_2 : decode cX12_bend 2 = .ok (.lconst 0, 1) := by decide +kernel
theorem dX12_bend_3 : decode cX12_bend 3 = .ok (.aload_n 0, 1) := by decide +kernel
theorem dX12_bend_4 : decode cX12_bend 4 = .ok (.getfield 219, 3) := by decide +kernel
theorem dX12_bend_7 : decode cX12_bend 7 = .ok (.iconst 1, 1) := by decide +kernel
theorem dX12_bend_8 : decode cX12_bend 8 = .ok (.isub, 1) := by decide +kernel
theorem dX12_bend_9 : decode cX12_bend 9 = .ok (.i2l, 1) := by decide +kernel
theorem dX12_bend_10 : decode cX12_bend 10 = .ok (.invokestatic 138, 3) := by decide +kernel
theorem dX12_bend_13 : decode cX12_bend 13 = .ok (.ifCond .ne 10, 3) := by decide +kernel
theorem dX12_bend_16 : decode cX12_bend 16 = .ok (.aload_n 0, 1) := by decide +kernel
theorem dX12_bend_17 : decode cX12_bend 17 = .ok (.bipush (-3), 2) := by decide +kernel
theorem dX12_bend_19 : decode cX12_bend 19 = .ok (.invokevirtual 142, 3) := by decide +kernel
theorem dX12_bend_22 : decode cX12_bend 22 = .ok (.ireturn, 1) := by decide +kernel
theorem dX12_bend_23 : decode cX12_bend 23 = .ok (.aload_n 0, 1) := by decide +kernel
theorem dX12_bend_24 : decode cX12_bend 24 = .ok (.getfield 78, 3) := by decide +kernel
theorem dX12_bend_27 : decode cX12_bend 27 = .ok (.iload_n 1, 1) := by decide +kernel
theorem dX12_bend_28 : decode cX12_bend 28 = .ok (.iconst 1, 1) := by decide +kernel
theorem dX12_bend_29 : decode cX12_bend 29 = .ok (.aload_n 0, 1) := by decide +kernel
theorem dX12_bend_30 : decode cX12_bend 30 = .ok (.getfield 78, 3) := by decide +kernel
theorem dX12_bend_33 : decode cX12_bend 33 = .ok (.iload_n 1, 1) := by decide +kernel
theorem dX12_bend_34 : decode cX12_bend 34 = .ok (.iaload, 1) := by decide +kernel
theorem dX12_bend_35 : decode cX12_bend 35 = .ok (.isub, 1) := by decide +kernel
theorem dX12_bend_36 : decode cX12_bend 36 = .ok (.iastore, 1) := by decide +kernel
theorem dX12_bend_37 : decode cX12_bend 37 = .ok (.aload_n 0, 1) := by decide +kernel
theorem dX12_bend_38 : decode cX12_bend 38 = .ok (.getfield 78, 3) := by decide +kernel
theorem dX12_bend_41 : decode cX12_bend 41 = .ok (.iload_n 1, 1) := by decide +kernel
theorem dX12_bend_42 : decode cX12_bend 42 = .ok (.iaload, 1) := by decide +kernel
theorem dX12_bend_43 : decode cX12_bend 43 = .ok (.ireturn, 1) := by decide +kernel
theorem dX12_wipe_0 : decode cX12_wipe 0 = .ok (.aload_n 0, 1) := by decide +kernel
theorem dX12_wipe_1 : decode cX12_wipe 1 = .ok (.getfield 219, 3) := by decide +kernel
theorem dX12_wipe_4 : decode cX12_wipe 4 = .ok (.istore_n 1, 1) := by decide +kernel
theorem dX12_wipe_5 : decode cX12_wipe 5 = .ok (.aload_n 0, 1) := by decide +kernel
theorem dX12_wipe_6 : decode cX12_wipe 6 = .ok (.iconst 0, 1) := by decide +kernel
theorem dX12_wipe_7 : decode cX12_wipe 7 = .ok (.putfield 219, 3) := by decide +kernel
theorem dX12_wipe_10 : decode cX12_wipe 10 = .ok (.iload_n 1, 1) := by decide +kernel
theorem dX12_wipe_11 : decode cX12_wipe 11 = .ok (.ireturn, 1) := by decide +kernel
theorem dX12_faults_0 : decode cX12_faults 0 = .ok (.aload_n 0, 1) := by decide +kernel
theorem dX12_faults_1 : decode cX12_faults 1 = .ok (.getfield 222, 3) := by decide +kernel
theorem dX12_faults_4 : decode cX12_faults 4 = .ok (.ifCond .eq 4, 3) := by decide +kernel
theorem dX12_faults_7 : decode cX12_faults 7 = .ok (.return_, 1) := by decide +kernel
theorem dX12_faults_8 : decode cX12_faults 8 = .ok (.aload_n 0, 1) := by decide +kernel
theorem dX12_faults_9 : decode cX12_faults 9 = .ok (.iload_n 1, 1) := by decide +kernel
theorem dX12_faults_10 : decode cX12_faults 10 = .ok (.putfield 222, 3) := by decide +kernel
theorem dX12_faults_13 : decode cX12_faults 13 = .ok (.aload_n 0, 1) := by decide +kernel
theorem dX12_faults_14 : decode cX12_faults 14 = .ok (.iload_n 2, 1) := by decide +kernel
theorem dX12_faults_15 : decode cX12_faults 15 = .ok (.putfield 225, 3) := by decide +kernel
theorem dX12_faults_18 : decode cX12_faults 18 = .ok (.return_, 1) := by decide +kernel
theorem dX12_skips_0 : decode cX12_skips 0 = .ok (.aload_n 0, 1) := by decide +kernel
theorem dX12_skips_1 : decode cX12_skips 1 = .ok (.getfield 222, 3) := by decide +kernel
theorem dX12_skips_4 : decode cX12_skips 4 = .ok (.ifCond .ne 11, 3) := by decide +kernel
theorem dX12_skips_7 : decode cX12_skips 7 = .ok (.aload_n 0, 1) := by decide +kernel
theorem dX12_skips_8 : decode cX12_skips 8 = .ok (.getfield 228, 3) := by decide +kernel
theorem dX12_skips_11 : decode cX12_skips 11 = .ok (.iconst 5, 1) := by decide +kernel
theorem dX12_skips_12 : decode cX12_skips 12 = .ok (.if_icmp .ge 4, 3) := by decide +kernel
theorem dX12_skips_15 : decode cX12_skips 15 = .ok (.return_, 1) := by decide +kernel
theorem dX12_skips_16 : decode cX12_skips 16 = .ok (.aload_n 0, 1) := by decide +kernel
theorem dX12_skips_17 : decode cX12_skips 17 = .ok (.getfield 225, 3) := by decide +kernel
theorem dX12_skips_20 : decode cX12_skips 20 = .ok (.aload_n 0, 1) := by decide +kernel
theorem dX12_skips_21 : decode cX12_skips 21 = .ok (.getfield 219, 3) := by decide +kernel
theorem dX12_skips_24 : decode cX12_skips 24 = .ok (.if_icmp .ne 16, 3) := by decide +kernel
theorem dX12_skips_27 : decode cX12_skips 27 = .ok (.aload_n 0, 1) := by decide +kernel
theorem dX12_skips_28 : decode cX12_skips 28 = .ok (.bipush 6, 2) := by decide +kernel
theorem dX12_skips_30 : decode cX12_skips 30 = .ok (.aload_n 0, 1) := by decide +kernel
theorem dX12_skips_31 : decode cX12_skips 31 = .ok (.getfield 219, 3) := by decide +kernel
theorem dX12_skips_34 : decode cX12_skips 34 = .ok (.invokevirtual 231, 3) := by decide +kernel
theorem dX12_skips_37 : decode cX12_skips 37 = .ok (.goto 69, 3) := by decide +kernel
theorem dX12_skips_40 : decode cX12_skips 40 = .ok (.aload_n 0, 1) := by decide +kernel
theorem dX12_skips_41 : decode cX12_skips 41 = .ok (.getfield 78, 3) := by decide +kernel
theorem dX12_skips_44 : decode cX12_skips 44 = .ok (.aload_n 0, 1) := by decide +kernel
theorem dX12_skips_45 : decode cX12_skips 45 = .ok (.getfield 225, 3) := by decide +kernel
theorem dX12_skips_48 : decode cX12_skips 48 = .ok (.iaload, 1) := by decide +kernel
theorem dX12_skips_49 : decode cX12_skips 49 = .ok (.aload_n 0, 1) := by decide +kernel
theorem dX12_skips_50 : decode cX12_skips 50 = .ok (.getfield 235, 3) := by decide +kernel
theorem dX12_skips_53 : decode cX12_skips 53 = .ok (.if_icmp .ne 15, 3) := by decide +kernel
theorem dX12_skips_56 : decode cX12_skips 56 = .ok (.aload_n 0, 1) := by decide +kernel
theorem dX12_skips_57 : decode cX12_skips 57 = .ok (.iconst 2, 1) := by decide +kernel
theorem dX12_skips_58 : decode cX12_skips 58 = .ok (.aload_n 0, 1) := by decide +kernel
theorem dX12_skips_59 : decode cX12_skips 59 = .ok (.getfield 225, 3) := by decide +kernel
theorem dX12_skips_62 : decode cX12_skips 62 = .ok (.invokevirtual 231, 3) := by decide +kernel
theorem dX12_skips_65 : decode cX12_skips 65 = .ok (.goto 41, 3) := by decide +kernel
theorem dX12_skips_68 : decode cX12_skips 68 = .ok (.aload_n 0, 1) := by decide +kernel
theorem dX12_skips_69 : decode cX12_skips 69 = .ok (.aload_n 0, 1) := by decide +kernel
theorem dX12_skips_70 : decode cX12_skips 70 = .ok (.getfield 78, 3) := by decide +kernel
theorem dX12_skips_73 : decode cX12_skips 73 = .ok (.aload_n 0, 1) := by decide +kernel
theorem dX12_skips_74 : decode cX12_skips 74 = .ok (.getfield 225, 3) := by decide +kernel
theorem dX12_skips_77 : decode cX12_skips 77 = .ok (.iaload, 1) := by decide +kernel
theorem dX12_skips_78 : decode cX12_skips 78 = .ok (.putfield 235, 3) := by decide +kernel
theorem dX12_skips_81 : decode cX12_skips 81 = .ok (.aload_n 0, 1) := by decide +kernel
theorem dX12_skips_82 : decode cX12_skips 82 = .ok (.iconst 1, 1) := by decide +kernel
theorem dX12_skips_83 : decode cX12_skips 83 = .ok (.putfield 228, 3) := by decide +kernel
theorem dX12_skips_86 : decode cX12_skips 86 = .ok (.aload_n 0, 1) := by decide +kernel
theorem dX12_skips_87 : decode cX12_skips 87 = .ok (.dup, 1) := by decide +kernel
theorem dX12_skips_88 : decode cX12_skips 88 = .ok (.getfield 238, 3) := by decide +kernel
theorem dX12_skips_91 : decode cX12_skips 91 = .ok (.iconst 1, 1) := by decide +kernel
theorem dX12_skips_92 : decode cX12_skips 92 = .ok (.iadd, 1) := by decide +kernel
theorem dX12_skips_93 : decode cX12_skips 93 = .ok (.putfield 238, 3) := by decide +kernel
theorem dX12_skips_96 : decode cX12_skips 96 = .ok (.aload_n 0, 1) := by decide +kernel
theorem dX12_skips_97 : decode cX12_skips 97 = .ok (.dup, 1) := by decide +kernel
theorem dX12_skips_98 : decode cX12_skips 98 = .ok (.getfield 225, 3) := by decide +kernel
theorem dX12_skips_101 : decode cX12_skips 101 = .ok (.iconst 1, 1) := by decide +kernel
theorem dX12_skips_102 : decode cX12_skips 102 = .ok (.iadd, 1) := by decide +kernel
theorem dX12_skips_103 : decode cX12_skips 103 = .ok (.putfield 225, 3) := by decide +kernel
theorem dX12_skips_106 : decode cX12_skips 106 = .ok (.return_, 1) := by decide +kernel
theorem dX12_takes_0 : decode cX12_takes 0 = .ok (.iconst 0, 1) := by decide +kernel
theorem dX12_takes_1 : decode cX12_takes 1 = .ok (.istore_n 3, 1) := by decide +kernel
theorem dX12_takes_2 : decode cX12_takes 2 = .ok (.iconst 0, 1) := by decide +kernel
theorem dX12_takes_3 : decode cX12_takes 3 = .ok (.istore 4, 2) := by decide +kernel
theorem dX12_takes_5 : decode cX12_takes 5 = .ok (.iload 4, 2) := by decide +kernel
theorem dX12_takes_7 : decode cX12_takes 7 = .ok (.iload_n 1, 1) := by decide +kernel
theorem dX12_takes_8 : decode cX12_takes 8 = .ok (.if_icmp .ge 131, 3) := by decide +kernel
theorem dX12_takes_11 : decode cX12_takes 11 = .ok (.aload_n 0, 1) := by decide +kernel
theorem dX12_takes_12 : decode cX12_takes 12 = .ok (.getfield 222, 3) := by decide +kernel
theorem dX12_takes_15 : decode cX12_takes 15 = .ok (.ifCond .ne 124, 3) := by decide +kernel
theorem dX12_takes_18 : decode cX12_takes 18 = .ok (.aload_n 0, 1) := by decide +kernel
theorem dX12_takes_19 : decode cX12_takes 19 = .ok (.invokevirtual 241, 3) := by decide +kernel
theorem dX12_takes_22 : decode cX12_takes 22 = .ok (.aload_n 0, 1) := by decide +kernel
theorem dX12_takes_23 : decode cX12_takes 23 = .ok (.getfield 222, 3) := by decide +kernel
theorem dX12_takes_26 : decode cX12_takes 26 = .ok (.ifCond .ne 24, 3) := by decide +kernel
theorem dX12_takes_29 : decode cX12_takes 29 = .ok (.aload_n 0, 1) := by decide +kernel
theorem dX12_takes_30 : decode cX12_takes 30 = .ok (.getfield 225, 3) := by decide +kernel
theorem dX12_takes_33 : decode cX12_takes 33 = .ok (.aload_n 0, 1) := by decide +kernel
theorem dX12_takes_34 : decode cX12_takes 34 = .ok (.getfield 219, 3) := by decide +kernel
theorem dX12_takes_37 : decode cX12_takes 37 = .ok (.if_icmp .ne 13, 3) := by decide +kernel
theorem dX12_takes_40 : decode cX12_takes 40 = .ok (.aload_n 0, 1) := by decide +kernel
theorem dX12_takes_41 : decode cX12_takes 41 = .ok (.bipush 6, 2) := by decide +kernel
theorem dX12_takes_43 : decode cX12_takes 43 = .ok (.aload_n 0, 1) := by decide +kernel
theorem dX12_takes_44 : decode cX12_takes 44 = .ok (.getfield 219, 3) := by decide +kernel
theorem dX12_takes_47 : decode cX12_takes 47 = .ok (.invokevirtual 231, 3) := by decide +kernel
theorem dX12_takes_50 : decode cX12_takes 50 = .ok (.aload_n 0, 1) := by decide +kernel
theorem dX12_takes_51 : decode cX12_takes 51 = .ok (.getfield 222, 3) := by decide +kernel
theorem dX12_takes_54 : decode cX12_takes 54 = .ok (.ifCond .eq 5, 3) := by decide +kernel
theorem dX12_takes_57 : decode cX12_takes 57 = .ok (.iload_n 3, 1) := by decide +kernel
theorem dX12_takes_58 : decode cX12_takes 58 = .ok (.ireturn, 1) := by decide +kernel
theorem dX12_takes_59 : decode cX12_takes 59 = .ok (.aload_n 0, 1) := by decide +kernel
theorem dX12_takes_60 : decode cX12_takes 60 = .ok (.getfield 78, 3) := by decide +kernel
theorem dX12_takes_63 : decode cX12_takes 63 = .ok (.aload_n 0, 1) := by decide +kernel
theorem dX12_takes_64 : decode cX12_takes 64 = .ok (.getfield 225, 3) := by decide +kernel
theorem dX12_takes_67 : decode cX12_takes 67 = .ok (.iaload, 1) := by decide +kernel
theorem dX12_takes_68 : decode cX12_takes 68 = .ok (.istore 5, 2) := by decide +kernel
theorem dX12_takes_70 : decode cX12_takes 70 = .ok (.aload_n 0, 1) := by decide +kernel
theorem dX12_takes_71 : decode cX12_takes 71 = .ok (.iload 5, 2) := by decide +kernel
theorem dX12_takes_73 : decode cX12_takes 73 = .ok (.aload_n 0, 1) := by decide +kernel
theorem dX12_takes_74 : decode cX12_takes 74 = .ok (.getfield 235, 3) := by decide +kernel
theorem dX12_takes_77 : decode cX12_takes 77 = .ok (.if_icmp .ne 12, 3) := by decide +kernel
theorem dX12_takes_80 : decode cX12_takes 80 = .ok (.aload_n 0, 1) := by decide +kernel
theorem dX12_takes_81 : decode cX12_takes 81 = .ok (.getfield 228, 3) := by decide +kernel
theorem dX12_takes_84 : decode cX12_takes 84 = .ok (.iconst 1, 1) := by decide +kernel
theorem dX12_takes_85 : decode cX12_takes 85 = .ok (.iadd, 1) := by decide +kernel
theorem dX12_takes_86 : decode cX12_takes 86 = .ok (.goto 4, 3) := by decide +kernel
theorem dX12_takes_89 : decode cX12_takes 89 = .ok (.iconst 1, 1) := by decide +kernel
theorem dX12_takes_90 : decode cX12_takes 90 = .ok (.putfield 228, 3) := by decide +kernel
theorem dX12_takes_93 : decode cX12_takes 93 = .ok (.aload_n 0, 1) := by decide +kernel
theorem dX12_takes_94 : decode cX12_takes 94 = .ok (.iload 5, 2) := by decide +kernel
theorem dX12_takes_96 : decode cX12_takes 96 = .ok (.putfield 235, 3) := by decide +kernel
theorem dX12_takes_99 : decode cX12_takes 99 = .ok (.iload_n 2, 1) := by decide +kernel
theorem dX12_takes_100 : decode cX12_takes 100 = .ok (.ifCond .eq 16, 3) := by decide +kernel
theorem dX12_takes_103 : decode cX12_takes 103 = .ok (.aload_n 0, 1) := by decide +kernel
theorem dX12_takes_104 : decode cX12_takes 104 = .ok (.aload_n 0, 1) := by decide +kernel
theorem dX12_takes_105 : decode cX12_takes 105 = .ok (.getfield 244, 3) := by decide +kernel
theorem dX12_takes_108 : decode cX12_takes 108 = .ok (.iload 5, 2) := by decide +kernel
theorem dX12_takes_110 : decode cX12_takes 110 = .ok (.invokestatic 193, 3) := by decide +kernel
theorem dX12_takes_113 : decode cX12_takes 113 = .ok (.putfield 244, 3) := by decide +kernel
theorem dX12_takes_116 : decode cX12_takes 116 = .ok (.iconst 2, 1) := by decide +kernel
theorem dX12_takes_117 : decode cX12_takes 117 = .ok (.iload_n 3, 1) := by decide +kernel
theorem dX12_takes_118 : decode cX12_takes 118 = .ok (.imul, 1) := by decide +kernel
theorem dX12_takes_119 : decode cX12_takes 119 = .ok (.iload 5, 2) := by decide +kernel
theorem dX12_takes_121 : decode cX12_takes 121 = .ok (.iadd, 1) := by decide +kernel
theorem dX12_takes_122 : decode cX12_takes 122 = .ok (.istore_n 3, 1) := by decide +kernel
theorem dX12_takes_123 : decode cX12_takes 123 = .ok (.aload_n 0, 1) := by decide +kernel
theorem dX12_takes_124 : decode cX12_takes 124 = .ok (.dup, 1) := by decide +kernel
theorem dX12_takes_125 : decode cX12_takes 125 = .ok (.getfield 225, 3) := by decide +kernel
theorem dX12_takes_128 : decode cX12_takes 128 = .ok (.iconst 1, 1) := by decide +kernel
theorem dX12_takes_129 : decode cX12_takes 129 = .ok (.iadd, 1) := by decide +kernel
theorem dX12_takes_130 : decode cX12_takes 130 = .ok (.putfield 225, 3) := by decide +kernel
theorem dX12_takes_133 : decode cX12_takes 133 = .ok (.iinc 4 1, 3) := by decide +kernel
theorem dX12_takes_136 : decode cX12_takes 136 = .ok (.goto (-131), 3) := by decide +kernel
theorem dX12_takes_139 : decode cX12_takes 139 = .ok (.iload_n 3, 1) := by decide +kernel
theorem dX12_takes_140 : decode cX12_takes 140 = .ok (.ireturn, 1) := by decide +kernel
theorem dX12_readsRank_0 : decode cX12_readsRank 0 = .ok (.aload_n 0, 1) := by decide +kernel
theorem dX12_readsRank_1 : decode cX12_readsRank 1 = .ok (.bipush 11, 2) := by decide +kernel
theorem dX12_readsRank_3 : decode cX12_readsRank 3 = .ok (.iconst 1, 1) := by decide +kernel
theorem dX12_readsRank_4 : decode cX12_readsRank 4 = .ok (.invokevirtual 247, 3) := by decide +kernel
theorem dX12_readsRank_7 : decode cX12_readsRank 7 = .ok (.istore_n 1, 1) := by decide +kernel
theorem dX12_readsRank_8 : decode cX12_readsRank 8 = .ok (.aload_n 0, 1) := by decide +kernel
theorem dX12_readsRank_9 : decode cX12_readsRank 9 = .ok (.iconst 1, 1) := by decide +kernel
theorem dX12_readsRank_10 : decode cX12_readsRank 10 = .ok (.iconst 1, 1) := by decide +kernel
theorem dX12_readsRank_11 : decode cX12_readsRank 11 = .ok (.invokevirtual 247, 3) := by decide +kernel
theorem dX12_readsRank_14 : decode cX12_readsRank 14 = .ok (.istore_n 2, 1) := by decide +kernel
theorem dX12_readsRank_15 : decode cX12_readsRank 15 = .ok (.aload_n 0, 1) := by decide +kernel
theorem dX12_readsRank_16 : decode cX12_readsRank 16 = .ok (.getfield 222, 3) := by decide +kernel
theorem dX12_readsRank_19 : decode cX12_readsRank 19 = .ok (.ifCond .eq 4, 3) := by decide +kernel
theorem dX12_readsRank_22 : decode cX12_readsRank 22 = .ok (.return_, 1) := by decide +kernel
theorem dX12_readsRank_23 : decode cX12_readsRank 23 = .ok (.iload_n 2, 1) := by decide +kernel
theorem dX12_readsRank_24 : decode cX12_readsRank 24 = .ok (.ifCond .ne 9, 3) := by decide +kernel
theorem dX12_readsRank_27 : decode cX12_readsRank 27 = .ok (.aload_n 0, 1) := by decide +kernel
theorem dX12_readsRank_28 : decode cX12_readsRank 28 = .ok (.iload_n 1, 1) := by decide +kernel
theorem dX12_readsRank_29 : decode cX12_readsRank 29 = .ok (.putfield 81, 3) := by decide +kernel
theorem dX12_readsRank_32 : decode cX12_readsRank 32 = .ok (.return_, 1) := by decide +kernel
theorem dX12_readsRank_33 : decode cX12_readsRank 33 = .ok (.aload_n 0, 1) := by decide +kernel
theorem dX12_readsRank_34 : decode cX12_readsRank 34 = .ok (.bipush 18, 2) := by decide +kernel
theorem dX12_readsRank_36 : decode cX12_readsRank 36 = .ok (.iconst 1, 1) := by decide +kernel
theorem dX12_readsRank_37 : decode cX12_readsRank 37 = .ok (.invokevirtual 247, 3) := by decide +kernel
theorem dX12_readsRank_40 : decode cX12_readsRank 40 = .ok (.istore_n 3, 1) := by decide +kernel
theorem dX12_readsRank_41 : decode cX12_readsRank 41 = .ok (.aload_n 0, 1) := by decide +kernel
theorem dX12_readsRank_42 : decode cX12_readsRank 42 = .ok (.getfield 222, 3) := by decide +kernel
theorem dX12_readsRank_45 : decode cX12_readsRank 45 = .ok (.ifCond .ne 17, 3) := by decide +kernel
theorem dX12_readsRank_48 : decode cX12_readsRank 48 = .ok (.aload_n 0, 1) := by decide +kernel
theorem dX12_readsRank_49 : decode cX12_readsRank 49 = .ok (.sipush 2048, 3) := by decide +kernel
theorem dX12_readsRank_52 : decode cX12_readsRank 52 = .ok (.iload_n 1, 1) := by decide +kernel
theorem dX12_readsRank_53 : decode cX12_readsRank 53 = .ok (.bipush 18, 2) := by decide +kernel
theorem dX12_readsRank_55 : decode cX12_readsRank 55 = .ok (.ishl, 1) := by decide +kernel
theorem dX12_readsRank_56 : decode cX12_readsRank 56 = .ok (.iload_n 3, 1) := by decide +kernel
theorem dX12_readsRank_57 : decode cX12_readsRank 57 = .ok (.ior, 1) := by decide +kernel
theorem dX12_readsRank_58 : decode cX12_readsRank 58 = .ok (.iadd, 1) := by decide +kernel
theorem dX12_readsRank_59 : decode cX12_readsRank 59 = .ok (.putfield 81, 3) := by decide +kernel
theorem dX12_readsRank_62 : decode cX12_readsRank 62 = .ok (.return_, 1) := by decide +kernel
theorem dX12_readsBytes_0 : decode cX12_readsBytes 0 = .ok (.aload_n 0, 1) := by decide +kernel
theorem dX12_readsBytes_1 : decode cX12_readsBytes 1 = .ok (.iconst 4, 1) := by decide +kernel
theorem dX12_readsBytes_2 : decode cX12_readsBytes 2 = .ok (.iconst 1, 1) := by decide +kernel
theorem dX12_readsBytes_3 : decode cX12_readsBytes 3 = .ok (.invokevirtual 247, 3) := by decide +kernel
theorem dX12_readsBytes_6 : decode cX12_readsBytes 6 = .ok (.istore_n 1, 1) := by decide +kernel
theorem dX12_readsBytes_7 : decode cX12_readsBytes 7 = .ok (.aload_n 0, 1) := by decide +kernel
theorem dX12_readsBytes_8 : decode cX12_readsBytes 8 = .ok (.getfield 222, 3) := by decide +kernel
theorem dX12_readsBytes_11 : decode cX12_readsBytes 11 = .ok (.ifCond .eq 4, 3) := by decide +kernel
theorem dX12_readsBytes_14 : decode cX12_readsBytes 14 = .ok (.return_, 1) := by decide +kernel
theorem dX12_readsBytes_15 : decode cX12_readsBytes 15 = .ok (.aload_n 0, 1) := by decide +kernel
theorem dX12_readsBytes_16 : decode cX12_readsBytes 16 = .ok (.iload_n 1, 1) := by decide +kernel
theorem dX12_readsBytes_17 : decode cX12_readsBytes 17 = .ok (.putfield 85, 3) := by decide +kernel
theorem dX12_readsBytes_20 : decode cX12_readsBytes 20 = .ok (.iload_n 1, 1) := by decide +kernel
theorem dX12_readsBytes_21 : decode cX12_readsBytes 21 = .ok (.bipush 8, 2) := by decide +kernel
theorem dX12_readsBytes_23 : decode cX12_readsBytes 23 = .ok (.if_icmp .le 15, 3) := by decide +kernel
theorem dX12_readsBytes_26 : decode cX12_readsBytes 26 = .ok (.aload_n 0, 1) := by decide +kernel
theorem dX12_readsBytes_27 : decode cX12_readsBytes 27 = .ok (.iconst 3, 1) := by decide +kernel
theorem dX12_readsBytes_28 : decode cX12_readsBytes 28 = .ok (.aload_n 0, 1) := by decide +kernel
theorem dX12_readsBytes_29 : decode cX12_readsBytes 29 = .ok (.getfield 225, 3) := by decide +kernel
theorem dX12_readsBytes_32 : decode cX12_readsBytes 32 = .ok (.iconst 1, 1) := by decide +kernel
theorem dX12_readsBytes_33 : decode cX12_readsBytes 33 = .ok (.isub, 1) := by decide +kernel
theorem dX12_readsBytes_34 : decode cX12_readsBytes 34 = .ok (.invokevirtual 231, 3) := by decide +kernel
theorem dX12_readsBytes_37 : decode cX12_readsBytes 37 = .ok (.return_, 1) := by decide +kernel
theorem dX12_readsBytes_38 : decode cX12_readsBytes 38 = .ok (.iconst 0, 1) := by decide +kernel
theorem dX12_readsBytes_39 : decode cX12_readsBytes 39 = .ok (.istore_n 2, 1) := by decide +kernel
theorem dX12_readsBytes_40 : decode cX12_readsBytes 40 = .ok (.iload_n 2, 1) := by decide +kernel
theorem dX12_readsBytes_41 : decode cX12_readsBytes 41 = .ok (.iload_n 1, 1) := by decide +kernel
theorem dX12_readsBytes_42 : decode cX12_readsBytes 42 = .ok (.if_icmp .ge 45, 3) := by decide +kernel
theorem dX12_readsBytes_45 : decode cX12_readsBytes 45 = .ok (.aload_n 0, 1) := by decide +kernel
theorem dX12_readsBytes_46 : decode cX12_readsBytes 46 = .ok (.getfield 222, 3) := by decide +kernel
theorem dX12_readsBytes_49 : decode cX12_readsBytes 49 = .ok (.ifCond .ne 38, 3) := by decide +kernel
theorem dX12_readsBytes_52 : decode cX12_readsBytes 52 = .ok (.aload_n 0, 1) := by decide +kernel
theorem dX12_readsBytes_53 : decode cX12_readsBytes 53 = .ok (.bipush 8, 2) := by decide +kernel
theorem dX12_readsBytes_55 : decode cX12_readsBytes 55 = .ok (.iconst 1, 1) := by decide +kernel
theorem dX12_readsBytes_56 : decode cX12_readsBytes 56 = .ok (.invokevirtual 247, 3) := by decide +kernel
theorem dX12_readsBytes_59 : decode cX12_readsBytes 59 = .ok (.istore_n 3, 1) := by decide +kernel
theorem dX12_readsBytes_60 : decode cX12_readsBytes 60 = .ok (.aload_n 0, 1) := by decide +kernel
theorem dX12_readsBytes_61 : decode cX12_readsBytes 61 = .ok (.getfield 222, 3) := by decide +kernel
theorem dX12_readsBytes_64 : decode cX12_readsBytes 64 = .ok (.ifCond .ne 17, 3) := by decide +kernel
theorem dX12_readsBytes_67 : decode cX12_readsBytes 67 = .ok (.aload_n 0, 1) := by decide +kernel
theorem dX12_readsBytes_68 : decode cX12_readsBytes 68 = .ok (.aload_n 0, 1) := by decide +kernel
theorem dX12_readsBytes_69 : decode cX12_readsBytes 69 = .ok (.getfield 251, 3) := by decide +kernel
theorem dX12_readsBytes_72 : decode cX12_readsBytes 72 = .ok (.bipush 8, 2) := by decide +kernel
theorem dX12_readsBytes_74 : decode cX12_readsBytes 74 = .ok (.lshl, 1) := by decide +kernel
theorem dX12_readsBytes_75 : decode cX12_readsBytes 75 = .ok (.iload_n 3, 1) := by decide +kernel
theorem dX12_readsBytes_76 : decode cX12_readsBytes 76 = .ok (.i2l, 1) := by decide +kernel
theorem dX12_readsBytes_77 : decode cX12_readsBytes 77 = .ok (.lor, 1) := by decide +kernel
theorem dX12_readsBytes_78 : decode cX12_readsBytes 78 = .ok (.putfield 251, 3) := by decide +kernel
theorem dX12_readsBytes_81 : decode cX12_readsBytes 81 = .ok (.iinc 2 1, 3) := by decide +kernel
theorem dX12_readsBytes_84 : decode cX12_readsBytes 84 = .ok (.goto (-44), 3) := by decide +kernel
theorem dX12_readsBytes_87 : decode cX12_readsBytes 87 = .ok (.return_, 1) := by decide +kernel
theorem dX12_readsTail_0 : decode cX12_readsTail 0 = .ok (.iconst 0, 1) := by decide +kernel
theorem dX12_readsTail_1 : decode cX12_readsTail 1 = .ok (.istore_n 1, 1) := by decide +kernel
theorem dX12_readsTail_2 : decode cX12_readsTail 2 = .ok (.iload_n 1, 1) := by decide +kernel
theorem dX12_readsTail_3 : decode cX12_readsTail 3 = .ok (.bipush 10, 2) := by decide +kernel
theorem dX12_readsTail_5 : decode cX12_readsTail 5 = .ok (.if_icmp .ge 84, 3) := by decide +kernel
theorem dX12_readsTail_8 : decode cX12_readsTail 8 = .ok (.aload_n 0, 1) := by decide +kernel
theorem dX12_readsTail_9 : decode cX12_readsTail 9 = .ok (.getfield 222, 3) := by decide +kernel
theorem dX12_readsTail_12 : decode cX12_readsTail 12 = .ok (.ifCond .ne 77, 3) := by decide +kernel
theorem dX12_readsTail_15 : decode cX12_readsTail 15 = .ok (.aload_n 0, 1) := by decide +kernel
theorem dX12_readsTail_16 : decode cX12_readsTail 16 = .ok (.getfield 225, 3) := by decide +kernel
theorem dX12_readsTail_19 : decode cX12_readsTail 19 = .ok (.aload_n 0, 1) := by decide +kernel
theorem dX12_readsTail_20 : decode cX12_readsTail 20 = .ok (.getfield 219, 3) := by decide +kernel
theorem dX12_readsTail_23 : decode cX12_readsTail 23 = .ok (.if_icmp .ne 16, 3) := by decide +kernel
theorem dX12_readsTail_26 : decode cX12_readsTail 26 = .ok (.aload_n 0, 1) := by decide +kernel
theorem dX12_readsTail_27 : decode cX12_readsTail 27 = .ok (.bipush 6, 2) := by decide +kernel
theorem dX12_readsTail_29 : decode cX12_readsTail 29 = .ok (.aload_n 0, 1) := by decide +kernel
theorem dX12_readsTail_30 : decode cX12_readsTail 30 = .ok (.getfield 219, 3) := by decide +kernel
theorem dX12_readsTail_33 : decode cX12_readsTail 33 = .ok (.invokevirtual 231, 3) := by decide +kernel
theorem dX12_readsTail_36 : decode cX12_readsTail 36 = .ok (.goto 47, 3) := by decide +kernel
theorem dX12_readsTail_39 : decode cX12_readsTail 39 = .ok (.aload_n 0, 1) := by decide +kernel
theorem dX12_readsTail_40 : decode cX12_readsTail 40 = .ok (.getfield 78, 3) := by decide +kernel
theorem dX12_readsTail_43 : decode cX12_readsTail 43 = .ok (.aload_n 0, 1) := by decide +kernel
theorem dX12_readsTail_44 : decode cX12_readsTail 44 = .ok (.getfield 225, 3) := by decide +kernel
theorem dX12_readsTail_47 : decode cX12_readsTail 47 = .ok (.iaload, 1) := by decide +kernel
theorem dX12_readsTail_48 : decode cX12_readsTail 48 = .ok (.iload_n 1, 1) := by decide +kernel
theorem dX12_readsTail_49 : decode cX12_readsTail 49 = .ok (.iconst 1, 1) := by decide +kernel
theorem dX12_readsTail_50 : decode cX12_readsTail 50 = .ok (.if_icmp .ne 7, 3) := by decide +kernel
theorem dX12_readsTail_53 : decode cX12_readsTail 53 = .ok (.iconst 0, 1) := by decide +kernel
theorem dX12_readsTail_54 : decode cX12_readsTail 54 = .ok (.goto 4, 3) := by decide +kernel
theorem dX12_readsTail_57 : decode cX12_readsTail 57 = .ok (.iconst 1, 1) := by decide +kernel
theorem dX12_readsTail_58 : decode cX12_readsTail 58 = .ok (.if_icmp .eq 15, 3) := by decide +kernel
theorem dX12_readsTail_61 : decode cX12_readsTail 61 = .ok (.aload_n 0, 1) := by decide +kernel
theorem dX12_readsTail_62 : decode cX12_readsTail 62 = .ok (.iconst 5, 1) := by decide +kernel
theorem dX12_readsTail_63 : decode cX12_readsTail 63 = .ok (.aload_n 0, 1) := by decide +kernel
theorem dX12_readsTail_64 : decode cX12_readsTail 64 = .ok (.getfield 225, 3) := by decide +kernel
theorem dX12_readsTail_67 : decode cX12_readsTail 67 = .ok (.invokevirtual 231, 3) := by decide +kernel
theorem dX12_readsTail_70 : decode cX12_readsTail 70 = .ok (.goto 13, 3) := by decide +kernel
theorem dX12_readsTail_73 : decode cX12_readsTail 73 = .ok (.aload_n 0, 1) := by decide +kernel
theorem dX12_readsTail_74 : decode cX12_readsTail 74 = .ok (.dup, 1) := by decide +kernel
theorem dX12_readsTail_75 : decode cX12_readsTail 75 = .ok (.getfield 225, 3) := by decide +kernel
theorem dX12_readsTail_78 : decode cX12_readsTail 78 = .ok (.iconst 1, 1) := by decide +kernel
theorem dX12_readsTail_79 : decode cX12_readsTail 79 = .ok (.iadd, 1) := by decide +kernel
theorem dX12_readsTail_80 : decode cX12_readsTail 80 = .ok (.putfield 225, 3) := by decide +kernel
theorem dX12_readsTail_83 : decode cX12_readsTail 83 = .ok (.iinc 1 1, 3) := by decide +kernel
theorem dX12_readsTail_86 : decode cX12_readsTail 86 = .ok (.goto (-84), 3) := by decide +kernel
theorem dX12_readsTail_89 : decode cX12_readsTail 89 = .ok (.return_, 1) := by decide +kernel
theorem dX12_read_0 : decode cX12_read 0 = .ok (.iload_n 1, 1) := by decide +kernel
theorem dX12_read_1 : decode cX12_read 1 = .ok (.i2l, 1) := by decide +kernel
theorem dX12_read_2 : decode cX12_read 2 = .ok (.lconst 0, 1) := by decide +kernel
theorem dX12_read_3 : decode cX12_read 3 = .ok (.aload_n 0, 1) := by decide +kernel
theorem dX12_read_4 : decode cX12_read 4 = .ok (.getfield 219, 3) := by decide +kernel
theorem dX12_read_7 : decode cX12_read 7 = .ok (.i2l, 1) := by decide +kernel
theorem dX12_read_8 : decode cX12_read 8 = .ok (.invokestatic 138, 3) := by decide +kernel
theorem dX12_read_11 : decode cX12_read 11 = .ok (.ifCond .ne 10, 3) := by decide +kernel
theorem dX12_read_14 : decode cX12_read 14 = .ok (.aload_n 0, 1) := by decide +kernel
theorem dX12_read_15 : decode cX12_read 15 = .ok (.bipush (-3), 2) := by decide +kernel
theorem dX12_read_17 : decode cX12_read 17 = .ok (.invokevirtual 142, 3) := by decide +kernel
theorem dX12_read_20 : decode cX12_read 20 = .ok (.ireturn, 1) := by decide +kernel
theorem dX12_read_21 : decode cX12_read 21 = .ok (.aload_n 0, 1) := by decide +kernel
theorem dX12_read_22 : decode cX12_read 22 = .ok (.iconst 1, 1) := by decide +kernel
theorem dX12_read_23 : decode cX12_read 23 = .ok (.putfield 255, 3) := by decide +kernel
theorem dX12_read_26 : decode cX12_read 26 = .ok (.aload_n 0, 1) := by decide +kernel
theorem dX12_read_27 : decode cX12_read 27 = .ok (.iload_n 1, 1) := by decide +kernel
theorem dX12_read_28 : decode cX12_read 28 = .ok (.putfield 225, 3) := by decide +kernel
theorem dX12_read_31 : decode cX12_read 31 = .ok (.aload_n 0, 1) := by decide +kernel
theorem dX12_read_32 : decode cX12_read 32 = .ok (.iconst 0, 1) := by decide +kernel
theorem dX12_read_33 : decode cX12_read 33 = .ok (.putfield 222, 3) := by decide +kernel
theorem dX12_read_36 : decode cX12_read 36 = .ok (.aload_n 0, 1) := by decide +kernel
theorem dX12_read_37 : decode cX12_read 37 = .ok (.iconst 0, 1) := by decide +kernel
theorem dX12_read_38 : decode cX12_read 38 = .ok (.putfield 228, 3) := by decide +kernel
theorem dX12_read_41 : decode cX12_read 41 = .ok (.aload_n 0, 1) := by decide +kernel
theorem dX12_read_42 : decode cX12_read 42 = .ok (.iconst (-1), 1) := by decide +kernel
theorem dX12_read_43 : decode cX12_read 43 = .ok (.putfield 235, 3) := by decide +kernel
theorem dX12_read_46 : decode cX12_read 46 = .ok (.aload_n 0, 1) := by decide +kernel
theorem dX12_read_47 : decode cX12_read 47 = .ok (.iconst 0, 1) := by decide +kernel
theorem dX12_read_48 : decode cX12_read 48 = .ok (.putfield 244, 3) := by decide +kernel
theorem dX12_read_51 : decode cX12_read 51 = .ok (.aload_n 0, 1) := by decide +kernel
theorem dX12_read_52 : decode cX12_read 52 = .ok (.iconst (-1), 1) := by decide +kernel
theorem dX12_read_53 : decode cX12_read 53 = .ok (.putfield 81, 3) := by decide +kernel
theorem dX12_read_56 : decode cX12_read 56 = .ok (.aload_n 0, 1) := by decide +kernel
theorem dX12_read_57 : decode cX12_read 57 = .ok (.iconst (-1), 1) := by decide +kernel
theorem dX12_read_58 : decode cX12_read 58 = .ok (.putfield 85, 3) := by decide +kernel
theorem dX12_read_61 : decode cX12_read 61 = .ok (.aload_n 0, 1) := by decide +kernel
theorem dX12_read_62 : decode cX12_read 62 = .ok (.iconst 0, 1) := by decide +kernel
theorem dX12_read_63 : decode cX12_read 63 = .ok (.putfield 238, 3) := by decide +kernel
theorem dX12_read_66 : decode cX12_read 66 = .ok (.aload_n 0, 1) := by decide +kernel
theorem dX12_read_67 : decode cX12_read 67 = .ok (.iconst (-1), 1) := by decide +kernel
theorem dX12_read_68 : decode cX12_read 68 = .ok (.putfield 88, 3) := by decide +kernel
theorem dX12_read_71 : decode cX12_read 71 = .ok (.aload_n 0, 1) := by decide +kernel
theorem dX12_read_72 : decode cX12_read 72 = .ok (.lconst 0, 1) := by decide +kernel
theorem dX12_read_73 : decode cX12_read 73 = .ok (.putfield 251, 3) := by decide +kernel
theorem dX12_read_76 : decode cX12_read 76 = .ok (.aload_n 0, 1) := by decide +kernel
theorem dX12_read_77 : decode cX12_read 77 = .ok (.iconst 1, 1) := by decide +kernel
theorem dX12_read_78 : decode cX12_read 78 = .ok (.iconst 1, 1) := by decide +kernel
theorem dX12_read_79 : decode cX12_read 79 = .ok (.invokevirtual 247, 3) := by decide +kernel
theorem dX12_read_82 : decode cX12_read 82 = .ok (.iconst 1, 1) := by decide +kernel
theorem dX12_read_83 : decode cX12_read 83 = .ok (.if_icmp .ne 9, 3) := by decide +kernel
theorem dX12_read_86 : decode cX12_read 86 = .ok (.aload_n 0, 1) := by decide +kernel
theorem dX12_read_87 : decode cX12_read 87 = .ok (.iconst 1, 1) := by decide +kernel
theorem dX12_read_88 : decode cX12_read 88 = .ok (.iload_n 1, 1) := by decide +kernel
theorem dX12_read_89 : decode cX12_read 89 = .ok (.invokevirtual 231, 3) := by decide +kernel
theorem dX12_read_92 : decode cX12_read 92 = .ok (.aload_n 0, 1) := by decide +kernel
theorem dX12_read_93 : decode cX12_read 93 = .ok (.getfield 222, 3) := by decide +kernel
theorem dX12_read_96 : decode cX12_read 96 = .ok (.ifCond .ne 7, 3) := by decide +kernel
theorem dX12_read_99 : decode cX12_read 99 = .ok (.aload_n 0, 1) := by decide +kernel
theorem dX12_read_100 : decode cX12_read 100 = .ok (.invokevirtual 258, 3) := by decide +kernel
theorem dX12_read_103 : decode cX12_read 103 = .ok (.aload_n 0, 1) := by decide +kernel
theorem dX12_read_104 : decode cX12_read 104 = .ok (.getfield 222, 3) := by decide +kernel
theorem dX12_read_107 : decode cX12_read 107 = .ok (.ifCond .ne 7, 3) := by decide +kernel
theorem dX12_read_110 : decode cX12_read 110 = .ok (.aload_n 0, 1) := by decide +kernel
theorem dX12_read_111 : decode cX12_read 111 = .ok (.invokevirtual 261, 3) := by decide +kernel
theorem dX12_read_114 : decode cX12_read 114 = .ok (.aload_n 0, 1) := by decide +kernel
theorem dX12_read_115 : decode cX12_read 115 = .ok (.getfield 244, 3) := by decide +kernel
theorem dX12_read_118 : decode cX12_read 118 = .ok (.istore_n 2, 1) := by decide +kernel
theorem dX12_read_119 : decode cX12_read 119 = .ok (.aload_n 0, 1) := by decide +kernel
theorem dX12_read_120 : decode cX12_read 120 = .ok (.getfield 222, 3) := by decide +kernel
theorem dX12_read_123 : decode cX12_read 123 = .ok (.ifCond .ne 46, 3) := by decide +kernel
theorem dX12_read_126 : decode cX12_read 126 = .ok (.aload_n 0, 1) := by decide +kernel
theorem dX12_read_127 : decode cX12_read 127 = .ok (.bipush 15, 2) := by decide +kernel
theorem dX12_read_129 : decode cX12_read 129 = .ok (.iconst 0, 1) := by decide +kernel
theorem dX12_read_130 : decode cX12_read 130 = .ok (.invokevirtual 247, 3) := by decide +kernel
theorem dX12_read_133 : decode cX12_read 133 = .ok (.istore_n 3, 1) := by decide +kernel
theorem dX12_read_134 : decode cX12_read 134 = .ok (.aload_n 0, 1) := by decide +kernel
theorem dX12_read_135 : decode cX12_read 135 = .ok (.getfield 222, 3) := by decide +kernel
theorem dX12_read_138 : decode cX12_read 138 = .ok (.ifCond .ne 8, 3) := by decide +kernel
theorem dX12_read_141 : decode cX12_read 141 = .ok (.aload_n 0, 1) := by decide +kernel
theorem dX12_read_142 : decode cX12_read 142 = .ok (.iload_n 3, 1) := by decide +kernel
theorem dX12_read_143 : decode cX12_read 143 = .ok (.putfield 88, 3) := by decide +kernel
theorem dX12_read_146 : decode cX12_read 146 = .ok (.aload_n 0, 1) := by decide +kernel
theorem dX12_read_147 : decode cX12_read 147 = .ok (.getfield 222, 3) := by decide +kernel
theorem dX12_read_150 : decode cX12_read 150 = .ok (.ifCond .ne 19, 3) := by decide +kernel
theorem dX12_read_153 : decode cX12_read 153 = .ok (.iload_n 3, 1) := by decide +kernel
theorem dX12_read_154 : decode cX12_read 154 = .ok (.iload_n 2, 1) := by decide +kernel
theorem dX12_read_155 : decode cX12_read 155 = .ok (.if_icmp .eq 14, 3) := by decide +kernel
theorem dX12_read_158 : decode cX12_read 158 = .ok (.aload_n 0, 1) := by decide +kernel
theorem dX12_read_159 : decode cX12_read 159 = .ok (.iconst 4, 1) := by decide +kernel
theorem dX12_read_160 : decode cX12_read 160 = .ok (.aload_n 0, 1) := by decide +kernel
theorem dX12_read_161 : decode cX12_read 161 = .ok (.getfield 225, 3) := by decide +kernel
theorem dX12_read_164 : decode cX12_read 164 = .ok (.iconst 1, 1) := by decide +kernel
theorem dX12_read_165 : decode cX12_read 165 = .ok (.isub, 1) := by decide +kernel
theorem dX12_read_166 : decode cX12_read 166 = .ok (.invokevirtual 231, 3) := by decide +kernel
theorem dX12_read_169 : decode cX12_read 169 = .ok (.aload_n 0, 1) := by decide +kernel
theorem dX12_read_170 : decode cX12_read 170 = .ok (.invokevirtual 241, 3) := by decide +kernel
theorem dX12_read_173 : decode cX12_read 173 = .ok (.aload_n 0, 1) := by decide +kernel
theorem dX12_read_174 : decode cX12_read 174 = .ok (.getfield 222, 3) := by decide +kernel
theorem dX12_read_177 : decode cX12_read 177 = .ok (.ifCond .ne 7, 3) := by decide +kernel
theorem dX12_read_180 : decode cX12_read 180 = .ok (.aload_n 0, 1) := by decide +kernel
theorem dX12_read_181 : decode cX12_read 181 = .ok (.invokevirtual 264, 3) := by decide +kernel
theorem dX12_read_184 : decode cX12_read 184 = .ok (.aload_n 0, 1) := by decide +kernel
theorem dX12_read_185 : decode cX12_read 185 = .ok (.getfield 222, 3) := by decide +kernel
theorem dX12_read_188 : decode cX12_read 188 = .ok (.ireturn, 1) := by decide +kernel
theorem dX12_told_0 : decode cX12_told 0 = .ok (.iload_n 1, 1) := by decide +kernel
theorem dX12_told_1 : decode cX12_told 1 = .ok (.i2l, 1) := by decide +kernel
theorem dX12_told_2 : decode cX12_told 2 = .ok (.lconst 0, 1) := by decide +kernel
theorem dX12_told_3 : decode cX12_told 3 = .ok (.ldc2_w 267, 3) := by decide +kernel
theorem dX12_told_6 : decode cX12_told 6 = .ok (.invokestatic 138, 3) := by decide +kernel
theorem dX12_told_9 : decode cX12_told 9 = .ok (.ifCond .ne 10, 3) := by decide +kernel
theorem dX12_told_12 : decode cX12_told 12 = .ok (.aload_n 0, 1) := by decide +kernel
