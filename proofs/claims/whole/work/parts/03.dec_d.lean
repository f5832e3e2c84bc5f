theorem dX12_by_73 : decode cX12_by 73 = .ok (.ireturn, 1) := by decide +kernel
theorem dX12_layFewest_0 : decode cX12_layFewest 0 = .ok (.aload_n 0, 1) := by decide +kernel
theorem dX12_layFewest_1 : decode cX12_layFewest 1 = .ok (.iconst (-1), 1) := by decide +kernel
theorem dX12_layFewest_2 : decode cX12_layFewest 2 = .ok (.putfield 204, 3) := by decide +kernel
theorem dX12_layFewest_5 : decode cX12_layFewest 5 = .ok (.aload_n 0, 1) := by decide +kernel
theorem dX12_layFewest_6 : decode cX12_layFewest 6 = .ok (.iconst (-1), 1) := by decide +kernel
theorem dX12_layFewest_7 : decode cX12_layFewest 7 = .ok (.putfield 207, 3) := by decide +kernel
theorem dX12_layFewest_10 : decode cX12_layFewest 10 = .ok (.iconst 0, 1) := by decide +kernel
theorem dX12_layFewest_11 : decode cX12_layFewest 11 = .ok (.istore_n 1, 1) := by decide +kernel
theorem dX12_layFewest_12 : decode cX12_layFewest 12 = .ok (.iload_n 1, 1) := by decide +kernel
theorem dX12_layFewest_13 : decode cX12_layFewest 13 = .ok (.iconst 1, 1) := by decide +kernel
theorem dX12_layFewest_14 : decode cX12_layFewest 14 = .ok (.aload_n 0, 1) := by decide +kernel
theorem dX12_layFewest_15 : decode cX12_layFewest 15 = .ok (.getfield 193, 3) := by decide +kernel
theorem dX12_layFewest_18 : decode cX12_layFewest 18 = .ok (.ishl, 1) := by decide +kernel
theorem dX12_layFewest_19 : decode cX12_layFewest 19 = .ok (.if_icmp .ge 99, 3) := by decide +kernel
theorem dX12_layFewest_22 : decode cX12_layFewest 22 = .ok (.aload_n 0, 1) := by decide +kernel
theorem dX12_layFewest_23 : decode cX12_layFewest 23 = .ok (.iload_n 1, 1) := by decide +kernel
theorem dX12_layFewest_24 : decode cX12_layFewest 24 = .ok (.invokevirtual 201, 3) := by decide +kernel
theorem dX12_layFewest_27 : decode cX12_layFewest 27 = .ok (.ifCond .eq 85, 3) := by decide +kernel
theorem dX12_layFewest_30 : decode cX12_layFewest 30 = .ok (.aload_n 0, 1) := by decide +kernel
theorem dX12_layFewest_31 : decode cX12_layFewest 31 = .ok (.iload_n 1, 1) := by decide +kernel
theorem dX12_layFewest_32 : decode cX12_layFewest 32 = .ok (.invokevirtual 210, 3) := by decide +kernel
theorem dX12_layFewest_35 : decode cX12_layFewest 35 = .ok (.istore_n 2, 1) := by decide +kernel
theorem dX12_layFewest_36 : decode cX12_layFewest 36 = .ok (.aload_n 0, 1) := by decide +kernel
theorem dX12_layFewest_37 : decode cX12_layFewest 37 = .ok (.getfield 204, 3) := by decide +kernel
theorem dX12_layFewest_40 : decode cX12_layFewest 40 = .ok (.iconst (-1), 1) := by decide +kernel
theorem dX12_layFewest_41 : decode cX12_layFewest 41 = .ok (.if_icmp .eq 33, 3) := by decide +kernel
theorem dX12_layFewest_44 : decode cX12_layFewest 44 = .ok (.iload_n 2, 1) := by decide +kernel
theorem dX12_layFewest_45 : decode cX12_layFewest 45 = .ok (.aload_n 0, 1) := by decide +kernel
theorem dX12_layFewest_46 : decode cX12_layFewest 46 = .ok (.getfield 204, 3) := by decide +kernel
theorem dX12_layFewest_49 : decode cX12_layFewest 49 = .ok (.if_icmp .lt 25, 3) := by decide +kernel
theorem dX12_layFewest_52 : decode cX12_layFewest 52 = .ok (.iload_n 2, 1) := by decide +kernel
theorem dX12_layFewest_53 : decode cX12_layFewest 53 = .ok (.aload_n 0, 1) := by decide +kernel
theorem dX12_layFewest_54 : decode cX12_layFewest 54 = .ok (.getfield 204, 3) := by decide +kernel
theorem dX12_layFewest_57 : decode cX12_layFewest 57 = .ok (.if_icmp .ne 21, 3) := by decide +kernel
theorem dX12_layFewest_60 : decode cX12_layFewest 60 = .ok (.iload_n 1, 1) := by decide +kernel
theorem dX12_layFewest_61 : decode cX12_layFewest 61 = .ok (.invokestatic 198, 3) := by decide +kernel
theorem dX12_layFewest_64 : decode cX12_layFewest 64 = .ok (.aload_n 0, 1) := by decide +kernel
theorem dX12_layFewest_65 : decode cX12_layFewest 65 = .ok (.getfield 207, 3) := by decide +kernel
theorem dX12_layFewest_68 : decode cX12_layFewest 68 = .ok (.invokestatic 198, 3) := by decide +kernel
theorem dX12_layFewest_71 : decode cX12_layFewest 71 = .ok (.if_icmp .le 7, 3) := by decide +kernel
theorem dX12_layFewest_74 : decode cX12_layFewest 74 = .ok (.iconst 1, 1) := by decide +kernel
theorem dX12_layFewest_75 : decode cX12_layFewest 75 = .ok (.goto 4, 3) := by decide +kernel
theorem dX12_layFewest_78 : decode cX12_layFewest 78 = .ok (.iconst 0, 1) := by decide +kernel
theorem dX12_layFewest_79 : decode cX12_layFewest 79 = .ok (.istore_n 3, 1) := by decide +kernel
theorem dX12_layFewest_80 : decode cX12_layFewest 80 = .ok (.aload_n 0, 1) := by decide +kernel
theorem dX12_layFewest_81 : decode cX12_layFewest 81 = .ok (.iload_n 3, 1) := by decide +kernel
theorem dX12_layFewest_82 : decode cX12_layFewest 82 = .ok (.ifCond .eq 7, 3) := by decide +kernel
theorem dX12_layFewest_85 : decode cX12_layFewest 85 = .ok (.iload_n 2, 1) := by decide +kernel
theorem dX12_layFewest_86 : decode cX12_layFewest 86 = .ok (.goto 7, 3) := by decide +kernel
theorem dX12_layFewest_89 : decode cX12_layFewest 89 = .ok (.aload_n 0, 1) := by decide +kernel
theorem dX12_layFewest_90 : decode cX12_layFewest 90 = .ok (.getfield 204, 3) := by decide +kernel
theorem dX12_layFewest_93 : decode cX12_layFewest 93 = .ok (.putfield 204, 3) := by decide +kernel
theorem dX12_layFewest_96 : decode cX12_layFewest 96 = .ok (.aload_n 0, 1) := by decide +kernel
theorem dX12_layFewest_97 : decode cX12_layFewest 97 = .ok (.iload_n 3, 1) := by decide +kernel
theorem dX12_layFewest_98 : decode cX12_layFewest 98 = .ok (.ifCond .eq 7, 3) := by decide +kernel
theorem dX12_layFewest_101 : decode cX12_layFewest 101 = .ok (.iload_n 1, 1) := by decide +kernel
theorem dX12_layFewest_102 : decode cX12_layFewest 102 = .ok (.goto 7, 3) := by decide +kernel
theorem dX12_layFewest_105 : decode cX12_layFewest 105 = .ok (.aload_n 0, 1) := by decide +kernel
theorem dX12_layFewest_106 : decode cX12_layFewest 106 = .ok (.getfield 207, 3) := by decide +kernel
theorem dX12_layFewest_109 : decode cX12_layFewest 109 = .ok (.putfield 207, 3) := by decide +kernel
theorem dX12_layFewest_112 : decode cX12_layFewest 112 = .ok (.iinc 1 1, 3) := by decide +kernel
theorem dX12_layFewest_115 : decode cX12_layFewest 115 = .ok (.goto (-103), 3) := by decide +kernel
theorem dX12_layFewest_118 : decode cX12_layFewest 118 = .ok (.return_, 1) := by decide +kernel
theorem dX12_lies_0 : decode cX12_lies 0 = .ok (.iload_n 1, 1) := by decide +kernel
theorem dX12_lies_1 : decode cX12_lies 1 = .ok (.i2l, 1) := by decide +kernel
theorem dX12_lies_2 : decode cX12_lies 2 = .ok (.lconst 0, 1) := by decide +kernel
theorem dX12_lies_3 : decode cX12_lies 3 = .ok (.lconst 1, 1) := by decide +kernel
theorem dX12_lies_4 : decode cX12_lies 4 = .ok (.invokestatic 93, 3) := by decide +kernel
theorem dX12_lies_7 : decode cX12_lies 7 = .ok (.ifCond .ne 6, 3) := by decide +kernel
theorem dX12_lies_10 : decode cX12_lies 10 = .ok (.bipush (-102), 2) := by decide +kernel
theorem dX12_lies_12 : decode cX12_lies 12 = .ok (.ireturn, 1) := by decide +kernel
theorem dX12_lies_13 : decode cX12_lies 13 = .ok (.aload_n 0, 1) := by decide +kernel
theorem dX12_lies_14 : decode cX12_lies 14 = .ok (.invokevirtual 213, 3) := by decide +kernel
theorem dX12_lies_17 : decode cX12_lies 17 = .ok (.iload_n 1, 1) := by decide +kernel
theorem dX12_lies_18 : decode cX12_lies 18 = .ok (.ifCond .ne 10, 3) := by decide +kernel
theorem dX12_lies_21 : decode cX12_lies 21 = .ok (.aload_n 0, 1) := by decide +kernel
theorem dX12_lies_22 : decode cX12_lies 22 = .ok (.getfield 204, 3) := by decide +kernel
theorem dX12_lies_25 : decode cX12_lies 25 = .ok (.goto 7, 3) := by decide +kernel
theorem dX12_lies_28 : decode cX12_lies 28 = .ok (.aload_n 0, 1) := by decide +kernel
theorem dX12_lies_29 : decode cX12_lies 29 = .ok (.getfield 207, 3) := by decide +kernel
theorem dX12_lies_32 : decode cX12_lies 32 = .ok (.ireturn, 1) := by decide +kernel
theorem dX12_most_0 : decode cX12_most 0 = .ok (.aload_n 0, 1) := by decide +kernel
theorem dX12_most_1 : decode cX12_most 1 = .ok (.iload_n 1, 1) := by decide +kernel
theorem dX12_most_2 : decode cX12_most 2 = .ok (.invokevirtual 140, 3) := by decide +kernel
theorem dX12_most_5 : decode cX12_most 5 = .ok (.ifCond .ne 6, 3) := by decide +kernel
theorem dX12_most_8 : decode cX12_most 8 = .ok (.bipush (-101), 2) := by decide +kernel
theorem dX12_most_10 : decode cX12_most 10 = .ok (.ireturn, 1) := by decide +kernel
theorem dX12_most_11 : decode cX12_most 11 = .ok (.iload_n 2, 1) := by decide +kernel
theorem dX12_most_12 : decode cX12_most 12 = .ok (.i2l, 1) := by decide +kernel
theorem dX12_most_13 : decode cX12_most 13 = .ok (.lconst 0, 1) := by decide +kernel
theorem dX12_most_14 : decode cX12_most 14 = .ok (.ldc2_w 216, 3) := by decide +kernel
theorem dX12_most_17 : decode cX12_most 17 = .ok (.invokestatic 93, 3) := by decide +kernel
theorem dX12_most_20 : decode cX12_most 20 = .ok (.ifCond .ne 6, 3) := by decide +kernel
theorem dX12_most_23 : decode cX12_most 23 = .ok (.bipush (-102), 2) := by decide +kernel
theorem dX12_most_25 : decode cX12_most 25 = .ok (.ireturn, 1) := by decide +kernel
theorem dX12_most_26 : decode cX12_most 26 = .ok (.iconst (-1), 1) := by decide +kernel
theorem dX12_most_27 : decode cX12_most 27 = .ok (.istore_n 3, 1) := by decide +kernel
theorem dX12_most_28 : decode cX12_most 28 = .ok (.iconst 0, 1) := by decide +kernel
theorem dX12_most_29 : decode cX12_most 29 = .ok (.istore 4, 2) := by decide +kernel
theorem dX12_most_31 : decode cX12_most 31 = .ok (.iload 4, 2) := by decide +kernel
theorem dX12_most_33 : decode cX12_most 33 = .ok (.iconst 1, 1) := by decide +kernel
theorem dX12_most_34 : decode cX12_most 34 = .ok (.aload_n 0, 1) := by decide +kernel
theorem dX12_most_35 : decode cX12_most 35 = .ok (.getfield 193, 3) := by decide +kernel
theorem dX12_most_38 : decode cX12_most 38 = .ok (.ishl, 1) := by decide +kernel
theorem dX12_most_39 : decode cX12_most 39 = .ok (.if_icmp .ge 49, 3) := by decide +kernel
theorem dX12_most_42 : decode cX12_most 42 = .ok (.aload_n 0, 1) := by decide +kernel
theorem dX12_most_43 : decode cX12_most 43 = .ok (.iload 4, 2) := by decide +kernel
theorem dX12_most_45 : decode cX12_most 45 = .ok (.invokevirtual 201, 3) := by decide +kernel
theorem dX12_most_48 : decode cX12_most 48 = .ok (.ifCond .eq 34, 3) := by decide +kernel
theorem dX12_most_51 : decode cX12_most 51 = .ok (.aload_n 0, 1) := by decide +kernel
theorem dX12_most_52 : decode cX12_most 52 = .ok (.iload 4, 2) := by decide +kernel
theorem dX12_most_54 : decode cX12_most 54 = .ok (.invokevirtual 210, 3) := by decide +kernel
theorem dX12_most_57 : decode cX12_most 57 = .ok (.iload_n 2, 1) := by decide +kernel
theorem dX12_most_58 : decode cX12_most 58 = .ok (.if_icmp .gt 24, 3) := by decide +kernel
theorem dX12_most_61 : decode cX12_most 61 = .ok (.aload_n 0, 1) := by decide +kernel
theorem dX12_most_62 : decode cX12_most 62 = .ok (.getfield 59, 3) := by decide +kernel
theorem dX12_most_65 : decode cX12_most 65 = .ok (.iload_n 1, 1) := by decide +kernel
theorem dX12_most_66 : decode cX12_most 66 = .ok (.iaload, 1) := by decide +kernel
theorem dX12_most_67 : decode cX12_most 67 = .ok (.iload_n 3, 1) := by decide +kernel
theorem dX12_most_68 : decode cX12_most 68 = .ok (.if_icmp .le 12, 3) := by decide +kernel
theorem dX12_most_71 : decode cX12_most 71 = .ok (.aload_n 0, 1) := by decide +kernel
theorem dX12_most_72 : decode cX12_most 72 = .ok (.getfield 59, 3) := by decide +kernel
theorem dX12_most_75 : decode cX12_most 75 = .ok (.iload_n 1, 1) := by decide +kernel
theorem dX12_most_76 : decode cX12_most 76 = .ok (.iaload, 1) := by decide +kernel
theorem dX12_most_77 : decode cX12_most 77 = .ok (.goto 4, 3) := by decide +kernel
theorem dX12_most_80 : decode cX12_most 80 = .ok (.iload_n 3, 1) := by decide +kernel
theorem dX12_most_81 : decode cX12_most 81 = .ok (.istore_n 3, 1) := by decide +kernel
theorem dX12_most_82 : decode cX12_most 82 = .ok (.iinc 4 1, 3) := by decide +kernel
theorem dX12_most_85 : decode cX12_most 85 = .ok (.goto (-54), 3) := by decide +kernel
theorem dX12_most_88 : decode cX12_most 88 = .ok (.iload_n 3, 1) := by decide +kernel
theorem dX12_most_89 : decode cX12_most 89 = .ok (.ireturn, 1) := by decide +kernel
theorem dX12_whose_0 : decode cX12_whose 0 = .ok (.iload_n 1, 1) := by decide +kernel
theorem dX12_whose_1 : decode cX12_whose 1 = .ok (.i2l, 1) := by decide +kernel
theorem dX12_whose_2 : decode cX12_whose 2 = .ok (.lconst 0, 1) := by decide +kernel
theorem dX12_whose_3 : decode cX12_whose 3 = .ok (.aload_n 0, 1) := by decide +kernel
theorem dX12_whose_4 : decode cX12_whose 4 = .ok (.getfield 193, 3) := by decide +kernel
theorem dX12_whose_7 : decode cX12_whose 7 = .ok (.iconst 1, 1) := by decide +kernel
theorem dX12_whose_8 : decode cX12_whose 8 = .ok (.isub, 1) := by decide +kernel
theorem dX12_whose_9 : decode cX12_whose 9 = .ok (.i2l, 1) := by decide +kernel
theorem dX12_whose_10 : decode cX12_whose 10 = .ok (.invokestatic 93, 3) := by decide +kernel
theorem dX12_whose_13 : decode cX12_whose 13 = .ok (.ifCond .ne 6, 3) := by decide +kernel
theorem dX12_whose_16 : decode cX12_whose 16 = .ok (.bipush (-101), 2) := by decide +kernel
theorem dX12_whose_18 : decode cX12_whose 18 = .ok (.ireturn, 1) := by decide +kernel
theorem dX12_whose_19 : decode cX12_whose 19 = .ok (.aload_n 0, 1) := by decide +kernel
theorem dX12_whose_20 : decode cX12_whose 20 = .ok (.invokevirtual 213, 3) := by decide +kernel
theorem dX12_whose_23 : decode cX12_whose 23 = .ok (.iconst 0, 1) := by decide +kernel
theorem dX12_whose_24 : decode cX12_whose 24 = .ok (.istore_n 2, 1) := by decide +kernel
theorem dX12_whose_25 : decode cX12_whose 25 = .ok (.iconst 0, 1) := by decide +kernel
theorem dX12_whose_26 : decode cX12_whose 26 = .ok (.istore_n 3, 1) := by decide +kernel
theorem dX12_whose_27 : decode cX12_whose 27 = .ok (.iload_n 3, 1) := by decide +kernel
theorem dX12_whose_28 : decode cX12_whose 28 = .ok (.iconst 1, 1) := by decide +kernel
theorem dX12_whose_29 : decode cX12_whose 29 = .ok (.aload_n 0, 1) := by decide +kernel
theorem dX12_whose_30 : decode cX12_whose 30 = .ok (.getfield 193, 3) := by decide +kernel
theorem dX12_whose_33 : decode cX12_whose 33 = .ok (.ishl, 1) := by decide +kernel
theorem dX12_whose_34 : decode cX12_whose 34 = .ok (.if_icmp .ge 45, 3) := by decide +kernel
theorem dX12_whose_37 : decode cX12_whose 37 = .ok (.iload_n 2, 1) := by decide +kernel
theorem dX12_whose_38 : decode cX12_whose 38 = .ok (.iload_n 3, 1) := by decide +kernel
theorem dX12_whose_39 : decode cX12_whose 39 = .ok (.iload_n 1, 1) := by decide +kernel
theorem dX12_whose_40 : decode cX12_whose 40 = .ok (.ishr, 1) := by decide +kernel
theorem dX12_whose_41 : decode cX12_whose 41 = .ok (.iconst 1, 1) := by decide +kernel
theorem dX12_whose_42 : decode cX12_whose 42 = .ok (.iand, 1) := by decide +kernel
theorem dX12_whose_43 : decode cX12_whose 43 = .ok (.ifCond .ne 27, 3) := by decide +kernel
theorem dX12_whose_46 : decode cX12_whose 46 = .ok (.aload_n 0, 1) := by decide +kernel
theorem dX12_whose_47 : decode cX12_whose 47 = .ok (.iload_n 3, 1) := by decide +kernel
theorem dX12_whose_48 : decode cX12_whose 48 = .ok (.invokevirtual 201, 3) := by decide +kernel
theorem dX12_whose_51 : decode cX12_whose 51 = .ok (.ifCond .eq 19, 3) := by decide +kernel
theorem dX12_whose_54 : decode cX12_whose 54 = .ok (.aload_n 0, 1) := by decide +kernel
theorem dX12_whose_55 : decode cX12_whose 55 = .ok (.iload_n 3, 1) := by decide +kernel
theorem dX12_whose_56 : decode cX12_whose 56 = .ok (.invokevirtual 210, 3) := by decide +kernel
theorem dX12_whose_59 : decode cX12_whose 59 = .ok (.aload_n 0, 1) := by decide +kernel
theorem dX12_whose_60 : decode cX12_whose 60 = .ok (.getfield 204, 3) := by decide +kernel
theorem dX12_whose_63 : decode cX12_whose 63 = .ok (.if_icmp .ne 7, 3) := by decide +kernel
theorem dX12_whose_66 : decode cX12_whose 66 = .ok (.iconst 1, 1) := by decide +kernel
theorem dX12_whose_67 : decode cX12_whose 67 = .ok (.goto 4, 3) := by decide +kernel
theorem dX12_whose_70 : decode cX12_whose 70 = .ok (.iconst 0, 1) := by decide +kernel
theorem dX12_whose_71 : decode cX12_whose 71 = .ok (.iadd, 1) := by decide +kernel
theorem dX12_whose_72 : decode cX12_whose 72 = .ok (.istore_n 2, 1) := by decide +kernel
theorem dX12_whose_73 : decode cX12_whose 73 = .ok (.iinc 3 1, 3) := by decide +kernel
theorem dX12_whose_76 : decode cX12_whose 76 = .ok (.goto (-49), 3) := by decide +kernel
theorem dX12_whose_79 : decode cX12_whose 79 = .ok (.iload_n 2, 1) := by decide +kernel
theorem dX12_whose_80 : decode cX12_whose 80 = .ok (.ireturn, 1) := by decide +kernel
theorem dX12_whole_0 : decode cX12_whole 0 = .ok (.iload_n 2, 1) := by decide +kernel
theorem dX12_whole_1 : decode cX12_whole 1 = .ok (.istore 4, 2) := by decide +kernel
theorem dX12_whole_3 : decode cX12_whole 3 = .ok (.iconst 0, 1) := by decide +kernel
theorem dX12_whole_4 : decode cX12_whole 4 = .ok (.istore 5, 2) := by decide +kernel
theorem dX12_whole_6 : decode cX12_whole 6 = .ok (.iload 5, 2) := by decide +kernel
theorem dX12_whole_8 : decode cX12_whole 8 = .ok (.aload_n 0, 1) := by decide +kernel
theorem dX12_whole_9 : decode cX12_whole 9 = .ok (.getfield 218, 3) := by decide +kernel
theorem dX12_whole_12 : decode cX12_whole 12 = .ok (.if_icmp .ge 35, 3) := by decide +kernel
theorem dX12_whole_15 : decode cX12_whole 15 = .ok (.iload_n 1, 1) := by decide +kernel
theorem dX12_whole_16 : decode cX12_whole 16 = .ok (.iload 5, 2) := by decide +kernel
theorem dX12_whole_18 : decode cX12_whole 18 = .ok (.ishr, 1) := by decide +kernel
theorem dX12_whole_19 : decode cX12_whole 19 = .ok (.iconst 1, 1) := by decide +kernel
theorem dX12_whole_20 : decode cX12_whole 20 = .ok (.iand, 1) := by decide +kernel
theorem dX12_whole_21 : decode cX12_whole 21 = .ok (.ifCond .ne 20, 3) := by decide +kernel
theorem dX12_whole_24 : decode cX12_whole 24 = .ok (.iload 5, 2) := by decide +kernel
theorem dX12_whole_26 : decode cX12_whole 26 = .ok (.iload_n 3, 1) := by decide +kernel
theorem dX12_whole_27 : decode cX12_whole 27 = .ok (.if_icmp .eq 14, 3) := by decide +kernel
theorem dX12_whole_30 : decode cX12_whole 30 = .ok (.iload 4, 2) := by decide +kernel
theorem dX12_whole_32 : decode cX12_whole 32 = .ok (.ifCond .ne 6, 3) := by decide +kernel
theorem dX12_whole_35 : decode cX12_whole 35 = .ok (.iload 5, 2) := by decide +kernel
theorem dX12_whole_37 : decode cX12_whole 37 = .ok (.ireturn, 1) := by decide +kernel
theorem dX12_whole_38 : decode cX12_whole 38 = .ok (.iinc 4 (-1), 3) := by decide +kernel
theorem dX12_whole_41 : decode cX12_whole 41 = .ok (.iinc 5 1, 3) := by decide +kernel
theorem dX12_whole_44 : decode cX12_whole 44 = .ok (.goto (-38), 3) := by decide +kernel
theorem dX12_whole_47 : decode cX12_whole 47 = .ok (.iconst (-1), 1) := by decide +kernel
theorem dX12_whole_48 : decode cX12_whole 48 = .ok (.ireturn, 1) := by decide +kernel
theorem dX12_narrow_0 : decode cX12_narrow 0 = .ok (.iload_n 0, 1) := by decide +kernel
theorem dX12_narrow_1 : decode cX12_narrow 1 = .ok (.bipush 62, 2) := by decide +kernel
theorem dX12_narrow_3 : decode cX12_narrow 3 = .ok (.if_icmp .ge 7, 3) := by decide +kernel
theorem dX12_narrow_6 : decode cX12_narrow 6 = .ok (.iload_n 0, 1) := by decide +kernel
theorem dX12_narrow_7 : decode cX12_narrow 7 = .ok (.goto 5, 3) := by decide +kernel
theorem dX12_narrow_10 : decode cX12_narrow 10 = .ok (.bipush 62, 2) := by decide +kernel
theorem dX12_narrow_12 : decode cX12_narrow 12 = .ok (.ireturn, 1) := by decide +kernel
theorem dX12_reached_0 : decode cX12_reached 0 = .ok (.iload_n 1, 1) := by decide +kernel
theorem dX12_reached_1 : decode cX12_reached 1 = .ok (.istore_n 2, 1) := by decide +kernel
theorem dX12_reached_2 : decode cX12_reached 2 = .ok (.iconst 0, 1) := by decide +kernel
theorem dX12_reached_3 : decode cX12_reached 3 = .ok (.istore_n 3, 1) := by decide +kernel
theorem dX12_reached_4 : decode cX12_reached 4 = .ok (.iconst 0, 1) := by decide +kernel
theorem dX12_reached_5 : decode cX12_reached 5 = .ok (.istore 4, 2) := by decide +kernel
theorem dX12_reached_7 : decode cX12_reached 7 = .ok (.iload 4, 2) := by decide +kernel
theorem dX12_reached_9 : decode cX12_reached 9 = .ok (.aload_n 0, 1) := by decide +kernel
theorem dX12_reached_10 : decode cX12_reached 10 = .ok (.getfield 218, 3) := by decide +kernel
theorem dX12_reached_13 : decode cX12_reached 13 = .ok (.if_icmp .ge 31, 3) := by decide +kernel
theorem dX12_reached_16 : decode cX12_reached 16 = .ok (.aload_n 0, 1) := by decide +kernel
theorem dX12_reached_17 : decode cX12_reached 17 = .ok (.getfield 59, 3) := by decide +kernel
theorem dX12_reached_20 : decode cX12_reached 20 = .ok (.iload 4, 2) := by decide +kernel
theorem dX12_reached_22 : decode cX12_reached 22 = .ok (.aload_n 0, 1) := by decide +kernel
theorem dX12_reached_23 : decode cX12_reached 23 = .ok (.getfield 34, 3) := by decide +kernel
theorem dX12_reached_26 : decode cX12_reached 26 = .ok (.aload_n 0, 1) := by decide +kernel
theorem dX12_reached_27 : decode cX12_reached 27 = .ok (.getfield 62, 3) := by decide +kernel
theorem dX12_reached_30 : decode cX12_reached 30 = .ok (.iload 4, 2) := by decide +kernel
theorem dX12_reached_32 : decode cX12_reached 32 = .ok (.iaload, 1) := by decide +kernel
theorem dX12_reached_33 : decode cX12_reached 33 = .ok (.iaload, 1) := by decide +kernel
theorem dX12_reached_34 : decode cX12_reached 34 = .ok (.invokestatic 221, 3) := by decide +kernel
theorem dX12_reached_37 : decode cX12_reached 37 = .ok (.iastore, 1) := by decide +kernel
theorem dX12_reached_38 : decode cX12_reached 38 = .ok (.iinc 4 1, 3) := by decide +kernel
theorem dX12_reached_41 : decode cX12_reached 41 = .ok (.goto (-34), 3) := by decide +kernel
theorem dX12_reached_44 : decode cX12_reached 44 = .ok (.aload_n 0, 1) := by decide +kernel
theorem dX12_reached_45 : decode cX12_reached 45 = .ok (.getfield 218, 3) := by decide +kernel
theorem dX12_reached_48 : decode cX12_reached 48 = .ok (.iconst 1, 1) := by decide +kernel
theorem dX12_reached_49 : decode cX12_reached 49 = .ok (.isub, 1) := by decide +kernel
theorem dX12_reached_50 : decode cX12_reached 50 = .ok (.istore 4, 2) := by decide +kernel
theorem dX12_reached_52 : decode cX12_reached 52 = .ok (.iload 4, 2) := by decide +kernel
theorem dX12_reached_54 : decode cX12_reached 54 = .ok (.ifCond .le 112, 3) := by decide +kernel
theorem dX12_reached_57 : decode cX12_reached 57 = .ok (.iload_n 2, 1) := by decide +kernel
theorem dX12_reached_58 : decode cX12_reached 58 = .ok (.iload 4, 2) := by decide +kernel
theorem dX12_reached_60 : decode cX12_reached 60 = .ok (.iload 4, 2) := by decide +kernel
theorem dX12_reached_62 : decode cX12_reached 62 = .ok (.imul, 1) := by decide +kernel
theorem dX12_reached_63 : decode cX12_reached 63 = .ok (.irem, 1) := by decide +kernel
theorem dX12_reached_64 : decode cX12_reached 64 = .ok (.istore 5, 2) := by decide +kernel
theorem dX12_reached_66 : decode cX12_reached 66 = .ok (.iload_n 2, 1) := by decide +kernel
theorem dX12_reached_67 : decode cX12_reached 67 = .ok (.iload 4, 2) := by decide +kernel
theorem dX12_reached_69 : decode cX12_reached 69 = .ok (.iload 4, 2) := by decide +kernel
theorem dX12_reached_71 : decode cX12_reached 71 = .ok (.imul, 1) := by decide +kernel
theorem dX12_reached_72 : decode cX12_reached 72 = .ok (.idiv, 1) := by decide +kernel
theorem dX12_reached_73 : decode cX12_reached 73 = .ok (.istore_n 2, 1) := by decide +kernel
theorem dX12_reached_74 : decode cX12_reached 74 = .ok (.aload_n 0, 1) := by decide +kernel
theorem dX12_reached_75 : decode cX12_reached 75 = .ok (.iload_n 3, 1) := by decide +kernel
theorem dX12_reached_76 : decode cX12_reached 76 = .ok (.iload 5, 2) := by decide +kernel
theorem dX12_reached_78 : decode cX12_reached 78 = .ok (.iload 4, 2) := by decide +kernel
theorem dX12_reached_80 : decode cX12_reached 80 = .ok (.idiv, 1) := by decide +kernel
theorem dX12_reached_81 : decode cX12_reached 81 = .ok (.iconst 0, 1) := by decide +kernel
theorem dX12_reached_82 : decode cX12_reached 82 = .ok (.invokevirtual 224, 3) := by decide +kernel
theorem dX12_reached_85 : decode cX12_reached 85 = .ok (.istore 6, 2) := by decide +kernel
theorem dX12_reached_87 : decode cX12_reached 87 = .ok (.aload_n 0, 1) := by decide +kernel
theorem dX12_reached_88 : decode cX12_reached 88 = .ok (.iload_n 3, 1) := by decide +kernel
theorem dX12_reached_89 : decode cX12_reached 89 = .ok (.iload 5, 2) := by decide +kernel
theorem dX12_reached_91 : decode cX12_reached 91 = .ok (.iload 4, 2) := by decide +kernel
theorem dX12_reached_93 : decode cX12_reached 93 = .ok (.irem, 1) := by decide +kernel
theorem dX12_reached_94 : decode cX12_reached 94 = .ok (.iload 6, 2) := by decide +kernel
theorem dX12_reached_96 : decode cX12_reached 96 = .ok (.invokevirtual 224, 3) := by decide +kernel
theorem dX12_reached_99 : decode cX12_reached 99 = .ok (.istore 7, 2) := by decide +kernel
theorem dX12_reached_101 : decode cX12_reached 101 = .ok (.aload_n 0, 1) := by decide +kernel
theorem dX12_reached_102 : decode cX12_reached 102 = .ok (.getfield 59, 3) := by decide +kernel
theorem dX12_reached_105 : decode cX12_reached 105 = .ok (.iload 7, 2) := by decide +kernel
theorem dX12_reached_107 : decode cX12_reached 107 = .ok (.aload_n 0, 1) := by decide +kernel
theorem dX12_reached_108 : decode cX12_reached 108 = .ok (.aload_n 0, 1) := by decide +kernel
theorem dX12_reached_109 : decode cX12_reached 109 = .ok (.getfield 28, 3) := by decide +kernel
theorem dX12_reached_112 : decode cX12_reached 112 = .ok (.aload_n 0, 1) := by decide +kernel
theorem dX12_reached_113 : decode cX12_reached 113 = .ok (.getfield 62, 3) := by decide +kernel
theorem dX12_reached_116 : decode cX12_reached 116 = .ok (.iload 7, 2) := by decide +kernel
theorem dX12_reached_118 : decode cX12_reached 118 = .ok (.iaload, 1) := by decide +kernel
theorem dX12_reached_119 : decode cX12_reached 119 = .ok (.iaload, 1) := by decide +kernel
theorem dX12_reached_120 : decode cX12_reached 120 = .ok (.aload_n 0, 1) := by decide +kernel
theorem dX12_reached_121 : decode cX12_reached 121 = .ok (.getfield 28, 3) := by decide +kernel
theorem dX12_reached_124 : decode cX12_reached 124 = .ok (.aload_n 0, 1) := by decide +kernel
theorem dX12_reached_125 : decode cX12_reached 125 = .ok (.getfield 62, 3) := by decide +kernel
theorem dX12_reached_128 : decode cX12_reached 128 = .ok (.iload 6, 2) := by decide +kernel
theorem dX12_reached_130 : decode cX12_reached 130 = .ok (.iaload, 1) := by decide +kernel
theorem dX12_reached_131 : decode cX12_reached 131 = .ok (.iaload, 1) := by decide +kernel
theorem dX12_reached_132 : decode cX12_reached 132 = .ok (.aload_n 0, 1) := by decide +kernel
theorem dX12_reached_133 : decode cX12_reached 133 = .ok (.getfield 59, 3) := by decide +kernel
theorem dX12_reached_136 : decode cX12_reached 136 = .ok (.iload 7, 2) := by decide +kernel
theorem dX12_reached_138 : decode cX12_reached 138 = .ok (.iaload, 1) := by decide +kernel
theorem dX12_reached_139 : decode cX12_reached 139 = .ok (.aload_n 0, 1) := by decide +kernel
theorem dX12_reached_140 : decode cX12_reached 140 = .ok (.getfield 59, 3) := by decide +kernel
theorem dX12_reached_143 : decode cX12_reached 143 = .ok (.iload 6, 2) := by decide +kernel
theorem dX12_reached_145 : decode cX12_reached 145 = .ok (.iaload, 1) := by decide +kernel
theorem dX12_reached_146 : decode cX12_reached 146 = .ok (.invokevirtual 151, 3) := by decide +kernel
theorem dX12_reached_149 : decode cX12_reached 149 = .ok (.invokestatic 221, 3) := by decide +kernel
theorem dX12_reached_152 : decode cX12_reached 152 = .ok (.iastore, 1) := by decide +kernel
theorem dX12_reached_153 : decode cX12_reached 153 = .ok (.iload_n 3, 1) := by decide +kernel
theorem dX12_reached_154 : decode cX12_reached 154 = .ok (.iconst 1, 1) := by decide +kernel
theorem dX12_reached_155 : decode cX12_reached 155 = .ok (.iload 6, 2) := by decide +kernel
theorem dX12_reached_157 : decode cX12_reached 157 = .ok (.ishl, 1) := by decide +kernel
theorem dX12_reached_158 : decode cX12_reached 158 = .ok (.ior, 1) := by decide +kernel
theorem dX12_reached_159 : decode cX12_reached 159 = .ok (.istore_n 3, 1) := by decide +kernel
theorem dX12_reached_160 : decode cX12_reached 160 = .ok (.iinc 4 (-1), 3) := by decide +kernel
theorem dX12_reached_163 : decode cX12_reached 163 = .ok (.goto (-111), 3) := by decide +kernel
theorem dX12_reached_166 : decode cX12_reached 166 = .ok (.aload_n 0, 1) := by decide +kernel
theorem dX12_reached_167 : decode cX12_reached 167 = .ok (.getfield 59, 3) := by decide +kernel
theorem dX12_reached_170 : decode cX12_reached 170 = .ok (.iconst 0, 1) := by decide +kernel
theorem dX12_reached_171 : decode cX12_reached 171 = .ok (.iaload, 1) := by decide +kernel
theorem dX12_reached_172 : decode cX12_reached 172 = .ok (.ireturn, 1) := by decide +kernel
theorem dX12_reach_0 : decode cX12_reach 0 = .ok (.aload_n 0, 1) := by decide +kernel
theorem dX12_reach_1 : decode cX12_reach 1 = .ok (.iload_n 1, 1) := by decide +kernel
theorem dX12_reach_2 : decode cX12_reach 2 = .ok (.invokevirtual 140, 3) := by decide +kernel
theorem dX12_reach_5 : decode cX12_reach 5 = .ok (.ifCond .ne 7, 3) := by decide +kernel
theorem dX12_reach_8 : decode cX12_reach 8 = .ok (.ldc2_w 227, 3) := by decide +kernel
theorem dX12_reach_11 : decode cX12_reach 11 = .ok (.lreturn, 1) := by decide +kernel
theorem dX12_reach_12 : decode cX12_reach 12 = .ok (.iload_n 2, 1) := by decide +kernel
theorem dX12_reach_13 : decode cX12_reach 13 = .ok (.i2l, 1) := by decide +kernel
theorem dX12_reach_14 : decode cX12_reach 14 = .ok (.lconst 0, 1) := by decide +kernel
theorem dX12_reach_15 : decode cX12_reach 15 = .ok (.iconst 1, 1) := by decide +kernel
theorem dX12_reach_16 : decode cX12_reach 16 = .ok (.aload_n 0, 1) := by decide +kernel
theorem dX12_reach_17 : decode cX12_reach 17 = .ok (.getfield 137, 3) := by decide +kernel
theorem dX12_reach_20 : decode cX12_reach 20 = .ok (.ishl, 1) := by decide +kernel
theorem dX12_reach_21 : decode cX12_reach 21 = .ok (.iconst 1, 1) := by decide +kernel
theorem dX12_reach_22 : decode cX12_reach 22 = .ok (.isub, 1) := by decide +kernel
theorem dX12_reach_23 : decode cX12_reach 23 = .ok (.i2l, 1) := by decide +kernel
theorem dX12_reach_24 : decode cX12_reach 24 = .ok (.invokestatic 93, 3) := by decide +kernel
theorem dX12_reach_27 : decode cX12_reach 27 = .ok (.ifCond .eq 20, 3) := by decide +kernel
theorem dX12_reach_30 : decode cX12_reach 30 = .ok (.iload_n 2, 1) := by decide +kernel
theorem dX12_reach_31 : decode cX12_reach 31 = .ok (.iload_n 1, 1) := by decide +kernel
theorem dX12_reach_32 : decode cX12_reach 32 = .ok (.ishr, 1) := by decide +kernel
theorem dX12_reach_33 : decode cX12_reach 33 = .ok (.iconst 1, 1) := by decide +kernel
theorem dX12_reach_34 : decode cX12_reach 34 = .ok (.iand, 1) := by decide +kernel
theorem dX12_reach_35 : decode cX12_reach 35 = .ok (.iconst 1, 1) := by decide +kernel
theorem dX12_reach_36 : decode cX12_reach 36 = .ok (.if_icmp .eq 11, 3) := by decide +kernel
theorem dX12_reach_39 : decode cX12_reach 39 = .ok (.iload_n 2, 1) := by decide +kernel
theorem dX12_reach_40 : decode cX12_reach 40 = .ok (.invokestatic 198, 3) := by decide +kernel
theorem dX12_reach_43 : decode cX12_reach 43 = .ok (.iconst 5, 1) := by decide +kernel
theorem dX12_reach_44 : decode cX12_reach 44 = .ok (.if_icmp .le 7, 3) := by decide +kernel
theorem dX12_reach_47 : decode cX12_reach 47 = .ok (.ldc2_w 229, 3) := by decide +kernel
theorem dX12_reach_50 : decode cX12_reach 50 = .ok (.lreturn, 1) := by decide +kernel
theorem dX12_reach_51 : decode cX12_reach 51 = .ok (.aload_n 0, 1) := by decide +kernel
theorem dX12_reach_52 : decode cX12_reach 52 = .ok (.getfield 62, 3) := by decide +kernel
theorem dX12_reach_55 : decode cX12_reach 55 = .ok (.iconst 0, 1) := by decide +kernel
theorem dX12_reach_56 : decode cX12_reach 56 = .ok (.iload_n 1, 1) := by decide +kernel
theorem dX12_reach_57 : decode cX12_reach 57 = .ok (.iastore, 1) := by decide +kernel
theorem dX12_reach_58 : decode cX12_reach 58 = .ok (.aload_n 0, 1) := by decide +kernel
theorem dX12_reach_59 : decode cX12_reach 59 = .ok (.iconst 1, 1) := by decide +kernel
theorem dX12_reach_60 : decode cX12_reach 60 = .ok (.putfield 218, 3) := by decide +kernel
theorem dX12_reach_63 : decode cX12_reach 63 = .ok (.iconst 1, 1) := by decide +kernel
theorem dX12_reach_64 : decode cX12_reach 64 = .ok (.istore_n 3, 1) := by decide +kernel
theorem dX12_reach_65 : decode cX12_reach 65 = .ok (.iconst 0, 1) := by decide +kernel
theorem dX12_reach_66 : decode cX12_reach 66 = .ok (.istore 4, 2) := by decide +kernel
theorem dX12_reach_68 : decode cX12_reach 68 = .ok (.iload 4, 2) := by decide +kernel
theorem dX12_reach_70 : decode cX12_reach 70 = .ok (.aload_n 0, 1) := by decide +kernel
theorem dX12_reach_71 : decode cX12_reach 71 = .ok (.getfield 137, 3) := by decide +kernel
theorem dX12_reach_74 : decode cX12_reach 74 = .ok (.if_icmp .ge 52, 3) := by decide +kernel
theorem dX12_reach_77 : decode cX12_reach 77 = .ok (.iload_n 2, 1) := by decide +kernel
theorem dX12_reach_78 : decode cX12_reach 78 = .ok (.iload 4, 2) := by decide +kernel
theorem dX12_reach_80 : decode cX12_reach 80 = .ok (.ishr, 1) := by decide +kernel
theorem dX12_reach_81 : decode cX12_reach 81 = .ok (.iconst 1, 1) := by decide +kernel
theorem dX12_reach_82 : decode cX12_reach 82 = .ok (.iand, 1) := by decide +kernel
theorem dX12_reach_83 : decode cX12_reach 83 = .ok (.iconst 1, 1) := by decide +kernel
theorem dX12_reach_84 : decode cX12_reach 84 = .ok (.if_icmp .ne 36, 3) := by decide +kernel
theorem dX12_reach_87 : decode cX12_reach 87 = .ok (.iload_n 3, 1) := by decide +kernel
theorem dX12_reach_88 : decode cX12_reach 88 = .ok (.aload_n 0, 1) := by decide +kernel
theorem dX12_reach_89 : decode cX12_reach 89 = .ok (.getfield 218, 3) := by decide +kernel
theorem dX12_reach_92 : decode cX12_reach 92 = .ok (.aload_n 0, 1) := by decide +kernel
theorem dX12_reach_93 : decode cX12_reach 93 = .ok (.getfield 218, 3) := by decide +kernel
theorem dX12_reach_96 : decode cX12_reach 96 = .ok (.imul, 1) := by decide +kernel
theorem dX12_reach_97 : decode cX12_reach 97 = .ok (.imul, 1) := by decide +kernel
theorem dX12_reach_98 : decode cX12_reach 98 = .ok (.istore_n 3, 1) := by decide +kernel
theorem dX12_reach_99 : decode cX12_reach 99 = .ok (.aload_n 0, 1) := by decide +kernel
theorem dX12_reach_100 : decode cX12_reach 100 = .ok (.getfield 62, 3) := by decide +kernel
theorem dX12_reach_103 : decode cX12_reach 103 = .ok (.aload_n 0, 1) := by decide +kernel
theorem dX12_reach_104 : decode cX12_reach 104 = .ok (.getfield 218, 3) := by decide +kernel
theorem dX12_reach_107 : decode cX12_reach 107 = .ok (.iload 4, 2) := by decide +kernel
theorem dX12_reach_109 : decode cX12_reach 109 = .ok (.iastore, 1) := by decide +kernel
theorem dX12_reach_110 : decode cX12_reach 110 = .ok (.aload_n 0, 1) := by decide +kernel
theorem dX12_reach_111 : decode cX12_reach 111 = .ok (.dup, 1) := by decide +kernel
theorem dX12_reach_112 : decode cX12_reach 112 = .ok (.getfield 218, 3) := by decide +kernel
theorem dX12_reach_115 : decode cX12_reach 115 = .ok (.iconst 1, 1) := by decide +kernel
theorem dX12_reach_116 : decode cX12_reach 116 = .ok (.iadd, 1) := by decide +kernel
theorem dX12_reach_117 : decode cX12_reach 117 = .ok (.putfield 218, 3) := by decide +kernel
theorem dX12_reach_120 : decode cX12_reach 120 = .ok (.iinc 4 1, 3) := by decide +kernel
theorem dX12_reach_123 : decode cX12_reach 123 = .ok (.goto (-55), 3) := by decide +kernel
theorem dX12_reach_126 : decode cX12_reach 126 = .ok (.lconst 0, 1) := by decide +kernel
theorem dX12_reach_127 : decode cX12_reach 127 = .ok (.lstore 4, 2) := by decide +kernel
theorem dX12_reach_129 : decode cX12_reach 129 = .ok (.iconst 0, 1) := by decide +kernel
theorem dX12_reach_130 : decode cX12_reach 130 = .ok (.istore 6, 2) := by decide +kernel
theorem dX12_reach_132 : decode cX12_reach 132 = .ok (.iload 6, 2) := by decide +kernel
theorem dX12_reach_134 : decode cX12_reach 134 = .ok (.iload_n 3, 1) := by decide +kernel
theorem dX12_reach_135 : decode cX12_reach 135 = .ok (.if_icmp .ge 22, 3) := by decide +kernel
theorem dX12_reach_138 : decode cX12_reach 138 = .ok (.lload 4, 2) := by decide +kernel
theorem dX12_reach_140 : decode cX12_reach 140 = .ok (.lconst 1, 1) := by decide +kernel
theorem dX12_reach_141 : decode cX12_reach 141 = .ok (.aload_n 0, 1) := by decide +kernel
theorem dX12_reach_142 : decode cX12_reach 142 = .ok (.iload 6, 2) := by decide +kernel
theorem dX12_reach_144 : decode cX12_reach 144 = .ok (.invokevirtual 231, 3) := by decide +kernel
theorem dX12_reach_147 : decode cX12_reach 147 = .ok (.lshl, 1) := by decide +kernel
theorem dX12_reach_148 : decode cX12_reach 148 = .ok (.lor, 1) := by decide +kernel
theorem dX12_reach_149 : decode cX12_reach 149 = .ok (.lstore 4, 2) := by decide +kernel
theorem dX12_reach_151 : decode cX12_reach 151 = .ok (.iinc 6 1, 3) := by decide +kernel
theorem dX12_reach_154 : decode cX12_reach 154 = .ok (.goto (-22), 3) := by decide +kernel
theorem dX12_reach_157 : decode cX12_reach 157 = .ok (.lload 4, 2) := by decide +kernel
theorem dX12_reach_159 : decode cX12_reach 159 = .ok (.lreturn, 1) := by decide +kernel
theorem dX12_power_0 : decode cX12_power 0 = .ok (.iconst 1, 1) := by decide +kernel
theorem dX12_power_1 : decode cX12_power 1 = .ok (.istore_n 2, 1) := by decide +kernel
theorem dX12_power_2 : decode cX12_power 2 = .ok (.iconst 0, 1) := by decide +kernel
theorem dX12_power_3 : decode cX12_power 3 = .ok (.istore_n 3, 1) := by decide +kernel
theorem dX12_power_4 : decode cX12_power 4 = .ok (.iload_n 3, 1) := by decide +kernel
theorem dX12_power_5 : decode cX12_power 5 = .ok (.iload_n 1, 1) := by decide +kernel
theorem dX12_power_6 : decode cX12_power 6 = .ok (.if_icmp .ge 13, 3) := by decide +kernel
theorem dX12_power_9 : decode cX12_power 9 = .ok (.iload_n 2, 1) := by decide +kernel
theorem dX12_power_10 : decode cX12_power 10 = .ok (.iload_n 0, 1) := by decide +kernel
theorem dX12_power_11 : decode cX12_power 11 = .ok (.imul, 1) := by decide +kernel
theorem dX12_power_12 : decode cX12_power 12 = .ok (.istore_n 2, 1) := by decide +kernel
theorem dX12_power_13 : decode cX12_power 13 = .ok (.iinc 3 1, 3) := by decide +kernel
theorem dX12_power_16 : decode cX12_power 16 = .ok (.goto (-12), 3) := by decide +kernel
theorem dX12_power_19 : decode cX12_power 19 = .ok (.iload_n 2, 1) := by decide +kernel
theorem dX12_power_20 : decode cX12_power 20 = .ok (.ireturn, 1) := by decide +kernel
theorem dX12_softOf_0 : decode cX12_softOf 0 = .ok (.iload_n 0, 1) := by decide +kernel
theorem dX12_softOf_1 : decode cX12_softOf 1 = .ok (.iconst 3, 1) := by decide +kernel
theorem dX12_softOf_2 : decode cX12_softOf 2 = .ok (.iload_n 1, 1) := by decide +kernel
theorem dX12_softOf_3 : decode cX12_softOf 3 = .ok (.invokestatic 234, 3) := by decide +kernel
theorem dX12_softOf_6 : decode cX12_softOf 6 = .ok (.idiv, 1) := by decide +kernel
theorem dX12_softOf_7 : decode cX12_softOf 7 = .ok (.iconst 3, 1) := by decide +kernel
theorem dX12_softOf_8 : decode cX12_softOf 8 = .ok (.irem, 1) := by decide +kernel
theorem dX12_softOf_9 : decode cX12_softOf 9 = .ok (.iconst 1, 1) := by decide +kernel
theorem dX12_softOf_10 : decode cX12_softOf 10 = .ok (.iadd, 1) := by decide +kernel
theorem dX12_softOf_11 : decode cX12_softOf 11 = .ok (.ireturn, 1) := by decide +kernel
theorem dX12_likelyOf_0 : decode cX12_likelyOf 0 = .ok (.lconst 1, 1) := by decide +kernel
theorem dX12_likelyOf_1 : decode cX12_likelyOf 1 = .ok (.lstore_n 2, 1) := by decide +kernel
theorem dX12_likelyOf_2 : decode cX12_likelyOf 2 = .ok (.iconst 0, 1) := by decide +kernel
theorem dX12_likelyOf_3 : decode cX12_likelyOf 3 = .ok (.istore 4, 2) := by decide +kernel
theorem dX12_likelyOf_5 : decode cX12_likelyOf 5 = .ok (.iload 4, 2) := by decide +kernel
theorem dX12_likelyOf_7 : decode cX12_likelyOf 7 = .ok (.aload_n 0, 1) := by decide +kernel
theorem dX12_likelyOf_8 : decode cX12_likelyOf 8 = .ok (.getfield 193, 3) := by decide +kernel
theorem dX12_likelyOf_11 : decode cX12_likelyOf 11 = .ok (.if_icmp .ge 38, 3) := by decide +kernel
theorem dX12_likelyOf_14 : decode cX12_likelyOf 14 = .ok (.lload_n 2, 1) := by decide +kernel
theorem dX12_likelyOf_15 : decode cX12_likelyOf 15 = .ok (.iconst 5, 1) := by decide +kernel
theorem dX12_likelyOf_16 : decode cX12_likelyOf 16 = .ok (.iload_n 1, 1) := by decide +kernel
theorem dX12_likelyOf_17 : decode cX12_likelyOf 17 = .ok (.aload_n 0, 1) := by decide +kernel
theorem dX12_likelyOf_18 : decode cX12_likelyOf 18 = .ok (.getfield 53, 3) := by decide +kernel
theorem dX12_likelyOf_21 : decode cX12_likelyOf 21 = .ok (.iload 4, 2) := by decide +kernel
theorem dX12_likelyOf_23 : decode cX12_likelyOf 23 = .ok (.iaload, 1) := by decide +kernel
theorem dX12_likelyOf_24 : decode cX12_likelyOf 24 = .ok (.invokestatic 237, 3) := by decide +kernel
theorem dX12_likelyOf_27 : decode cX12_likelyOf 27 = .ok (.iadd, 1) := by decide +kernel
theorem dX12_likelyOf_28 : decode cX12_likelyOf 28 = .ok (.iload_n 1, 1) := by decide +kernel
theorem dX12_likelyOf_29 : decode cX12_likelyOf 29 = .ok (.aload_n 0, 1) := by decide +kernel
theorem dX12_likelyOf_30 : decode cX12_likelyOf 30 = .ok (.getfield 56, 3) := by decide +kernel
theorem dX12_likelyOf_33 : decode cX12_likelyOf 33 = .ok (.iload 4, 2) := by decide +kernel
theorem dX12_likelyOf_35 : decode cX12_likelyOf 35 = .ok (.iaload, 1) := by decide +kernel
theorem dX12_likelyOf_36 : decode cX12_likelyOf 36 = .ok (.invokestatic 237, 3) := by decide +kernel
theorem dX12_likelyOf_39 : decode cX12_likelyOf 39 = .ok (.isub, 1) := by decide +kernel
theorem dX12_likelyOf_40 : decode cX12_likelyOf 40 = .ok (.i2l, 1) := by decide +kernel
theorem dX12_likelyOf_41 : decode cX12_likelyOf 41 = .ok (.lmul, 1) := by decide +kernel
theorem dX12_likelyOf_42 : decode cX12_likelyOf 42 = .ok (.lstore_n 2, 1) := by decide +kernel
theorem dX12_likelyOf_43 : decode cX12_likelyOf 43 = .ok (.iinc 4 1, 3) := by decide +kernel
theorem dX12_likelyOf_46 : decode cX12_likelyOf 46 = .ok (.goto (-41), 3) := by decide +kernel
theorem dX12_likelyOf_49 : decode cX12_likelyOf 49 = .ok (.lload_n 2, 1) := by decide +kernel
theorem dX12_likelyOf_50 : decode cX12_likelyOf 50 = .ok (.lreturn, 1) := by decide +kernel
theorem dX12_common_0 : decode cX12_common 0 = .ok (.lload_n 0, 1) := by decide +kernel
theorem dX12_common_1 : decode cX12_common 1 = .ok (.lstore 4, 2) := by decide +kernel
theorem dX12_common_3 : decode cX12_common 3 = .ok (.lload_n 2, 1) := by decide +kernel
theorem dX12_common_4 : decode cX12_common 4 = .ok (.lstore 6, 2) := by decide +kernel
theorem dX12_common_6 : decode cX12_common 6 = .ok (.lload 4, 2) := by decide +kernel
theorem dX12_common_8 : decode cX12_common 8 = .ok (.lconst 0, 1) := by decide +kernel
theorem dX12_common_9 : decode cX12_common 9 = .ok (.lcmp, 1) := by decide +kernel
theorem dX12_common_10 : decode cX12_common 10 = .ok (.ifCond .eq 21, 3) := by decide +kernel
theorem dX12_common_13 : decode cX12_common 13 = .ok (.lload 6, 2) := by decide +kernel
theorem dX12_common_15 : decode cX12_common 15 = .ok (.lload 4, 2) := by decide +kernel
theorem dX12_common_17 : decode cX12_common 17 = .ok (.lrem, 1) := by decide +kernel
theorem dX12_common_18 : decode cX12_common 18 = .ok (.lstore 8, 2) := by decide +kernel
theorem dX12_common_20 : decode cX12_common 20 = .ok (.lload 4, 2) := by decide +kernel
theorem dX12_common_22 : decode cX12_common 22 = .ok (.lstore 6, 2) := by decide +kernel
theorem dX12_common_24 : decode cX12_common 24 = .ok (.lload 8, 2) := by decide +kernel
theorem dX12_common_26 : decode cX12_common 26 = .ok (.lstore 4, 2) := by decide +kernel
theorem dX12_common_28 : decode cX12_common 28 = .ok (.goto (-22), 3) := by decide +kernel
theorem dX12_common_31 : decode cX12_common 31 = .ok (.lload 6, 2) := by decide +kernel
theorem dX12_common_33 : decode cX12_common 33 = .ok (.lreturn, 1) := by decide +kernel
theorem dX12_term_0 : decode cX12_term 0 = .ok (.lload_n 0, 1) := by decide +kernel
theorem dX12_term_1 : decode cX12_term 1 = .ok (.lload_n 2, 1) := by decide +kernel
theorem dX12_term_2 : decode cX12_term 2 = .ok (.invokestatic 240, 3) := by decide +kernel
theorem dX12_term_5 : decode cX12_term 5 = .ok (.lstore 5, 2) := by decide +kernel
theorem dX12_term_7 : decode cX12_term 7 = .ok (.iload 4, 2) := by decide +kernel
theorem dX12_term_9 : decode cX12_term 9 = .ok (.ifCond .ne 10, 3) := by decide +kernel
theorem dX12_term_12 : decode cX12_term 12 = .ok (.lload_n 0, 1) := by decide +kernel
theorem dX12_term_13 : decode cX12_term 13 = .ok (.lload 5, 2) := by decide +kernel
theorem dX12_term_15 : decode cX12_term 15 = .ok (.ldiv, 1) := by decide +kernel
theorem dX12_term_16 : decode cX12_term 16 = .ok (.goto 7, 3) := by decide +kernel
theorem dX12_term_19 : decode cX12_term 19 = .ok (.lload_n 2, 1) := by decide +kernel
theorem dX12_term_20 : decode cX12_term 20 = .ok (.lload 5, 2) := by decide +kernel
theorem dX12_term_22 : decode cX12_term 22 = .ok (.ldiv, 1) := by decide +kernel
theorem dX12_term_23 : decode cX12_term 23 = .ok (.lreturn, 1) := by decide +kernel
theorem dX12_isPart_0 : decode cX12_isPart 0 = .ok (.iload_n 0, 1) := by decide +kernel
theorem dX12_isPart_1 : decode cX12_isPart 1 = .ok (.i2l, 1) := by decide +kernel
theorem dX12_isPart_2 : decode cX12_isPart 2 = .ok (.lconst 0, 1) := by decide +kernel
theorem dX12_isPart_3 : decode cX12_isPart 3 = .ok (.lconst 1, 1) := by decide +kernel
theorem dX12_isPart_4 : decode cX12_isPart 4 = .ok (.invokestatic 93, 3) := by decide +kernel
theorem dX12_isPart_7 : decode cX12_isPart 7 = .ok (.ireturn, 1) := by decide +kernel
theorem dX12_odds_0 : decode cX12_odds 0 = .ok (.aload_n 0, 1) := by decide +kernel
theorem dX12_odds_1 : decode cX12_odds 1 = .ok (.iload_n 1, 1) := by decide +kernel
theorem dX12_odds_2 : decode cX12_odds 2 = .ok (.iload_n 2, 1) := by decide +kernel
theorem dX12_odds_3 : decode cX12_odds 3 = .ok (.invokevirtual 155, 3) := by decide +kernel
theorem dX12_odds_6 : decode cX12_odds 6 = .ok (.ifCond .ne 7, 3) := by decide +kernel
theorem dX12_odds_9 : decode cX12_odds 9 = .ok (.ldc2_w 227, 3) := by decide +kernel
theorem dX12_odds_12 : decode cX12_odds 12 = .ok (.lreturn, 1) := by decide +kernel
theorem dX12_odds_13 : decode cX12_odds 13 = .ok (.iload_n 3, 1) := by decide +kernel
theorem dX12_odds_14 : decode cX12_odds 14 = .ok (.invokestatic 244, 3) := by decide +kernel
theorem dX12_odds_17 : decode cX12_odds 17 = .ok (.ifCond .ne 7, 3) := by decide +kernel
theorem dX12_odds_20 : decode cX12_odds 20 = .ok (.ldc2_w 229, 3) := by decide +kernel
theorem dX12_odds_23 : decode cX12_odds 23 = .ok (.lreturn, 1) := by decide +kernel
theorem dX12_odds_24 : decode cX12_odds 24 = .ok (.aload_n 0, 1) := by decide +kernel
theorem dX12_odds_25 : decode cX12_odds 25 = .ok (.getfield 137, 3) := by decide +kernel
theorem dX12_odds_28 : decode cX12_odds 28 = .ok (.bipush 6, 2) := by decide +kernel
theorem dX12_odds_30 : decode cX12_odds 30 = .ok (.if_icmp .le 7, 3) := by decide +kernel
theorem dX12_odds_33 : decode cX12_odds 33 = .ok (.ldc2_w 247, 3) := by decide +kernel
theorem dX12_odds_36 : decode cX12_odds 36 = .ok (.lreturn, 1) := by decide +kernel
theorem dX12_odds_37 : decode cX12_odds 37 = .ok (.lconst 0, 1) := by decide +kernel
theorem dX12_odds_38 : decode cX12_odds 38 = .ok (.lstore 4, 2) := by decide +kernel
theorem dX12_odds_40 : decode cX12_odds 40 = .ok (.lconst 0, 1) := by decide +kernel
theorem dX12_odds_41 : decode cX12_odds 41 = .ok (.lstore 6, 2) := by decide +kernel
theorem dX12_odds_43 : decode cX12_odds 43 = .ok (.iconst 0, 1) := by decide +kernel
theorem dX12_odds_44 : decode cX12_odds 44 = .ok (.istore 8, 2) := by decide +kernel
theorem dX12_odds_46 : decode cX12_odds 46 = .ok (.iload 8, 2) := by decide +kernel
theorem dX12_odds_48 : decode cX12_odds 48 = .ok (.iconst 3, 1) := by decide +kernel
theorem dX12_odds_49 : decode cX12_odds 49 = .ok (.aload_n 0, 1) := by decide +kernel
theorem dX12_odds_50 : decode cX12_odds 50 = .ok (.getfield 137, 3) := by decide +kernel
theorem dX12_odds_53 : decode cX12_odds 53 = .ok (.invokestatic 234, 3) := by decide +kernel
theorem dX12_odds_56 : decode cX12_odds 56 = .ok (.if_icmp .ge 52, 3) := by decide +kernel
theorem dX12_odds_59 : decode cX12_odds 59 = .ok (.aload_n 0, 1) := by decide +kernel
theorem dX12_odds_60 : decode cX12_odds 60 = .ok (.iload 8, 2) := by decide +kernel
theorem dX12_odds_62 : decode cX12_odds 62 = .ok (.invokevirtual 249, 3) := by decide +kernel
theorem dX12_odds_65 : decode cX12_odds 65 = .ok (.lstore 9, 2) := by decide +kernel
theorem dX12_odds_67 : decode cX12_odds 67 = .ok (.lload 4, 2) := by decide +kernel
theorem dX12_odds_69 : decode cX12_odds 69 = .ok (.lload 9, 2) := by decide +kernel
theorem dX12_odds_71 : decode cX12_odds 71 = .ok (.iconst 5, 1) := by decide +kernel
theorem dX12_odds_72 : decode cX12_odds 72 = .ok (.iload 8, 2) := by decide +kernel
theorem dX12_odds_74 : decode cX12_odds 74 = .ok (.iload_n 1, 1) := by decide +kernel
theorem dX12_odds_75 : decode cX12_odds 75 = .ok (.invokestatic 237, 3) := by decide +kernel
theorem dX12_odds_78 : decode cX12_odds 78 = .ok (.iadd, 1) := by decide +kernel
theorem dX12_odds_79 : decode cX12_odds 79 = .ok (.iload 8, 2) := by decide +kernel
theorem dX12_odds_81 : decode cX12_odds 81 = .ok (.iload_n 2, 1) := by decide +kernel
theorem dX12_odds_82 : decode cX12_odds 82 = .ok (.invokestatic 237, 3) := by decide +kernel
theorem dX12_odds_85 : decode cX12_odds 85 = .ok (.isub, 1) := by decide +kernel
theorem dX12_odds_86 : decode cX12_odds 86 = .ok (.i2l, 1) := by decide +kernel
theorem dX12_odds_87 : decode cX12_odds 87 = .ok (.lmul, 1) := by decide +kernel
theorem dX12_odds_88 : decode cX12_odds 88 = .ok (.ladd, 1) := by decide +kernel
theorem dX12_odds_89 : decode cX12_odds 89 = .ok (.lstore 4, 2) := by decide +kernel
theorem dX12_odds_91 : decode cX12_odds 91 = .ok (.lload 6, 2) := by decide +kernel
theorem dX12_odds_93 : decode cX12_odds 93 = .ok (.ldc2_w 253, 3) := by decide +kernel
theorem dX12_odds_96 : decode cX12_odds 96 = .ok (.lload 9, 2) := by decide +kernel
theorem dX12_odds_98 : decode cX12_odds 98 = .ok (.lmul, 1) := by decide +kernel
theorem dX12_odds_99 : decode cX12_odds 99 = .ok (.ladd, 1) := by decide +kernel
theorem dX12_odds_100 : decode cX12_odds 100 = .ok (.lstore 6, 2) := by decide +kernel
theorem dX12_odds_102 : decode cX12_odds 102 = .ok (.iinc 8 1, 3) := by decide +kernel
theorem dX12_odds_105 : decode cX12_odds 105 = .ok (.goto (-59), 3) := by decide +kernel
theorem dX12_odds_108 : decode cX12_odds 108 = .ok (.lload 4, 2) := by decide +kernel
theorem dX12_odds_110 : decode cX12_odds 110 = .ok (.lload 6, 2) := by decide +kernel
theorem dX12_odds_112 : decode cX12_odds 112 = .ok (.iload_n 3, 1) := by decide +kernel
theorem dX12_odds_113 : decode cX12_odds 113 = .ok (.invokestatic 255, 3) := by decide +kernel
theorem dX12_odds_116 : decode cX12_odds 116 = .ok (.lreturn, 1) := by decide +kernel
theorem dX12_likely_0 : decode cX12_likely 0 = .ok (.aload_n 0, 1) := by decide +kernel
theorem dX12_likely_1 : decode cX12_likely 1 = .ok (.iload_n 1, 1) := by decide +kernel
theorem dX12_likely_2 : decode cX12_likely 2 = .ok (.invokevirtual 140, 3) := by decide +kernel
theorem dX12_likely_5 : decode cX12_likely 5 = .ok (.ifCond .ne 7, 3) := by decide +kernel
theorem dX12_likely_8 : decode cX12_likely 8 = .ok (.ldc2_w 227, 3) := by decide +kernel
theorem dX12_likely_11 : decode cX12_likely 11 = .ok (.lreturn, 1) := by decide +kernel
theorem dX12_likely_12 : decode cX12_likely 12 = .ok (.iload_n 2, 1) := by decide +kernel
theorem dX12_likely_13 : decode cX12_likely 13 = .ok (.i2l, 1) := by decide +kernel
theorem dX12_likely_14 : decode cX12_likely 14 = .ok (.lconst 1, 1) := by decide +kernel
theorem dX12_likely_15 : decode cX12_likely 15 = .ok (.ldc2_w 126, 3) := by decide +kernel
theorem dX12_likely_18 : decode cX12_likely 18 = .ok (.invokestatic 93, 3) := by decide +kernel
theorem dX12_likely_21 : decode cX12_likely 21 = .ok (.ifCond .eq 10, 3) := by decide +kernel
theorem dX12_likely_24 : decode cX12_likely 24 = .ok (.iload_n 3, 1) := by decide +kernel
theorem dX12_likely_25 : decode cX12_likely 25 = .ok (.invokestatic 244, 3) := by decide +kernel
theorem dX12_likely_28 : decode cX12_likely 28 = .ok (.ifCond .ne 7, 3) := by decide +kernel
theorem dX12_likely_31 : decode cX12_likely 31 = .ok (.ldc2_w 229, 3) := by decide +kernel
theorem dX12_likely_34 : decode cX12_likely 34 = .ok (.lreturn, 1) := by decide +kernel
theorem dX12_likely_35 : decode cX12_likely 35 = .ok (.aload_n 0, 1) := by decide +kernel
theorem dX12_likely_36 : decode cX12_likely 36 = .ok (.getfield 137, 3) := by decide +kernel
theorem dX12_likely_39 : decode cX12_likely 39 = .ok (.bipush 6, 2) := by decide +kernel
theorem dX12_likely_41 : decode cX12_likely 41 = .ok (.if_icmp .le 7, 3) := by decide +kernel
theorem dX12_likely_44 : decode cX12_likely 44 = .ok (.ldc2_w 247, 3) := by decide +kernel
theorem dX12_likely_47 : decode cX12_likely 47 = .ok (.lreturn, 1) := by decide +kernel
theorem dX12_likely_48 : decode cX12_likely 48 = .ok (.lconst 0, 1) := by decide +kernel
theorem dX12_likely_49 : decode cX12_likely 49 = .ok (.lstore 4, 2) := by decide +kernel
theorem dX12_likely_51 : decode cX12_likely 51 = .ok (.lconst 0, 1) := by decide +kernel
theorem dX12_likely_52 : decode cX12_likely 52 = .ok (.lstore 6, 2) := by decide +kernel
theorem dX12_likely_54 : decode cX12_likely 54 = .ok (.iconst 0, 1) := by decide +kernel
theorem dX12_likely_55 : decode cX12_likely 55 = .ok (.istore 8, 2) := by decide +kernel
theorem dX12_likely_57 : decode cX12_likely 57 = .ok (.iload 8, 2) := by decide +kernel
theorem dX12_likely_59 : decode cX12_likely 59 = .ok (.iconst 3, 1) := by decide +kernel
theorem dX12_likely_60 : decode cX12_likely 60 = .ok (.aload_n 0, 1) := by decide +kernel
theorem dX12_likely_61 : decode cX12_likely 61 = .ok (.getfield 137, 3) := by decide +kernel
theorem dX12_likely_64 : decode cX12_likely 64 = .ok (.invokestatic 234, 3) := by decide +kernel
theorem dX12_likely_67 : decode cX12_likely 67 = .ok (.if_icmp .ge 45, 3) := by decide +kernel
theorem dX12_likely_70 : decode cX12_likely 70 = .ok (.aload_n 0, 1) := by decide +kernel
theorem dX12_likely_71 : decode cX12_likely 71 = .ok (.iload 8, 2) := by decide +kernel
theorem dX12_likely_73 : decode cX12_likely 73 = .ok (.invokevirtual 249, 3) := by decide +kernel
theorem dX12_likely_76 : decode cX12_likely 76 = .ok (.lstore 9, 2) := by decide +kernel
theorem dX12_likely_78 : decode cX12_likely 78 = .ok (.lload 4, 2) := by decide +kernel
theorem dX12_likely_80 : decode cX12_likely 80 = .ok (.iload 8, 2) := by decide +kernel
theorem dX12_likely_82 : decode cX12_likely 82 = .ok (.iload_n 1, 1) := by decide +kernel
theorem dX12_likely_83 : decode cX12_likely 83 = .ok (.invokestatic 237, 3) := by decide +kernel
theorem dX12_likely_86 : decode cX12_likely 86 = .ok (.iload_n 2, 1) := by decide +kernel
theorem dX12_likely_87 : decode cX12_likely 87 = .ok (.if_icmp .ne 8, 3) := by decide +kernel
theorem dX12_likely_90 : decode cX12_likely 90 = .ok (.lload 9, 2) := by decide +kernel
theorem dX12_likely_92 : decode cX12_likely 92 = .ok (.goto 4, 3) := by decide +kernel
theorem dX12_likely_95 : decode cX12_likely 95 = .ok (.lconst 0, 1) := by decide +kernel
theorem dX12_likely_96 : decode cX12_likely 96 = .ok (.ladd, 1) := by decide +kernel
theorem dX12_likely_97 : decode cX12_likely 97 = .ok (.lstore 4, 2) := by decide +kernel
theorem dX12_likely_99 : decode cX12_likely 99 = .ok (.lload 6, 2) := by decide +kernel
theorem dX12_likely_101 : decode cX12_likely 101 = .ok (.lload 9, 2) := by decide +kernel
theorem dX12_likely_103 : decode cX12_likely 103 = .ok (.ladd, 1) := by decide +kernel
theorem dX12_likely_104 : decode cX12_likely 104 = .ok (.lstore 6, 2) := by decide +kernel
theorem dX12_likely_106 : decode cX12_likely 106 = .ok (.iinc 8 1, 3) := by decide +kernel
theorem dX12_likely_109 : decode cX12_likely 109 = .ok (.goto (-52), 3) := by decide +kernel
theorem dX12_likely_112 : decode cX12_likely 112 = .ok (.lload 4, 2) := by decide +kernel
theorem dX12_likely_114 : decode cX12_likely 114 = .ok (.lload 6, 2) := by decide +kernel
theorem dX12_likely_116 : decode cX12_likely 116 = .ok (.iload_n 3, 1) := by decide +kernel
theorem dX12_likely_117 : decode cX12_likely 117 = .ok (.invokestatic 255, 3) := by decide +kernel
theorem dX12_likely_120 : decode cX12_likely 120 = .ok (.lreturn, 1) := by decide +kernel
theorem dX12_comer_0 : decode cX12_comer 0 = .ok (.aload_n 0, 1) := by decide +kernel
theorem dX12_comer_1 : decode cX12_comer 1 = .ok (.iload_n 1, 1) := by decide +kernel
theorem dX12_comer_2 : decode cX12_comer 2 = .ok (.invokevirtual 118, 3) := by decide +kernel
theorem dX12_comer_5 : decode cX12_comer 5 = .ok (.ifCond .ne 6, 3) := by decide +kernel
theorem dX12_comer_8 : decode cX12_comer 8 = .ok (.bipush (-101), 2) := by decide +kernel
theorem dX12_comer_10 : decode cX12_comer 10 = .ok (.ireturn, 1) := by decide +kernel
theorem dX12_comer_11 : decode cX12_comer 11 = .ok (.iload_n 2, 1) := by decide +kernel
theorem dX12_comer_12 : decode cX12_comer 12 = .ok (.i2l, 1) := by decide +kernel
theorem dX12_comer_13 : decode cX12_comer 13 = .ok (.lconst 0, 1) := by decide +kernel
theorem dX12_comer_14 : decode cX12_comer 14 = .ok (.ldc2_w 135, 3) := by decide +kernel
theorem dX12_comer_17 : decode cX12_comer 17 = .ok (.invokestatic 93, 3) := by decide +kernel
theorem dX12_comer_20 : decode cX12_comer 20 = .ok (.ifCond .eq 15, 3) := by decide +kernel
theorem dX12_comer_23 : decode cX12_comer 23 = .ok (.iload_n 3, 1) := by decide +kernel
theorem dX12_comer_24 : decode cX12_comer 24 = .ok (.i2l, 1) := by decide +kernel
theorem dX12_comer_25 : decode cX12_comer 25 = .ok (.lconst 0, 1) := by decide +kernel
theorem dX12_comer_26 : decode cX12_comer 26 = .ok (.ldc2_w 253, 3) := by decide +kernel
theorem dX12_comer_29 : decode cX12_comer 29 = .ok (.invokestatic 93, 3) := by decide +kernel
theorem dX12_comer_32 : decode cX12_comer 32 = .ok (.ifCond .ne 6, 3) := by decide +kernel
theorem dX12_comer_35 : decode cX12_comer 35 = .ok (.bipush (-102), 2) := by decide +kernel
theorem dX12_comer_37 : decode cX12_comer 37 = .ok (.ireturn, 1) := by decide +kernel
theorem dX12_comer_38 : decode cX12_comer 38 = .ok (.aload_n 0, 1) := by decide +kernel
theorem dX12_comer_39 : decode cX12_comer 39 = .ok (.getfield 259, 3) := by decide +kernel
theorem dX12_comer_42 : decode cX12_comer 42 = .ok (.bipush 8, 2) := by decide +kernel
theorem dX12_comer_44 : decode cX12_comer 44 = .ok (.if_icmp .ne 6, 3) := by decide +kernel
theorem dX12_comer_47 : decode cX12_comer 47 = .ok (.bipush (-104), 2) := by decide +kernel
theorem dX12_comer_49 : decode cX12_comer 49 = .ok (.ireturn, 1) := by decide +kernel
theorem dX12_comer_50 : decode cX12_comer 50 = .ok (.aload_n 0, 1) := by decide +kernel
theorem dX12_comer_51 : decode cX12_comer 51 = .ok (.getfield 65, 3) := by decide +kernel
theorem dX12_comer_54 : decode cX12_comer 54 = .ok (.aload_n 0, 1) := by decide +kernel
theorem dX12_comer_55 : decode cX12_comer 55 = .ok (.getfield 259, 3) := by decide +kernel
theorem dX12_comer_58 : decode cX12_comer 58 = .ok (.iload_n 1, 1) := by decide +kernel
theorem dX12_comer_59 : decode cX12_comer 59 = .ok (.iastore, 1) := by decide +kernel
theorem dX12_comer_60 : decode cX12_comer 60 = .ok (.aload_n 0, 1) := by decide +kernel
theorem dX12_comer_61 : decode cX12_comer 61 = .ok (.getfield 68, 3) := by decide +kernel
theorem dX12_comer_64 : decode cX12_comer 64 = .ok (.aload_n 0, 1) := by decide +kernel
theorem dX12_comer_65 : decode cX12_comer 65 = .ok (.getfield 259, 3) := by decide +kernel
theorem dX12_comer_68 : decode cX12_comer 68 = .ok (.iload_n 2, 1) := by decide +kernel
theorem dX12_comer_69 : decode cX12_comer 69 = .ok (.iastore, 1) := by decide +kernel
theorem dX12_comer_70 : decode cX12_comer 70 = .ok (.aload_n 0, 1) := by decide +kernel
theorem dX12_comer_71 : decode cX12_comer 71 = .ok (.getfield 71, 3) := by decide +kernel
theorem dX12_comer_74 : decode cX12_comer 74 = .ok (.aload_n 0, 1) := by decide +kernel
theorem dX12_comer_75 : decode cX12_comer 75 = .ok (.getfield 259, 3) := by decide +kernel
theorem dX12_comer_78 : decode cX12_comer 78 = .ok (.iload_n 3, 1) := by decide +kernel
theorem dX12_comer_79 : decode cX12_comer 79 = .ok (.iastore, 1) := by decide +kernel
theorem dX12_comer_80 : decode cX12_comer 80 = .ok (.aload_n 0, 1) := by decide +kernel
theorem dX12_comer_81 : decode cX12_comer 81 = .ok (.dup, 1) := by decide +kernel
theorem dX12_comer_82 : decode cX12_comer 82 = .ok (.getfield 259, 3) := by decide +kernel
theorem dX12_comer_85 : decode cX12_comer 85 = .ok (.iconst 1, 1) := by decide +kernel
theorem dX12_comer_86 : decode cX12_comer 86 = .ok (.iadd, 1) := by decide +kernel
theorem dX12_comer_87 : decode cX12_comer 87 = .ok (.putfield 259, 3) := by decide +kernel
theorem dX12_comer_90 : decode cX12_comer 90 = .ok (.aload_n 0, 1) := by decide +kernel
theorem dX12_comer_91 : decode cX12_comer 91 = .ok (.getfield 259, 3) := by decide +kernel
theorem dX12_comer_94 : decode cX12_comer 94 = .ok (.ireturn, 1) := by decide +kernel
theorem dX12_gone_0 : decode cX12_gone 0 = .ok (.aload_n 0, 1) := by decide +kernel
theorem dX12_gone_1 : decode cX12_gone 1 = .ok (.getfield 259, 3) := by decide +kernel
theorem dX12_gone_4 : decode cX12_gone 4 = .ok (.istore_n 1, 1) := by decide +kernel
theorem dX12_gone_5 : decode cX12_gone 5 = .ok (.aload_n 0, 1) := by decide +kernel
theorem dX12_gone_6 : decode cX12_gone 6 = .ok (.iconst 0, 1) := by decide +kernel
theorem dX12_gone_7 : decode cX12_gone 7 = .ok (.putfield 259, 3) := by decide +kernel
theorem dX12_gone_10 : decode cX12_gone 10 = .ok (.iload_n 1, 1) := by decide +kernel
theorem dX12_gone_11 : decode cX12_gone 11 = .ok (.ireturn, 1) := by decide +kernel
theorem dX12_worthOfSet_0 : decode cX12_worthOfSet 0 = .ok (.aload_n 0, 1) := by decide +kernel
theorem dX12_worthOfSet_1 : decode cX12_worthOfSet 1 = .ok (.getfield 40, 3) := by decide +kernel
theorem dX12_worthOfSet_4 : decode cX12_worthOfSet 4 = .ok (.iload_n 1, 1) := by decide +kernel
theorem dX12_worthOfSet_5 : decode cX12_worthOfSet 5 = .ok (.iaload, 1) := by decide +kernel
theorem dX12_worthOfSet_6 : decode cX12_worthOfSet 6 = .ok (.istore_n 3, 1) := by decide +kernel
theorem dX12_worthOfSet_7 : decode cX12_worthOfSet 7 = .ok (.lconst 1, 1) := by decide +kernel
theorem dX12_worthOfSet_8 : decode cX12_worthOfSet 8 = .ok (.lstore 4, 2) := by decide +kernel
theorem dX12_worthOfSet_10 : decode cX12_worthOfSet 10 = .ok (.iconst 0, 1) := by decide +kernel
theorem dX12_worthOfSet_11 : decode cX12_worthOfSet 11 = .ok (.istore 6, 2) := by decide +kernel
theorem dX12_worthOfSet_13 : decode cX12_worthOfSet 13 = .ok (.iconst 0, 1) := by decide +kernel
theorem dX12_worthOfSet_14 : decode cX12_worthOfSet 14 = .ok (.istore 7, 2) := by decide +kernel
theorem dX12_worthOfSet_16 : decode cX12_worthOfSet 16 = .ok (.iload 7, 2) := by decide +kernel
theorem dX12_worthOfSet_18 : decode cX12_worthOfSet 18 = .ok (.aload_n 0, 1) := by decide +kernel
theorem dX12_worthOfSet_19 : decode cX12_worthOfSet 19 = .ok (.getfield 259, 3) := by decide +kernel
theorem dX12_worthOfSet_22 : decode cX12_worthOfSet 22 = .ok (.if_icmp .ge 77, 3) := by decide +kernel
theorem dX12_worthOfSet_25 : decode cX12_worthOfSet 25 = .ok (.iload_n 2, 1) := by decide +kernel
theorem dX12_worthOfSet_26 : decode cX12_worthOfSet 26 = .ok (.iload 7, 2) := by decide +kernel
theorem dX12_worthOfSet_28 : decode cX12_worthOfSet 28 = .ok (.ishr, 1) := by decide +kernel
theorem dX12_worthOfSet_29 : decode cX12_worthOfSet 29 = .ok (.iconst 1, 1) := by decide +kernel
theorem dX12_worthOfSet_30 : decode cX12_worthOfSet 30 = .ok (.iand, 1) := by decide +kernel
theorem dX12_worthOfSet_31 : decode cX12_worthOfSet 31 = .ok (.iconst 1, 1) := by decide +kernel
theorem dX12_worthOfSet_32 : decode cX12_worthOfSet 32 = .ok (.if_icmp .ne 61, 3) := by decide +kernel
theorem dX12_worthOfSet_35 : decode cX12_worthOfSet 35 = .ok (.aload_n 0, 1) := by decide +kernel
theorem dX12_worthOfSet_36 : decode cX12_worthOfSet 36 = .ok (.getfield 71, 3) := by decide +kernel
theorem dX12_worthOfSet_39 : decode cX12_worthOfSet 39 = .ok (.iload 7, 2) := by decide +kernel
theorem dX12_worthOfSet_41 : decode cX12_worthOfSet 41 = .ok (.iaload, 1) := by decide +kernel
theorem dX12_worthOfSet_42 : decode cX12_worthOfSet 42 = .ok (.iload 6, 2) := by decide +kernel
theorem dX12_worthOfSet_44 : decode cX12_worthOfSet 44 = .ok (.isub, 1) := by decide +kernel
theorem dX12_worthOfSet_45 : decode cX12_worthOfSet 45 = .ok (.istore 8, 2) := by decide +kernel
theorem dX12_worthOfSet_47 : decode cX12_worthOfSet 47 = .ok (.lload 4, 2) := by decide +kernel
theorem dX12_worthOfSet_49 : decode cX12_worthOfSet 49 = .ok (.iload 8, 2) := by decide +kernel
theorem dX12_worthOfSet_51 : decode cX12_worthOfSet 51 = .ok (.ifCond .le 9, 3) := by decide +kernel
theorem dX12_worthOfSet_54 : decode cX12_worthOfSet 54 = .ok (.iload 8, 2) := by decide +kernel
theorem dX12_worthOfSet_56 : decode cX12_worthOfSet 56 = .ok (.i2l, 1) := by decide +kernel
theorem dX12_worthOfSet_57 : decode cX12_worthOfSet 57 = .ok (.goto 4, 3) := by decide +kernel
theorem dX12_worthOfSet_60 : decode cX12_worthOfSet 60 = .ok (.lconst 0, 1) := by decide +kernel
theorem dX12_worthOfSet_61 : decode cX12_worthOfSet 61 = .ok (.lmul, 1) := by decide +kernel
theorem dX12_worthOfSet_62 : decode cX12_worthOfSet 62 = .ok (.lstore 4, 2) := by decide +kernel
theorem dX12_worthOfSet_64 : decode cX12_worthOfSet 64 = .ok (.aload_n 0, 1) := by decide +kernel
theorem dX12_worthOfSet_65 : decode cX12_worthOfSet 65 = .ok (.aload_n 0, 1) := by decide +kernel
theorem dX12_worthOfSet_66 : decode cX12_worthOfSet 66 = .ok (.getfield 28, 3) := by decide +kernel
theorem dX12_worthOfSet_69 : decode cX12_worthOfSet 69 = .ok (.iload_n 1, 1) := by decide +kernel
theorem dX12_worthOfSet_70 : decode cX12_worthOfSet 70 = .ok (.iaload, 1) := by decide +kernel
theorem dX12_worthOfSet_71 : decode cX12_worthOfSet 71 = .ok (.aload_n 0, 1) := by decide +kernel
theorem dX12_worthOfSet_72 : decode cX12_worthOfSet 72 = .ok (.getfield 65, 3) := by decide +kernel
theorem dX12_worthOfSet_75 : decode cX12_worthOfSet 75 = .ok (.iload 7, 2) := by decide +kernel
theorem dX12_worthOfSet_77 : decode cX12_worthOfSet 77 = .ok (.iaload, 1) := by decide +kernel
theorem dX12_worthOfSet_78 : decode cX12_worthOfSet 78 = .ok (.iload_n 3, 1) := by decide +kernel
theorem dX12_worthOfSet_79 : decode cX12_worthOfSet 79 = .ok (.aload_n 0, 1) := by decide +kernel
theorem dX12_worthOfSet_80 : decode cX12_worthOfSet 80 = .ok (.getfield 68, 3) := by decide +kernel
theorem dX12_worthOfSet_83 : decode cX12_worthOfSet 83 = .ok (.iload 7, 2) := by decide +kernel
theorem dX12_worthOfSet_85 : decode cX12_worthOfSet 85 = .ok (.iaload, 1) := by decide +kernel
theorem dX12_worthOfSet_86 : decode cX12_worthOfSet 86 = .ok (.invokevirtual 151, 3) := by decide +kernel
theorem dX12_worthOfSet_89 : decode cX12_worthOfSet 89 = .ok (.istore_n 3, 1) := by decide +kernel
theorem dX12_worthOfSet_90 : decode cX12_worthOfSet 90 = .ok (.iinc 6 1, 3) := by decide +kernel
theorem dX12_worthOfSet_93 : decode cX12_worthOfSet 93 = .ok (.iinc 7 1, 3) := by decide +kernel
theorem dX12_worthOfSet_96 : decode cX12_worthOfSet 96 = .ok (.goto (-80), 3) := by decide +kernel
theorem dX12_worthOfSet_99 : decode cX12_worthOfSet 99 = .ok (.iload_n 3, 1) := by decide +kernel
theorem dX12_worthOfSet_100 : decode cX12_worthOfSet 100 = .ok (.i2l, 1) := by decide +kernel
theorem dX12_worthOfSet_101 : decode cX12_worthOfSet 101 = .ok (.lload 4, 2) := by decide +kernel
theorem dX12_worthOfSet_103 : decode cX12_worthOfSet 103 = .ok (.lmul, 1) := by decide +kernel
theorem dX12_worthOfSet_104 : decode cX12_worthOfSet 104 = .ok (.lreturn, 1) := by decide +kernel
theorem dX12_worth_0 : decode cX12_worth 0 = .ok (.aload_n 0, 1) := by decide +kernel
theorem dX12_worth_1 : decode cX12_worth 1 = .ok (.iload_n 1, 1) := by decide +kernel
theorem dX12_worth_2 : decode cX12_worth 2 = .ok (.invokevirtual 140, 3) := by decide +kernel
theorem dX12_worth_5 : decode cX12_worth 5 = .ok (.ifCond .ne 7, 3) := by decide +kernel
theorem dX12_worth_8 : decode cX12_worth 8 = .ok (.ldc2_w 227, 3) := by decide +kernel
theorem dX12_worth_11 : decode cX12_worth 11 = .ok (.lreturn, 1) := by decide +kernel
theorem dX12_worth_12 : decode cX12_worth 12 = .ok (.iload_n 2, 1) := by decide +kernel
theorem dX12_worth_13 : decode cX12_worth 13 = .ok (.i2l, 1) := by decide +kernel
theorem dX12_worth_14 : decode cX12_worth 14 = .ok (.lconst 0, 1) := by decide +kernel
theorem dX12_worth_15 : decode cX12_worth 15 = .ok (.iconst 1, 1) := by decide +kernel
theorem dX12_worth_16 : decode cX12_worth 16 = .ok (.aload_n 0, 1) := by decide +kernel
theorem dX12_worth_17 : decode cX12_worth 17 = .ok (.getfield 259, 3) := by decide +kernel
theorem dX12_worth_20 : decode cX12_worth 20 = .ok (.ishl, 1) := by decide +kernel
theorem dX12_worth_21 : decode cX12_worth 21 = .ok (.iconst 1, 1) := by decide +kernel
theorem dX12_worth_22 : decode cX12_worth 22 = .ok (.isub, 1) := by decide +kernel
theorem dX12_worth_23 : decode cX12_worth 23 = .ok (.i2l, 1) := by decide +kernel
theorem dX12_worth_24 : decode cX12_worth 24 = .ok (.invokestatic 93, 3) := by decide +kernel
theorem dX12_worth_27 : decode cX12_worth 27 = .ok (.ifCond .eq 10, 3) := by decide +kernel
theorem dX12_worth_30 : decode cX12_worth 30 = .ok (.iload_n 3, 1) := by decide +kernel
theorem dX12_worth_31 : decode cX12_worth 31 = .ok (.invokestatic 244, 3) := by decide +kernel
theorem dX12_worth_34 : decode cX12_worth 34 = .ok (.ifCond .ne 7, 3) := by decide +kernel
theorem dX12_worth_37 : decode cX12_worth 37 = .ok (.ldc2_w 229, 3) := by decide +kernel
theorem dX12_worth_40 : decode cX12_worth 40 = .ok (.lreturn, 1) := by decide +kernel
theorem dX12_worth_41 : decode cX12_worth 41 = .ok (.aload_n 0, 1) := by decide +kernel
theorem dX12_worth_42 : decode cX12_worth 42 = .ok (.iload_n 1, 1) := by decide +kernel
theorem dX12_worth_43 : decode cX12_worth 43 = .ok (.iload_n 2, 1) := by decide +kernel
theorem dX12_worth_44 : decode cX12_worth 44 = .ok (.invokevirtual 262, 3) := by decide +kernel
theorem dX12_worth_47 : decode cX12_worth 47 = .ok (.bipush 10, 2) := by decide +kernel
theorem dX12_worth_49 : decode cX12_worth 49 = .ok (.iload_n 2, 1) := by decide +kernel
theorem dX12_worth_50 : decode cX12_worth 50 = .ok (.invokestatic 198, 3) := by decide +kernel
theorem dX12_worth_53 : decode cX12_worth 53 = .ok (.invokestatic 234, 3) := by decide +kernel
theorem dX12_worth_56 : decode cX12_worth 56 = .ok (.i2l, 1) := by decide +kernel
theorem dX12_worth_57 : decode cX12_worth 57 = .ok (.iload_n 3, 1) := by decide +kernel
theorem dX12_worth_58 : decode cX12_worth 58 = .ok (.invokestatic 255, 3) := by decide +kernel
theorem dX12_worth_61 : decode cX12_worth 61 = .ok (.lreturn, 1) := by decide +kernel
theorem dX12_seasonOf_0 : decode cX12_seasonOf 0 = .ok (.iconst 0, 1) := by decide +kernel
theorem dX12_seasonOf_1 : decode cX12_seasonOf 1 = .ok (.istore_n 2, 1) := by decide +kernel
theorem dX12_seasonOf_2 : decode cX12_seasonOf 2 = .ok (.ldc2_w 196, 3) := by decide +kernel
theorem dX12_seasonOf_5 : decode cX12_seasonOf 5 = .ok (.lstore_n 3, 1) := by decide +kernel
theorem dX12_seasonOf_6 : decode cX12_seasonOf 6 = .ok (.iconst 0, 1) := by decide +kernel
theorem dX12_seasonOf_7 : decode cX12_seasonOf 7 = .ok (.istore 5, 2) := by decide +kernel
theorem dX12_seasonOf_9 : decode cX12_seasonOf 9 = .ok (.iload 5, 2) := by decide +kernel
theorem dX12_seasonOf_11 : decode cX12_seasonOf 11 = .ok (.iconst 1, 1) := by decide +kernel
theorem dX12_seasonOf_12 : decode cX12_seasonOf 12 = .ok (.aload_n 0, 1) := by decide +kernel
theorem dX12_seasonOf_13 : decode cX12_seasonOf 13 = .ok (.getfield 259, 3) := by decide +kernel
theorem dX12_seasonOf_16 : decode cX12_seasonOf 16 = .ok (.ishl, 1) := by decide +kernel
theorem dX12_seasonOf_17 : decode cX12_seasonOf 17 = .ok (.if_icmp .ge 90, 3) := by decide +kernel
theorem dX12_seasonOf_20 : decode cX12_seasonOf 20 = .ok (.aload_n 0, 1) := by decide +kernel
theorem dX12_seasonOf_21 : decode cX12_seasonOf 21 = .ok (.iload_n 1, 1) := by decide +kernel
theorem dX12_seasonOf_22 : decode cX12_seasonOf 22 = .ok (.iload 5, 2) := by decide +kernel
theorem dX12_seasonOf_24 : decode cX12_seasonOf 24 = .ok (.invokevirtual 262, 3) := by decide +kernel
theorem dX12_seasonOf_27 : decode cX12_seasonOf 27 = .ok (.bipush 10, 2) := by decide +kernel
theorem dX12_seasonOf_29 : decode cX12_seasonOf 29 = .ok (.bipush 8, 2) := by decide +kernel
theorem dX12_seasonOf_31 : decode cX12_seasonOf 31 = .ok (.iload 5, 2) := by decide +kernel
theorem dX12_seasonOf_33 : decode cX12_seasonOf 33 = .ok (.invokestatic 198, 3) := by decide +kernel
theorem dX12_seasonOf_36 : decode cX12_seasonOf 36 = .ok (.isub, 1) := by decide +kernel
theorem dX12_seasonOf_37 : decode cX12_seasonOf 37 = .ok (.invokestatic 234, 3) := by decide +kernel
theorem dX12_seasonOf_40 : decode cX12_seasonOf 40 = .ok (.i2l, 1) := by decide +kernel
theorem dX12_seasonOf_41 : decode cX12_seasonOf 41 = .ok (.lmul, 1) := by decide +kernel
theorem dX12_seasonOf_42 : decode cX12_seasonOf 42 = .ok (.lstore 6, 2) := by decide +kernel
theorem dX12_seasonOf_44 : decode cX12_seasonOf 44 = .ok (.lload 6, 2) := by decide +kernel
theorem dX12_seasonOf_46 : decode cX12_seasonOf 46 = .ok (.lload_n 3, 1) := by decide +kernel
theorem dX12_seasonOf_47 : decode cX12_seasonOf 47 = .ok (.lcmp, 1) := by decide +kernel
theorem dX12_seasonOf_48 : decode cX12_seasonOf 48 = .ok (.ifCond .gt 22, 3) := by decide +kernel
theorem dX12_seasonOf_51 : decode cX12_seasonOf 51 = .ok (.lload 6, 2) := by decide +kernel
theorem dX12_seasonOf_53 : decode cX12_seasonOf 53 = .ok (.lload_n 3, 1) := by decide +kernel
theorem dX12_seasonOf_54 : decode cX12_seasonOf 54 = .ok (.lcmp, 1) := by decide +kernel
theorem dX12_seasonOf_55 : decode cX12_seasonOf 55 = .ok (.ifCond .ne 19, 3) := by decide +kernel
theorem dX12_seasonOf_58 : decode cX12_seasonOf 58 = .ok (.iload 5, 2) := by decide +kernel
theorem dX12_seasonOf_60 : decode cX12_seasonOf 60 = .ok (.invokestatic 198, 3) := by decide +kernel
theorem dX12_seasonOf_63 : decode cX12_seasonOf 63 = .ok (.iload_n 2, 1) := by decide +kernel
theorem dX12_seasonOf_64 : decode cX12_seasonOf 64 = .ok (.invokestatic 198, 3) := by decide +kernel
theorem dX12_seasonOf_67 : decode cX12_seasonOf 67 = .ok (.if_icmp .ge 7, 3) := by decide +kernel
theorem dX12_seasonOf_70 : decode cX12_seasonOf 70 = .ok (.iconst 1, 1) := by decide +kernel
theorem dX12_seasonOf_71 : decode cX12_seasonOf 71 = .ok (.goto 4, 3) := by decide +kernel
theorem dX12_seasonOf_74 : decode cX12_seasonOf 74 = .ok (.iconst 0, 1) := by decide +kernel
theorem dX12_seasonOf_75 : decode cX12_seasonOf 75 = .ok (.istore 8, 2) := by decide +kernel
theorem dX12_seasonOf_77 : decode cX12_seasonOf 77 = .ok (.iload 8, 2) := by decide +kernel
theorem dX12_seasonOf_79 : decode cX12_seasonOf 79 = .ok (.ifCond .eq 8, 3) := by decide +kernel
theorem dX12_seasonOf_82 : decode cX12_seasonOf 82 = .ok (.iload 5, 2) := by decide +kernel
theorem dX12_seasonOf_84 : decode cX12_seasonOf 84 = .ok (.goto 4, 3) := by decide +kernel
theorem dX12_seasonOf_87 : decode cX12_seasonOf 87 = .ok (.iload_n 2, 1) := by decide +kernel
theorem dX12_seasonOf_88 : decode cX12_seasonOf 88 = .ok (.istore_n 2, 1) := by decide +kernel
theorem dX12_seasonOf_89 : decode cX12_seasonOf 89 = .ok (.iload 8, 2) := by decide +kernel
theorem dX12_seasonOf_91 : decode cX12_seasonOf 91 = .ok (.ifCond .eq 8, 3) := by decide +kernel
theorem dX12_seasonOf_94 : decode cX12_seasonOf 94 = .ok (.lload 6, 2) := by decide +kernel
theorem dX12_seasonOf_96 : decode cX12_seasonOf 96 = .ok (.goto 4, 3) := by decide +kernel
theorem dX12_seasonOf_99 : decode cX12_seasonOf 99 = .ok (.lload_n 3, 1) := by decide +kernel
theorem dX12_seasonOf_100 : decode cX12_seasonOf 100 = .ok (.lstore_n 3, 1) := by decide +kernel
theorem dX12_seasonOf_101 : decode cX12_seasonOf 101 = .ok (.iinc 5 1, 3) := by decide +kernel
theorem dX12_seasonOf_104 : decode cX12_seasonOf 104 = .ok (.goto (-95), 3) := by decide +kernel
theorem dX12_seasonOf_107 : decode cX12_seasonOf 107 = .ok (.iload_n 2, 1) := by decide +kernel
theorem dX12_seasonOf_108 : decode cX12_seasonOf 108 = .ok (.ireturn, 1) := by decide +kernel
theorem dX12_season_0 : decode cX12_season 0 = .ok (.aload_n 0, 1) := by decide +kernel
theorem dX12_season_1 : decode cX12_season 1 = .ok (.iload_n 1, 1) := by decide +kernel
theorem dX12_season_2 : decode cX12_season 2 = .ok (.invokevirtual 140, 3) := by decide +kernel
theorem dX12_season_5 : decode cX12_season 5 = .ok (.ifCond .eq 11, 3) := by decide +kernel
theorem dX12_season_8 : decode cX12_season 8 = .ok (.aload_n 0, 1) := by decide +kernel
theorem dX12_season_9 : decode cX12_season 9 = .ok (.iload_n 1, 1) := by decide +kernel
theorem dX12_season_10 : decode cX12_season 10 = .ok (.invokevirtual 266, 3) := by decide +kernel
theorem dX12_season_13 : decode cX12_season 13 = .ok (.goto 5, 3) := by decide +kernel
theorem dX12_season_16 : decode cX12_season 16 = .ok (.bipush (-101), 2) := by decide +kernel
theorem dX12_season_18 : decode cX12_season 18 = .ok (.ireturn, 1) := by decide +kernel
theorem dX12_tenths_0 : decode cX12_tenths 0 = .ok (.iconst 5, 1) := by decide +kernel
theorem dX12_tenths_1 : decode cX12_tenths 1 = .ok (.aload_n 0, 1) := by decide +kernel
theorem dX12_tenths_2 : decode cX12_tenths 2 = .ok (.iload_n 1, 1) := by decide +kernel
theorem dX12_tenths_3 : decode cX12_tenths 3 = .ok (.invokevirtual 143, 3) := by decide +kernel
theorem dX12_tenths_6 : decode cX12_tenths 6 = .ok (.iadd, 1) := by decide +kernel
theorem dX12_tenths_7 : decode cX12_tenths 7 = .ok (.aload_n 0, 1) := by decide +kernel
theorem dX12_tenths_8 : decode cX12_tenths 8 = .ok (.iload_n 2, 1) := by decide +kernel
theorem dX12_tenths_9 : decode cX12_tenths 9 = .ok (.invokevirtual 143, 3) := by decide +kernel
theorem dX12_tenths_12 : decode cX12_tenths 12 = .ok (.isub, 1) := by decide +kernel
theorem dX12_tenths_13 : decode cX12_tenths 13 = .ok (.istore_n 3, 1) := by decide +kernel
theorem dX12_tenths_14 : decode cX12_tenths 14 = .ok (.iload_n 3, 1) := by decide +kernel
theorem dX12_tenths_15 : decode cX12_tenths 15 = .ok (.iconst 1, 1) := by decide +kernel
theorem dX12_tenths_16 : decode cX12_tenths 16 = .ok (.if_icmp .ge 7, 3) := by decide +kernel
theorem dX12_tenths_19 : decode cX12_tenths 19 = .ok (.iconst 1, 1) := by decide +kernel
theorem dX12_tenths_20 : decode cX12_tenths 20 = .ok (.goto 15, 3) := by decide +kernel
theorem dX12_tenths_23 : decode cX12_tenths 23 = .ok (.iload_n 3, 1) := by decide +kernel
theorem dX12_tenths_24 : decode cX12_tenths 24 = .ok (.bipush 9, 2) := by decide +kernel
theorem dX12_tenths_26 : decode cX12_tenths 26 = .ok (.if_icmp .le 8, 3) := by decide +kernel
theorem dX12_tenths_29 : decode cX12_tenths 29 = .ok (.bipush 9, 2) := by decide +kernel
theorem dX12_tenths_31 : decode cX12_tenths 31 = .ok (.goto 4, 3) := by decide +kernel
theorem dX12_tenths_34 : decode cX12_tenths 34 = .ok (.iload_n 3, 1) := by decide +kernel
theorem dX12_tenths_35 : decode cX12_tenths 35 = .ok (.ireturn, 1) := by decide +kernel
theorem dX12_areFour_0 : decode cX12_areFour 0 = .ok (.aload_n 0, 1) := by decide +kernel
theorem dX12_areFour_1 : decode cX12_areFour 1 = .ok (.iload_n 1, 1) := by decide +kernel
theorem dX12_areFour_2 : decode cX12_areFour 2 = .ok (.iload_n 2, 1) := by decide +kernel
theorem dX12_areFour_3 : decode cX12_areFour 3 = .ok (.invokevirtual 155, 3) := by decide +kernel
theorem dX12_areFour_6 : decode cX12_areFour 6 = .ok (.ifCond .eq 39, 3) := by decide +kernel
theorem dX12_areFour_9 : decode cX12_areFour 9 = .ok (.aload_n 0, 1) := by decide +kernel
theorem dX12_areFour_10 : decode cX12_areFour 10 = .ok (.iload_n 3, 1) := by decide +kernel
theorem dX12_areFour_11 : decode cX12_areFour 11 = .ok (.iload 4, 2) := by decide +kernel
theorem dX12_areFour_13 : decode cX12_areFour 13 = .ok (.invokevirtual 155, 3) := by decide +kernel
theorem dX12_areFour_16 : decode cX12_areFour 16 = .ok (.ifCond .eq 29, 3) := by decide +kernel
theorem dX12_areFour_19 : decode cX12_areFour 19 = .ok (.iload_n 1, 1) := by decide +kernel
theorem dX12_areFour_20 : decode cX12_areFour 20 = .ok (.iload_n 3, 1) := by decide +kernel
theorem dX12_areFour_21 : decode cX12_areFour 21 = .ok (.if_icmp .eq 24, 3) := by decide +kernel
theorem dX12_areFour_24 : decode cX12_areFour 24 = .ok (.iload_n 1, 1) := by decide +kernel
theorem dX12_areFour_25 : decode cX12_areFour 25 = .ok (.iload 4, 2) := by decide +kernel
theorem dX12_areFour_27 : decode cX12_areFour 27 = .ok (.if_icmp .eq 18, 3) := by decide +kernel
theorem dX12_areFour_30 : decode cX12_areFour 30 = .ok (.iload_n 2, 1) := by decide +kernel
theorem dX12_areFour_31 : decode cX12_areFour 31 = .ok (.iload_n 3, 1) := by decide +kernel
theorem dX12_areFour_32 : decode cX12_areFour 32 = .ok (.if_icmp .eq 13, 3) := by decide +kernel
theorem dX12_areFour_35 : decode cX12_areFour 35 = .ok (.iload_n 2, 1) := by decide +kernel
theorem dX12_areFour_36 : decode cX12_areFour 36 = .ok (.iload 4, 2) := by decide +kernel
theorem dX12_areFour_38 : decode cX12_areFour 38 = .ok (.if_icmp .eq 7, 3) := by decide +kernel
theorem dX12_areFour_41 : decode cX12_areFour 41 = .ok (.iconst 1, 1) := by decide +kernel
theorem dX12_areFour_42 : decode cX12_areFour 42 = .ok (.goto 4, 3) := by decide +kernel
theorem dX12_areFour_45 : decode cX12_areFour 45 = .ok (.iconst 0, 1) := by decide +kernel
theorem dX12_areFour_46 : decode cX12_areFour 46 = .ok (.ireturn, 1) := by decide +kernel
theorem dX12_wins_0 : decode cX12_wins 0 = .ok (.aload_n 0, 1) := by decide +kernel
theorem dX12_wins_1 : decode cX12_wins 1 = .ok (.iload_n 1, 1) := by decide +kernel
theorem dX12_wins_2 : decode cX12_wins 2 = .ok (.iload_n 2, 1) := by decide +kernel
theorem dX12_wins_3 : decode cX12_wins 3 = .ok (.invokevirtual 269, 3) := by decide +kernel
theorem dX12_wins_6 : decode cX12_wins 6 = .ok (.aload_n 0, 1) := by decide +kernel
theorem dX12_wins_7 : decode cX12_wins 7 = .ok (.iload_n 3, 1) := by decide +kernel
theorem dX12_wins_8 : decode cX12_wins 8 = .ok (.iload 4, 2) := by decide +kernel
theorem dX12_wins_10 : decode cX12_wins 10 = .ok (.invokevirtual 269, 3) := by decide +kernel
theorem dX12_wins_13 : decode cX12_wins 13 = .ok (.aload_n 0, 1) := by decide +kernel
theorem dX12_wins_14 : decode cX12_wins 14 = .ok (.iload_n 1, 1) := by decide +kernel
theorem dX12_wins_15 : decode cX12_wins 15 = .ok (.iload_n 3, 1) := by decide +kernel
theorem dX12_wins_16 : decode cX12_wins 16 = .ok (.invokevirtual 269, 3) := by decide +kernel
theorem dX12_wins_19 : decode cX12_wins 19 = .ok (.imul, 1) := by decide +kernel
theorem dX12_wins_20 : decode cX12_wins 20 = .ok (.aload_n 0, 1) := by decide +kernel
theorem dX12_wins_21 : decode cX12_wins 21 = .ok (.iload 4, 2) := by decide +kernel
theorem dX12_wins_23 : decode cX12_wins 23 = .ok (.iload_n 3, 1) := by decide +kernel
theorem dX12_wins_24 : decode cX12_wins 24 = .ok (.invokevirtual 269, 3) := by decide +kernel
theorem dX12_wins_27 : decode cX12_wins 27 = .ok (.aload_n 0, 1) := by decide +kernel
theorem dX12_wins_28 : decode cX12_wins 28 = .ok (.iload_n 1, 1) := by decide +kernel
theorem dX12_wins_29 : decode cX12_wins 29 = .ok (.iload 4, 2) := by decide +kernel
theorem dX12_wins_31 : decode cX12_wins 31 = .ok (.invokevirtual 269, 3) := by decide +kernel
theorem dX12_wins_34 : decode cX12_wins 34 = .ok (.imul, 1) := by decide +kernel
theorem dX12_wins_35 : decode cX12_wins 35 = .ok (.iadd, 1) := by decide +kernel
theorem dX12_wins_36 : decode cX12_wins 36 = .ok (.imul, 1) := by decide +kernel
theorem dX12_wins_37 : decode cX12_wins 37 = .ok (.ireturn, 1) := by decide +kernel
theorem dX12_tree_0 : decode cX12_tree 0 = .ok (.aload_n 0, 1) := by decide +kernel
theorem dX12_tree_1 : decode cX12_tree 1 = .ok (.iload_n 1, 1) := by decide +kernel
theorem dX12_tree_2 : decode cX12_tree 2 = .ok (.iload_n 2, 1) := by decide +kernel
theorem dX12_tree_3 : decode cX12_tree 3 = .ok (.iload_n 3, 1) := by decide +kernel
theorem dX12_tree_4 : decode cX12_tree 4 = .ok (.iload 4, 2) := by decide +kernel
theorem dX12_tree_6 : decode cX12_tree 6 = .ok (.invokevirtual 272, 3) := by decide +kernel
theorem dX12_tree_9 : decode cX12_tree 9 = .ok (.ifCond .ne 6, 3) := by decide +kernel
theorem dX12_tree_12 : decode cX12_tree 12 = .ok (.bipush (-101), 2) := by decide +kernel
theorem dX12_tree_14 : decode cX12_tree 14 = .ok (.ireturn, 1) := by decide +kernel
theorem dX12_tree_15 : decode cX12_tree 15 = .ok (.iload 5, 2) := by decide +kernel
theorem dX12_tree_17 : decode cX12_tree 17 = .ok (.i2l, 1) := by decide +kernel
theorem dX12_tree_18 : decode cX12_tree 18 = .ok (.lconst 0, 1) := by decide +kernel
theorem dX12_tree_19 : decode cX12_tree 19 = .ok (.ldc2_w 126, 3) := by decide +kernel
theorem dX12_tree_22 : decode cX12_tree 22 = .ok (.invokestatic 93, 3) := by decide +kernel
theorem dX12_tree_25 : decode cX12_tree 25 = .ok (.ifCond .eq 11, 3) := by decide +kernel
theorem dX12_tree_28 : decode cX12_tree 28 = .ok (.iload 6, 2) := by decide +kernel
theorem dX12_tree_30 : decode cX12_tree 30 = .ok (.invokestatic 244, 3) := by decide +kernel
theorem dX12_tree_33 : decode cX12_tree 33 = .ok (.ifCond .ne 6, 3) := by decide +kernel
theorem dX12_tree_36 : decode cX12_tree 36 = .ok (.bipush (-102), 2) := by decide +kernel
theorem dX12_tree_38 : decode cX12_tree 38 = .ok (.ireturn, 1) := by decide +kernel
theorem dX12_tree_39 : decode cX12_tree 39 = .ok (.iload 5, 2) := by decide +kernel
theorem dX12_tree_41 : decode cX12_tree 41 = .ok (.ifCond .ne 15, 3) := by decide +kernel
theorem dX12_tree_44 : decode cX12_tree 44 = .ok (.aload_n 0, 1) := by decide +kernel
theorem dX12_tree_45 : decode cX12_tree 45 = .ok (.iload_n 1, 1) := by decide +kernel
theorem dX12_tree_46 : decode cX12_tree 46 = .ok (.iload_n 2, 1) := by decide +kernel
theorem dX12_tree_47 : decode cX12_tree 47 = .ok (.iload_n 3, 1) := by decide +kernel
theorem dX12_tree_48 : decode cX12_tree 48 = .ok (.iload 4, 2) := by decide +kernel
theorem dX12_tree_50 : decode cX12_tree 50 = .ok (.invokevirtual 276, 3) := by decide +kernel
theorem dX12_tree_53 : decode cX12_tree 53 = .ok (.goto 48, 3) := by decide +kernel
theorem dX12_tree_56 : decode cX12_tree 56 = .ok (.iload 5, 2) := by decide +kernel
theorem dX12_tree_58 : decode cX12_tree 58 = .ok (.iconst 1, 1) := by decide +kernel
theorem dX12_tree_59 : decode cX12_tree 59 = .ok (.if_icmp .ne 15, 3) := by decide +kernel
theorem dX12_tree_62 : decode cX12_tree 62 = .ok (.aload_n 0, 1) := by decide +kernel
theorem dX12_tree_63 : decode cX12_tree 63 = .ok (.iload_n 2, 1) := by decide +kernel
theorem dX12_tree_64 : decode cX12_tree 64 = .ok (.iload_n 1, 1) := by decide +kernel
theorem dX12_tree_65 : decode cX12_tree 65 = .ok (.iload_n 3, 1) := by decide +kernel
theorem dX12_tree_66 : decode cX12_tree 66 = .ok (.iload 4, 2) := by decide +kernel
theorem dX12_tree_68 : decode cX12_tree 68 = .ok (.invokevirtual 276, 3) := by decide +kernel
theorem dX12_tree_71 : decode cX12_tree 71 = .ok (.goto 30, 3) := by decide +kernel
theorem dX12_tree_74 : decode cX12_tree 74 = .ok (.iload 5, 2) := by decide +kernel
theorem dX12_tree_76 : decode cX12_tree 76 = .ok (.iconst 2, 1) := by decide +kernel
theorem dX12_tree_77 : decode cX12_tree 77 = .ok (.if_icmp .ne 15, 3) := by decide +kernel
theorem dX12_tree_80 : decode cX12_tree 80 = .ok (.aload_n 0, 1) := by decide +kernel
theorem dX12_tree_81 : decode cX12_tree 81 = .ok (.iload_n 3, 1) := by decide +kernel
theorem dX12_tree_82 : decode cX12_tree 82 = .ok (.iload 4, 2) := by decide +kernel
theorem dX12_tree_84 : decode cX12_tree 84 = .ok (.iload_n 1, 1) := by decide +kernel
theorem dX12_tree_85 : decode cX12_tree 85 = .ok (.iload_n 2, 1) := by decide +kernel
theorem dX12_tree_86 : decode cX12_tree 86 = .ok (.invokevirtual 276, 3) := by decide +kernel
theorem dX12_tree_89 : decode cX12_tree 89 = .ok (.goto 12, 3) := by decide +kernel
theorem dX12_tree_92 : decode cX12_tree 92 = .ok (.aload_n 0, 1) := by decide +kernel
theorem dX12_tree_93 : decode cX12_tree 93 = .ok (.iload 4, 2) := by decide +kernel
theorem dX12_tree_95 : decode cX12_tree 95 = .ok (.iload_n 3, 1) := by decide +kernel
theorem dX12_tree_96 : decode cX12_tree 96 = .ok (.iload_n 1, 1) := by decide +kernel
theorem dX12_tree_97 : decode cX12_tree 97 = .ok (.iload_n 2, 1) := by decide +kernel
theorem dX12_tree_98 : decode cX12_tree 98 = .ok (.invokevirtual 276, 3) := by decide +kernel
theorem dX12_tree_101 : decode cX12_tree 101 = .ok (.istore 7, 2) := by decide +kernel
theorem dX12_tree_103 : decode cX12_tree 103 = .ok (.iload 7, 2) := by decide +kernel
theorem dX12_tree_105 : decode cX12_tree 105 = .ok (.i2l, 1) := by decide +kernel
theorem dX12_tree_106 : decode cX12_tree 106 = .ok (.ldc2_w 279, 3) := by decide +kernel
theorem dX12_tree_109 : decode cX12_tree 109 = .ok (.iload 6, 2) := by decide +kernel
theorem dX12_tree_111 : decode cX12_tree 111 = .ok (.invokestatic 255, 3) := by decide +kernel
theorem dX12_tree_114 : decode cX12_tree 114 = .ok (.l2i, 1) := by decide +kernel
theorem dX12_tree_115 : decode cX12_tree 115 = .ok (.ireturn, 1) := by decide +kernel
theorem dX12_last_0 : decode cX12_last 0 = .ok (.aload_n 0, 1) := by decide +kernel
theorem dX12_last_1 : decode cX12_last 1 = .ok (.iload_n 1, 1) := by decide +kernel
theorem dX12_last_2 : decode cX12_last 2 = .ok (.iload_n 2, 1) := by decide +kernel
theorem dX12_last_3 : decode cX12_last 3 = .ok (.iload_n 3, 1) := by decide +kernel
theorem dX12_last_4 : decode cX12_last 4 = .ok (.iload 4, 2) := by decide +kernel
theorem dX12_last_6 : decode cX12_last 6 = .ok (.invokevirtual 272, 3) := by decide +kernel
theorem dX12_last_9 : decode cX12_last 9 = .ok (.ifCond .ne 6, 3) := by decide +kernel
theorem dX12_last_12 : decode cX12_last 12 = .ok (.bipush (-101), 2) := by decide +kernel
theorem dX12_last_14 : decode cX12_last 14 = .ok (.ireturn, 1) := by decide +kernel
theorem dX12_last_15 : decode cX12_last 15 = .ok (.aload_n 0, 1) := by decide +kernel
theorem dX12_last_16 : decode cX12_last 16 = .ok (.iload_n 1, 1) := by decide +kernel
theorem dX12_last_17 : decode cX12_last 17 = .ok (.iload 4, 2) := by decide +kernel
theorem dX12_last_19 : decode cX12_last 19 = .ok (.invokevirtual 269, 3) := by decide +kernel
theorem dX12_last_22 : decode cX12_last 22 = .ok (.aload_n 0, 1) := by decide +kernel
theorem dX12_last_23 : decode cX12_last 23 = .ok (.iload_n 2, 1) := by decide +kernel
theorem dX12_last_24 : decode cX12_last 24 = .ok (.iload_n 3, 1) := by decide +kernel
theorem dX12_last_25 : decode cX12_last 25 = .ok (.invokevirtual 269, 3) := by decide +kernel
theorem dX12_last_28 : decode cX12_last 28 = .ok (.imul, 1) := by decide +kernel
theorem dX12_last_29 : decode cX12_last 29 = .ok (.aload_n 0, 1) := by decide +kernel
theorem dX12_last_30 : decode cX12_last 30 = .ok (.iload_n 1, 1) := by decide +kernel
theorem dX12_last_31 : decode cX12_last 31 = .ok (.iload_n 3, 1) := by decide +kernel
theorem dX12_last_32 : decode cX12_last 32 = .ok (.invokevirtual 269, 3) := by decide +kernel
theorem dX12_last_35 : decode cX12_last 35 = .ok (.aload_n 0, 1) := by decide +kernel
theorem dX12_last_36 : decode cX12_last 36 = .ok (.iload_n 2, 1) := by decide +kernel
theorem dX12_last_37 : decode cX12_last 37 = .ok (.iload 4, 2) := by decide +kernel
theorem dX12_last_39 : decode cX12_last 39 = .ok (.invokevirtual 269, 3) := by decide +kernel
theorem dX12_last_42 : decode cX12_last 42 = .ok (.imul, 1) := by decide +kernel
theorem dX12_last_43 : decode cX12_last 43 = .ok (.if_icmp .le 7, 3) := by decide +kernel
theorem dX12_last_46 : decode cX12_last 46 = .ok (.iconst 2, 1) := by decide +kernel
theorem dX12_last_47 : decode cX12_last 47 = .ok (.goto 4, 3) := by decide +kernel
theorem dX12_last_50 : decode cX12_last 50 = .ok (.iconst 1, 1) := by decide +kernel
theorem dX12_last_51 : decode cX12_last 51 = .ok (.ireturn, 1) := by decide +kernel
theorem dX12_run_0 : decode cX12_run 0 = .ok (.iload_n 1, 1) := by decide +kernel
theorem dX12_run_1 : decode cX12_run 1 = .ok (.i2l, 1) := by decide +kernel
theorem dX12_run_2 : decode cX12_run 2 = .ok (.lconst 1, 1) := by decide +kernel
theorem dX12_run_3 : decode cX12_run 3 = .ok (.ldc2_w 133, 3) := by decide +kernel
theorem dX12_run_6 : decode cX12_run 6 = .ok (.invokestatic 93, 3) := by decide +kernel
theorem dX12_run_9 : decode cX12_run 9 = .ok (.ifCond .eq 22, 3) := by decide +kernel
theorem dX12_run_12 : decode cX12_run 12 = .ok (.iload_n 2, 1) := by decide +kernel
theorem dX12_run_13 : decode cX12_run 13 = .ok (.i2l, 1) := by decide +kernel
theorem dX12_run_14 : decode cX12_run 14 = .ok (.lconst 0, 1) := by decide +kernel
theorem dX12_run_15 : decode cX12_run 15 = .ok (.ldc2_w 253, 3) := by decide +kernel
theorem dX12_run_18 : decode cX12_run 18 = .ok (.invokestatic 93, 3) := by decide +kernel
theorem dX12_run_21 : decode cX12_run 21 = .ok (.ifCond .eq 10, 3) := by decide +kernel
theorem dX12_run_24 : decode cX12_run 24 = .ok (.iload_n 3, 1) := by decide +kernel
theorem dX12_run_25 : decode cX12_run 25 = .ok (.invokestatic 244, 3) := by decide +kernel
theorem dX12_run_28 : decode cX12_run 28 = .ok (.ifCond .ne 6, 3) := by decide +kernel
theorem dX12_run_31 : decode cX12_run 31 = .ok (.bipush (-102), 2) := by decide +kernel
theorem dX12_run_33 : decode cX12_run 33 = .ok (.ireturn, 1) := by decide +kernel
theorem dX12_run_34 : decode cX12_run 34 = .ok (.lconst 1, 1) := by decide +kernel
theorem dX12_run_35 : decode cX12_run 35 = .ok (.lstore 4, 2) := by decide +kernel
theorem dX12_run_37 : decode cX12_run 37 = .ok (.lconst 1, 1) := by decide +kernel
theorem dX12_run_38 : decode cX12_run 38 = .ok (.lstore 6, 2) := by decide +kernel
theorem dX12_run_40 : decode cX12_run 40 = .ok (.iconst 0, 1) := by decide +kernel
theorem dX12_run_41 : decode cX12_run 41 = .ok (.istore 8, 2) := by decide +kernel
theorem dX12_run_43 : decode cX12_run 43 = .ok (.iload 8, 2) := by decide +kernel
theorem dX12_run_45 : decode cX12_run 45 = .ok (.iload_n 1, 1) := by decide +kernel
theorem dX12_run_46 : decode cX12_run 46 = .ok (.if_icmp .ge 24, 3) := by decide +kernel
theorem dX12_run_49 : decode cX12_run 49 = .ok (.lload 4, 2) := by decide +kernel
theorem dX12_run_51 : decode cX12_run 51 = .ok (.iload_n 2, 1) := by decide +kernel
theorem dX12_run_52 : decode cX12_run 52 = .ok (.i2l, 1) := by decide +kernel
theorem dX12_run_53 : decode cX12_run 53 = .ok (.lmul, 1) := by decide +kernel
theorem dX12_run_54 : decode cX12_run 54 = .ok (.lstore 4, 2) := by decide +kernel
theorem dX12_run_56 : decode cX12_run 56 = .ok (.lload 6, 2) := by decide +kernel
theorem dX12_run_58 : decode cX12_run 58 = .ok (.ldc2_w 253, 3) := by decide +kernel
theorem dX12_run_61 : decode cX12_run 61 = .ok (.lmul, 1) := by decide +kernel
theorem dX12_run_62 : decode cX12_run 62 = .ok (.lstore 6, 2) := by decide +kernel
theorem dX12_run_64 : decode cX12_run 64 = .ok (.iinc 8 1, 3) := by decide +kernel
theorem dX12_run_67 : decode cX12_run 67 = .ok (.goto (-24), 3) := by decide +kernel
theorem dX12_run_70 : decode cX12_run 70 = .ok (.lload 4, 2) := by decide +kernel
theorem dX12_run_72 : decode cX12_run 72 = .ok (.lload 6, 2) := by decide +kernel
theorem dX12_run_74 : decode cX12_run 74 = .ok (.iload_n 3, 1) := by decide +kernel
theorem dX12_run_75 : decode cX12_run 75 = .ok (.invokestatic 255, 3) := by decide +kernel
theorem dX12_run_78 : decode cX12_run 78 = .ok (.l2i, 1) := by decide +kernel
theorem dX12_run_79 : decode cX12_run 79 = .ok (.ireturn, 1) := by decide +kernel
theorem dX12_image_0 : decode cX12_image 0 = .ok (.iconst 0, 1) := by decide +kernel
theorem dX12_image_1 : decode cX12_image 1 = .ok (.istore_n 1, 1) := by decide +kernel
theorem dX12_image_2 : decode cX12_image 2 = .ok (.iload_n 1, 1) := by decide +kernel
theorem dX12_image_3 : decode cX12_image 3 = .ok (.bipush 8, 2) := by decide +kernel
theorem dX12_image_5 : decode cX12_image 5 = .ok (.if_icmp .ge 79, 3) := by decide +kernel
theorem dX12_image_8 : decode cX12_image 8 = .ok (.aload_n 0, 1) := by decide +kernel
theorem dX12_image_9 : decode cX12_image 9 = .ok (.getfield 74, 3) := by decide +kernel
theorem dX12_image_12 : decode cX12_image 12 = .ok (.iconst 4, 1) := by decide +kernel
theorem dX12_image_13 : decode cX12_image 13 = .ok (.iload_n 1, 1) := by decide +kernel
theorem dX12_image_14 : decode cX12_image 14 = .ok (.imul, 1) := by decide +kernel
theorem dX12_image_15 : decode cX12_image 15 = .ok (.aload_n 0, 1) := by decide +kernel
theorem dX12_image_16 : decode cX12_image 16 = .ok (.getfield 40, 3) := by decide +kernel
theorem dX12_image_19 : decode cX12_image 19 = .ok (.iload_n 1, 1) := by decide +kernel
theorem dX12_image_20 : decode cX12_image 20 = .ok (.iaload, 1) := by decide +kernel
theorem dX12_image_21 : decode cX12_image 21 = .ok (.iastore, 1) := by decide +kernel
theorem dX12_image_22 : decode cX12_image 22 = .ok (.aload_n 0, 1) := by decide +kernel
theorem dX12_image_23 : decode cX12_image 23 = .ok (.getfield 74, 3) := by decide +kernel
theorem dX12_image_26 : decode cX12_image 26 = .ok (.iconst 4, 1) := by decide +kernel
theorem dX12_image_27 : decode cX12_image 27 = .ok (.iload_n 1, 1) := by decide +kernel
theorem dX12_image_28 : decode cX12_image 28 = .ok (.imul, 1) := by decide +kernel
theorem dX12_image_29 : decode cX12_image 29 = .ok (.iconst 1, 1) := by decide +kernel
theorem dX12_image_30 : decode cX12_image 30 = .ok (.iadd, 1) := by decide +kernel
theorem dX12_image_31 : decode cX12_image 31 = .ok (.aload_n 0, 1) := by decide +kernel
theorem dX12_image_32 : decode cX12_image 32 = .ok (.getfield 43, 3) := by decide +kernel
theorem dX12_image_35 : decode cX12_image 35 = .ok (.iload_n 1, 1) := by decide +kernel
theorem dX12_image_36 : decode cX12_image 36 = .ok (.iaload, 1) := by decide +kernel
theorem dX12_image_37 : decode cX12_image 37 = .ok (.iastore, 1) := by decide +kernel
theorem dX12_image_38 : decode cX12_image 38 = .ok (.aload_n 0, 1) := by decide +kernel
theorem dX12_image_39 : decode cX12_image 39 = .ok (.getfield 74, 3) := by decide +kernel
theorem dX12_image_42 : decode cX12_image 42 = .ok (.iconst 4, 1) := by decide +kernel
theorem dX12_image_43 : decode cX12_image 43 = .ok (.iload_n 1, 1) := by decide +kernel
theorem dX12_image_44 : decode cX12_image 44 = .ok (.imul, 1) := by decide +kernel
theorem dX12_image_45 : decode cX12_image 45 = .ok (.iconst 2, 1) := by decide +kernel
theorem dX12_image_46 : decode cX12_image 46 = .ok (.iadd, 1) := by decide +kernel
theorem dX12_image_47 : decode cX12_image 47 = .ok (.aload_n 0, 1) := by decide +kernel
theorem dX12_image_48 : decode cX12_image 48 = .ok (.getfield 46, 3) := by decide +kernel
theorem dX12_image_51 : decode cX12_image 51 = .ok (.iload_n 1, 1) := by decide +kernel
theorem dX12_image_52 : decode cX12_image 52 = .ok (.baload, 1) := by decide +kernel
theorem dX12_image_53 : decode cX12_image 53 = .ok (.ifCond .eq 7, 3) := by decide +kernel
theorem dX12_image_56 : decode cX12_image 56 = .ok (.iconst 1, 1) := by decide +kernel
theorem dX12_image_57 : decode cX12_image 57 = .ok (.goto 4, 3) := by decide +kernel
theorem dX12_image_60 : decode cX12_image 60 = .ok (.iconst 0, 1) := by decide +kernel
theorem dX12_image_61 : decode cX12_image 61 = .ok (.iastore, 1) := by decide +kernel
theorem dX12_image_62 : decode cX12_image 62 = .ok (.aload_n 0, 1) := by decide +kernel
theorem dX12_image_63 : decode cX12_image 63 = .ok (.getfield 74, 3) := by decide +kernel
theorem dX12_image_66 : decode cX12_image 66 = .ok (.iconst 4, 1) := by decide +kernel
theorem dX12_image_67 : decode cX12_image 67 = .ok (.iload_n 1, 1) := by decide +kernel
theorem dX12_image_68 : decode cX12_image 68 = .ok (.imul, 1) := by decide +kernel
theorem dX12_image_69 : decode cX12_image 69 = .ok (.iconst 3, 1) := by decide +kernel
theorem dX12_image_70 : decode cX12_image 70 = .ok (.iadd, 1) := by decide +kernel
theorem dX12_image_71 : decode cX12_image 71 = .ok (.aload_n 0, 1) := by decide +kernel
theorem dX12_image_72 : decode cX12_image 72 = .ok (.getfield 50, 3) := by decide +kernel
theorem dX12_image_75 : decode cX12_image 75 = .ok (.iload_n 1, 1) := by decide +kernel
theorem dX12_image_76 : decode cX12_image 76 = .ok (.iaload, 1) := by decide +kernel
theorem dX12_image_77 : decode cX12_image 77 = .ok (.iastore, 1) := by decide +kernel
theorem dX12_image_78 : decode cX12_image 78 = .ok (.iinc 1 1, 3) := by decide +kernel
theorem dX12_image_81 : decode cX12_image 81 = .ok (.goto (-79), 3) := by decide +kernel
theorem dX12_image_84 : decode cX12_image 84 = .ok (.iconst 0, 1) := by decide +kernel
theorem dX12_image_85 : decode cX12_image 85 = .ok (.istore_n 1, 1) := by decide +kernel
theorem dX12_image_86 : decode cX12_image 86 = .ok (.iload_n 1, 1) := by decide +kernel
theorem dX12_image_87 : decode cX12_image 87 = .ok (.bipush 10, 2) := by decide +kernel
theorem dX12_image_89 : decode cX12_image 89 = .ok (.if_icmp .ge 39, 3) := by decide +kernel
theorem dX12_image_92 : decode cX12_image 92 = .ok (.aload_n 0, 1) := by decide +kernel
theorem dX12_image_93 : decode cX12_image 93 = .ok (.getfield 77, 3) := by decide +kernel
theorem dX12_image_96 : decode cX12_image 96 = .ok (.iconst 2, 1) := by decide +kernel
theorem dX12_image_97 : decode cX12_image 97 = .ok (.iload_n 1, 1) := by decide +kernel
theorem dX12_image_98 : decode cX12_image 98 = .ok (.imul, 1) := by decide +kernel
theorem dX12_image_99 : decode cX12_image 99 = .ok (.aload_n 0, 1) := by decide +kernel
theorem dX12_image_100 : decode cX12_image 100 = .ok (.getfield 53, 3) := by decide +kernel
theorem dX12_image_103 : decode cX12_image 103 = .ok (.iload_n 1, 1) := by decide +kernel
theorem dX12_image_104 : decode cX12_image 104 = .ok (.iaload, 1) := by decide +kernel
theorem dX12_image_105 : decode cX12_image 105 = .ok (.iastore, 1) := by decide +kernel
theorem dX12_image_106 : decode cX12_image 106 = .ok (.aload_n 0, 1) := by decide +kernel
theorem dX12_image_107 : decode cX12_image 107 = .ok (.getfield 77, 3) := by decide +kernel
theorem dX12_image_110 : decode cX12_image 110 = .ok (.iconst 2, 1) := by decide +kernel
theorem dX12_image_111 : decode cX12_image 111 = .ok (.iload_n 1, 1) := by decide +kernel
theorem dX12_image_112 : decode cX12_image 112 = .ok (.imul, 1) := by decide +kernel
theorem dX12_image_113 : decode cX12_image 113 = .ok (.iconst 1, 1) := by decide +kernel
theorem dX12_image_114 : decode cX12_image 114 = .ok (.iadd, 1) := by decide +kernel
theorem dX12_image_115 : decode cX12_image 115 = .ok (.aload_n 0, 1) := by decide +kernel
theorem dX12_image_116 : decode cX12_image 116 = .ok (.getfield 56, 3) := by decide +kernel
theorem dX12_image_119 : decode cX12_image 119 = .ok (.iload_n 1, 1) := by decide +kernel
theorem dX12_image_120 : decode cX12_image 120 = .ok (.iaload, 1) := by decide +kernel
theorem dX12_image_121 : decode cX12_image 121 = .ok (.iastore, 1) := by decide +kernel
theorem dX12_image_122 : decode cX12_image 122 = .ok (.iinc 1 1, 3) := by decide +kernel
theorem dX12_image_125 : decode cX12_image 125 = .ok (.goto (-39), 3) := by decide +kernel
theorem dX12_image_128 : decode cX12_image 128 = .ok (.aload_n 0, 1) := by decide +kernel
theorem dX12_image_129 : decode cX12_image 129 = .ok (.aload_n 0, 1) := by decide +kernel
theorem dX12_image_130 : decode cX12_image 130 = .ok (.getfield 137, 3) := by decide +kernel
theorem dX12_image_133 : decode cX12_image 133 = .ok (.putfield 281, 3) := by decide +kernel
theorem dX12_image_136 : decode cX12_image 136 = .ok (.aload_n 0, 1) := by decide +kernel
theorem dX12_image_137 : decode cX12_image 137 = .ok (.aload_n 0, 1) := by decide +kernel
theorem dX12_image_138 : decode cX12_image 138 = .ok (.getfield 193, 3) := by decide +kernel
theorem dX12_image_141 : decode cX12_image 141 = .ok (.putfield 284, 3) := by decide +kernel
theorem dX12_image_144 : decode cX12_image 144 = .ok (.aload_n 0, 1) := by decide +kernel
theorem dX12_image_145 : decode cX12_image 145 = .ok (.iconst 1, 1) := by decide +kernel
theorem dX12_image_146 : decode cX12_image 146 = .ok (.putfield 287, 3) := by decide +kernel
theorem dX12_image_149 : decode cX12_image 149 = .ok (.aload_n 0, 1) := by decide +kernel
theorem dX12_image_150 : decode cX12_image 150 = .ok (.getfield 137, 3) := by decide +kernel
theorem dX12_image_153 : decode cX12_image 153 = .ok (.ireturn, 1) := by decide +kernel
theorem dX12_restore_0 : decode cX12_restore 0 = .ok (.aload_n 0, 1) := by decide +kernel
theorem dX12_restore_1 : decode cX12_restore 1 = .ok (.getfield 287, 3) := by decide +kernel
theorem dX12_restore_4 : decode cX12_restore 4 = .ok (.ifCond .ne 6, 3) := by decide +kernel
theorem dX12_restore_7 : decode cX12_restore 7 = .ok (.bipush (-103), 2) := by decide +kernel
theorem dX12_restore_9 : decode cX12_restore 9 = .ok (.ireturn, 1) := by decide +kernel
theorem dX12_restore_10 : decode cX12_restore 10 = .ok (.iconst 0, 1) := by decide +kernel
theorem dX12_restore_11 : decode cX12_restore 11 = .ok (.istore_n 1, 1) := by decide +kernel
theorem dX12_restore_12 : decode cX12_restore 12 = .ok (.iload_n 1, 1) := by decide +kernel
theorem dX12_restore_13 : decode cX12_restore 13 = .ok (.aload_n 0, 1) := by decide +kernel
theorem dX12_restore_14 : decode cX12_restore 14 = .ok (.getfield 281, 3) := by decide +kernel
theorem dX12_restore_17 : decode cX12_restore 17 = .ok (.if_icmp .ge 80, 3) := by decide +kernel
theorem dX12_restore_20 : decode cX12_restore 20 = .ok (.aload_n 0, 1) := by decide +kernel
theorem dX12_restore_21 : decode cX12_restore 21 = .ok (.getfield 40, 3) := by decide +kernel
theorem dX12_restore_24 : decode cX12_restore 24 = .ok (.iload_n 1, 1) := by decide +kernel
theorem dX12_restore_25 : decode cX12_restore 25 = .ok (.aload_n 0, 1) := by decide +kernel
theorem dX12_restore_26 : decode cX12_restore 26 = .ok (.getfield 74, 3) := by decide +kernel
theorem dX12_restore_29 : decode cX12_restore 29 = .ok (.iconst 4, 1) := by decide +kernel
theorem dX12_restore_30 : decode cX12_restore 30 = .ok (.iload_n 1, 1) := by decide +kernel
theorem dX12_restore_31 : decode cX12_restore 31 = .ok (.imul, 1) := by decide +kernel
theorem dX12_restore_32 : decode cX12_restore 32 = .ok (.iaload, 1) := by decide +kernel
theorem dX12_restore_33 : decode cX12_restore 33 = .ok (.iastore, 1) := by decide +kernel
theorem dX12_restore_34 : decode cX12_restore 34 = .ok (.aload_n 0, 1) := by decide +kernel
theorem dX12_restore_35 : decode cX12_restore 35 = .ok (.getfield 43, 3) := by decide +kernel
theorem dX12_restore_38 : decode cX12_restore 38 = .ok (.iload_n 1, 1) := by decide +kernel
theorem dX12_restore_39 : decode cX12_restore 39 = .ok (.aload_n 0, 1) := by decide +kernel
theorem dX12_restore_40 : decode cX12_restore 40 = .ok (.getfield 74, 3) := by decide +kernel
theorem dX12_restore_43 : decode cX12_restore 43 = .ok (.iconst 4, 1) := by decide +kernel
theorem dX12_restore_44 : decode cX12_restore 44 = .ok (.iload_n 1, 1) := by decide +kernel
theorem dX12_restore_45 : decode cX12_restore 45 = .ok (.imul, 1) := by decide +kernel
theorem dX12_restore_46 : decode cX12_restore 46 = .ok (.iconst 1, 1) := by decide +kernel
theorem dX12_restore_47 : decode cX12_restore 47 = .ok (.iadd, 1) := by decide +kernel
theorem dX12_restore_48 : decode cX12_restore 48 = .ok (.iaload, 1) := by decide +kernel
theorem dX12_restore_49 : decode cX12_restore 49 = .ok (.iastore, 1) := by decide +kernel
theorem dX12_restore_50 : decode cX12_restore 50 = .ok (.aload_n 0, 1) := by decide +kernel
theorem dX12_restore_51 : decode cX12_restore 51 = .ok (.getfield 46, 3) := by decide +kernel
theorem dX12_restore_54 : decode cX12_restore 54 = .ok (.iload_n 1, 1) := by decide +kernel
theorem dX12_restore_55 : decode cX12_restore 55 = .ok (.aload_n 0, 1) := by decide +kernel
theorem dX12_restore_56 : decode cX12_restore 56 = .ok (.getfield 74, 3) := by decide +kernel
theorem dX12_restore_59 : decode cX12_restore 59 = .ok (.iconst 4, 1) := by decide +kernel
theorem dX12_restore_60 : decode cX12_restore 60 = .ok (.iload_n 1, 1) := by decide +kernel
theorem dX12_restore_61 : decode cX12_restore 61 = .ok (.imul, 1) := by decide +kernel
theorem dX12_restore_62 : decode cX12_restore 62 = .ok (.iconst 2, 1) := by decide +kernel
theorem dX12_restore_63 : decode cX12_restore 63 = .ok (.iadd, 1) := by decide +kernel
theorem dX12_restore_64 : decode cX12_restore 64 = .ok (.iaload, 1) := by decide +kernel
theorem dX12_restore_65 : decode cX12_restore 65 = .ok (.iconst 1, 1) := by decide +kernel
theorem dX12_restore_66 : decode cX12_restore 66 = .ok (.if_icmp .ne 7, 3) := by decide +kernel
theorem dX12_restore_69 : decode cX12_restore 69 = .ok (.iconst 1, 1) := by decide +kernel
theorem dX12_restore_70 : decode cX12_restore 70 = .ok (.goto 4, 3) := by decide +kernel
theorem dX12_restore_73 : decode cX12_restore 73 = .ok (.iconst 0, 1) := by decide +kernel
theorem dX12_restore_74 : decode cX12_restore 74 = .ok (.bastore, 1) := by decide +kernel
theorem dX12_restore_75 : decode cX12_restore 75 = .ok (.aload_n 0, 1) := by decide +kernel
theorem dX12_restore_76 : decode cX12_restore 76 = .ok (.getfield 50, 3) := by decide +kernel
theorem dX12_restore_79 : decode cX12_restore 79 = .ok (.iload_n 1, 1) := by decide +kernel
theorem dX12_restore_80 : decode cX12_restore 80 = .ok (.aload_n 0, 1) := by decide +kernel
theorem dX12_restore_81 : decode cX12_restore 81 = .ok (.getfield 74, 3) := by decide +kernel
theorem dX12_restore_84 : decode cX12_restore 84 = .ok (.iconst 4, 1) := by decide +kernel
theorem dX12_restore_85 : decode cX12_restore 85 = .ok (.iload_n 1, 1) := by decide +kernel
theorem dX12_restore_86 : decode cX12_restore 86 = .ok (.imul, 1) := by decide +kernel
theorem dX12_restore_87 : decode cX12_restore 87 = .ok (.iconst 3, 1) := by decide +kernel
theorem dX12_restore_88 : decode cX12_restore 88 = .ok (.iadd, 1) := by decide +kernel
theorem dX12_restore_89 : decode cX12_restore 89 = .ok (.iaload, 1) := by decide +kernel
theorem dX12_restore_90 : decode cX12_restore 90 = .ok (.iastore, 1) := by decide +kernel
theorem dX12_restore_91 : decode cX12_restore 91 = .ok (.iinc 1 1, 3) := by decide +kernel
theorem dX12_restore_94 : decode cX12_restore 94 = .ok (.goto (-82), 3) := by decide +kernel
theorem dX12_restore_97 : decode cX12_restore 97 = .ok (.iconst 0, 1) := by decide +kernel
theorem dX12_restore_98 : decode cX12_restore 98 = .ok (.istore_n 1, 1) := by decide +kernel
theorem dX12_restore_99 : decode cX12_restore 99 = .ok (.iload_n 1, 1) := by decide +kernel
theorem dX12_restore_100 : decode cX12_restore 100 = .ok (.bipush 10, 2) := by decide +kernel
theorem dX12_restore_102 : decode cX12_restore 102 = .ok (.if_icmp .ge 39, 3) := by decide +kernel
theorem dX12_restore_105 : decode cX12_restore 105 = .ok (.aload_n 0, 1) := by decide +kernel
theorem dX12_restore_106 : decode cX12_restore 106 = .ok (.getfield 53, 3) := by decide +kernel
theorem dX12_restore_109 : decode cX12_restore 109 = .ok (.iload_n 1, 1) := by decide +kernel
theorem dX12_restore_110 : decode cX12_restore 110 = .ok (.aload_n 0, 1) := by decide +kernel
theorem dX12_restore_111 : decode cX12_restore 111 = .ok (.getfield 77, 3) := by decide +kernel
theorem dX12_restore_114 : decode cX12_restore 114 = .ok (.iconst 2, 1) := by decide +kernel
theorem dX12_restore_115 : decode cX12_restore 115 = .ok (.iload_n 1, 1) := by decide +kernel
theorem dX12_restore_116 : decode cX12_restore 116 = .ok (.imul, 1) := by decide +kernel
theorem dX12_restore_117 : decode cX12_restore 117 = .ok (.iaload, 1) := by decide +kernel
theorem dX12_restore_118 : decode cX12_restore 118 = .ok (.iastore, 1) := by decide +kernel
theorem dX12_restore_119 : decode cX12_restore 119 = .ok (.aload_n 0, 1) := by decide +kernel
theorem dX12_restore_120 : decode cX12_restore 120 = .ok (.getfield 56, 3) := by decide +kernel
theorem dX12_restore_123 : decode cX12_restore 123 = .ok (.iload_n 1, 1) := by decide +kernel
theorem dX12_restore_124 : decode cX12_restore 124 = .ok (.aload_n 0, 1) := by decide +kernel
theorem dX12_restore_125 : decode cX12_restore 125 = .ok (.getfield 77, 3) := by decide +kernel
theorem dX12_restore_128 : decode cX12_restore 128 = .ok (.iconst 2, 1) := by decide +kernel
theorem dX12_restore_129 : decode cX12_restore 129 = .ok (.iload_n 1, 1) := by decide +kernel
theorem dX12_restore_130 : decode cX12_restore 130 = .ok (.imul, 1) := by decide +kernel
theorem dX12_restore_131 : decode cX12_restore 131 = .ok (.iconst 1, 1) := by decide +kernel
theorem dX12_restore_132 : decode cX12_restore 132 = .ok (.iadd, 1) := by decide +kernel
theorem dX12_restore_133 : decode cX12_restore 133 = .ok (.iaload, 1) := by decide +kernel
theorem dX12_restore_134 : decode cX12_restore 134 = .ok (.iastore, 1) := by decide +kernel
theorem dX12_restore_135 : decode cX12_restore 135 = .ok (.iinc 1 1, 3) := by decide +kernel
theorem dX12_restore_138 : decode cX12_restore 138 = .ok (.goto (-39), 3) := by decide +kernel
theorem dX12_restore_141 : decode cX12_restore 141 = .ok (.aload_n 0, 1) := by decide +kernel
theorem dX12_restore_142 : decode cX12_restore 142 = .ok (.aload_n 0, 1) := by decide +kernel
theorem dX12_restore_143 : decode cX12_restore 143 = .ok (.getfield 284, 3) := by decide +kernel
theorem dX12_restore_146 : decode cX12_restore 146 = .ok (.putfield 193, 3) := by decide +kernel
theorem dX12_restore_149 : decode cX12_restore 149 = .ok (.aload_n 0, 1) := by decide +kernel
theorem dX12_restore_150 : decode cX12_restore 150 = .ok (.getfield 137, 3) := by decide +kernel
theorem dX12_restore_153 : decode cX12_restore 153 = .ok (.ireturn, 1) := by decide +kernel
theorem dX12_countOf_0 : decode cX12_countOf 0 = .ok (.iconst 0, 1) := by decide +kernel
theorem dX12_countOf_1 : decode cX12_countOf 1 = .ok (.istore_n 2, 1) := by decide +kernel
theorem dX12_countOf_2 : decode cX12_countOf 2 = .ok (.iconst 0, 1) := by decide +kernel
theorem dX12_countOf_3 : decode cX12_countOf 3 = .ok (.istore_n 3, 1) := by decide +kernel
theorem dX12_countOf_4 : decode cX12_countOf 4 = .ok (.iconst 0, 1) := by decide +kernel
theorem dX12_countOf_5 : decode cX12_countOf 5 = .ok (.istore 4, 2) := by decide +kernel
theorem dX12_countOf_7 : decode cX12_countOf 7 = .ok (.iload 4, 2) := by decide +kernel
theorem dX12_countOf_9 : decode cX12_countOf 9 = .ok (.aload_n 0, 1) := by decide +kernel
theorem dX12_countOf_10 : decode cX12_countOf 10 = .ok (.getfield 137, 3) := by decide +kernel
theorem dX12_countOf_13 : decode cX12_countOf 13 = .ok (.if_icmp .ge 46, 3) := by decide +kernel
theorem dX12_countOf_16 : decode cX12_countOf 16 = .ok (.iload_n 2, 1) := by decide +kernel
theorem dX12_countOf_17 : decode cX12_countOf 17 = .ok (.aload_n 0, 1) := by decide +kernel
theorem dX12_countOf_18 : decode cX12_countOf 18 = .ok (.getfield 46, 3) := by decide +kernel
theorem dX12_countOf_21 : decode cX12_countOf 21 = .ok (.iload 4, 2) := by decide +kernel
theorem dX12_countOf_23 : decode cX12_countOf 23 = .ok (.baload, 1) := by decide +kernel
theorem dX12_countOf_24 : decode cX12_countOf 24 = .ok (.ifCond .eq 7, 3) := by decide +kernel
theorem dX12_countOf_27 : decode cX12_countOf 27 = .ok (.iconst 1, 1) := by decide +kernel
theorem dX12_countOf_28 : decode cX12_countOf 28 = .ok (.goto 4, 3) := by decide +kernel
theorem dX12_countOf_31 : decode cX12_countOf 31 = .ok (.iconst 0, 1) := by decide +kernel
theorem dX12_countOf_32 : decode cX12_countOf 32 = .ok (.iadd, 1) := by decide +kernel
theorem dX12_countOf_33 : decode cX12_countOf 33 = .ok (.istore_n 2, 1) := by decide +kernel
theorem dX12_countOf_34 : decode cX12_countOf 34 = .ok (.iload_n 3, 1) := by decide +kernel
theorem dX12_countOf_35 : decode cX12_countOf 35 = .ok (.aload_n 0, 1) := by decide +kernel
theorem dX12_countOf_36 : decode cX12_countOf 36 = .ok (.getfield 50, 3) := by decide +kernel
theorem dX12_countOf_39 : decode cX12_countOf 39 = .ok (.iload 4, 2) := by decide +kernel
theorem dX12_countOf_41 : decode cX12_countOf 41 = .ok (.iaload, 1) := by decide +kernel
theorem dX12_countOf_42 : decode cX12_countOf 42 = .ok (.iconst (-1), 1) := by decide +kernel
theorem dX12_countOf_43 : decode cX12_countOf 43 = .ok (.if_icmp .ne 7, 3) := by decide +kernel
theorem dX12_countOf_46 : decode cX12_countOf 46 = .ok (.iconst 0, 1) := by decide +kernel
theorem dX12_countOf_47 : decode cX12_countOf 47 = .ok (.goto 4, 3) := by decide +kernel
theorem dX12_countOf_50 : decode cX12_countOf 50 = .ok (.iconst 1, 1) := by decide +kernel
theorem dX12_countOf_51 : decode cX12_countOf 51 = .ok (.iadd, 1) := by decide +kernel
theorem dX12_countOf_52 : decode cX12_countOf 52 = .ok (.istore_n 3, 1) := by decide +kernel
theorem dX12_countOf_53 : decode cX12_countOf 53 = .ok (.iinc 4 1, 3) := by decide +kernel
theorem dX12_countOf_56 : decode cX12_countOf 56 = .ok (.goto (-49), 3) := by decide +kernel
theorem dX12_countOf_59 : decode cX12_countOf 59 = .ok (.iload_n 1, 1) := by decide +kernel
theorem dX12_countOf_60 : decode cX12_countOf 60 = .ok (.tableswitch 73 0 6 #[44, 49, 54, 56, 61, 63, 68], 44) := by decide +kernel
theorem dX12_countOf_104 : decode cX12_countOf 104 = .ok (.aload_n 0, 1) := by decide +kernel
theorem dX12_countOf_105 : decode cX12_countOf 105 = .ok (.getfield 111, 3) := by decide +kernel
theorem dX12_countOf_108 : decode cX12_countOf 108 = .ok (.ireturn, 1) := by decide +kernel
theorem dX12_countOf_109 : decode cX12_countOf 109 = .ok (.aload_n 0, 1) := by decide +kernel
theorem dX12_countOf_110 : decode cX12_countOf 110 = .ok (.getfield 137, 3) := by decide +kernel
theorem dX12_countOf_113 : decode cX12_countOf 113 = .ok (.ireturn, 1) := by decide +kernel
theorem dX12_countOf_114 : decode cX12_countOf 114 = .ok (.iload_n 2, 1) := by decide +kernel
theorem dX12_countOf_115 : decode cX12_countOf 115 = .ok (.ireturn, 1) := by decide +kernel
theorem dX12_countOf_116 : decode cX12_countOf 116 = .ok (.aload_n 0, 1) := by decide +kernel
theorem dX12_countOf_117 : decode cX12_countOf 117 = .ok (.getfield 193, 3) := by decide +kernel
theorem dX12_countOf_120 : decode cX12_countOf 120 = .ok (.ireturn, 1) := by decide +kernel
theorem dX12_countOf_121 : decode cX12_countOf 121 = .ok (.iload_n 3, 1) := by decide +kernel
theorem dX12_countOf_122 : decode cX12_countOf 122 = .ok (.ireturn, 1) := by decide +kernel
theorem dX12_countOf_123 : decode cX12_countOf 123 = .ok (.aload_n 0, 1) := by decide +kernel
theorem dX12_countOf_124 : decode cX12_countOf 124 = .ok (.getfield 259, 3) := by decide +kernel
theorem dX12_countOf_127 : decode cX12_countOf 127 = .ok (.ireturn, 1) := by decide +kernel
theorem dX12_countOf_128 : decode cX12_countOf 128 = .ok (.aload_n 0, 1) := by decide +kernel
theorem dX12_countOf_129 : decode cX12_countOf 129 = .ok (.getfield 82, 3) := by decide +kernel
theorem dX12_countOf_132 : decode cX12_countOf 132 = .ok (.ireturn, 1) := by decide +kernel
theorem dX12_countOf_133 : decode cX12_countOf 133 = .ok (.bipush (-102), 2) := by decide +kernel
theorem dX12_countOf_135 : decode cX12_countOf 135 = .ok (.ireturn, 1) := by decide +kernel
theorem dX12_count_0 : decode cX12_count 0 = .ok (.aload_n 0, 1) := by decide +kernel
theorem dX12_count_1 : decode cX12_count 1 = .ok (.iload_n 1, 1) := by decide +kernel
theorem dX12_count_2 : decode cX12_count 2 = .ok (.invokevirtual 291, 3) := by decide +kernel
theorem dX12_count_5 : decode cX12_count 5 = .ok (.ireturn, 1) := by decide +kernel
theorem dX12_say_0 : decode cX12_say 0 = .ok (.aload_n 0, 1) := by decide +kernel
theorem dX12_say_1 : decode cX12_say 1 = .ok (.ldc2_w 294, 3) := by decide +kernel
theorem dX12_say_4 : decode cX12_say 4 = .ok (.aload_n 0, 1) := by decide +kernel
theorem dX12_say_5 : decode cX12_say 5 = .ok (.getfield 296, 3) := by decide +kernel
theorem dX12_say_8 : decode cX12_say 8 = .ok (.lmul, 1) := by decide +kernel
theorem dX12_say_9 : decode cX12_say 9 = .ok (.lload_n 1, 1) := by decide +kernel
theorem dX12_say_10 : decode cX12_say 10 = .ok (.ladd, 1) := by decide +kernel
theorem dX12_say_11 : decode cX12_say 11 = .ok (.putfield 296, 3) := by decide +kernel
theorem dX12_say_14 : decode cX12_say 14 = .ok (.return_, 1) := by decide +kernel
theorem dX12_digest_0 : decode cX12_digest 0 = .ok (.aload_n 0, 1) := by decide +kernel
theorem dX12_digest_1 : decode cX12_digest 1 = .ok (.ldc2_w 300, 3) := by decide +kernel
theorem dX12_digest_4 : decode cX12_digest 4 = .ok (.putfield 296, 3) := by decide +kernel
theorem dX12_digest_7 : decode cX12_digest 7 = .ok (.iconst 0, 1) := by decide +kernel
theorem dX12_digest_8 : decode cX12_digest 8 = .ok (.istore_n 1, 1) := by decide +kernel
theorem dX12_digest_9 : decode cX12_digest 9 = .ok (.iload_n 1, 1) := by decide +kernel
theorem dX12_digest_10 : decode cX12_digest 10 = .ok (.aload_n 0, 1) := by decide +kernel
theorem dX12_digest_11 : decode cX12_digest 11 = .ok (.getfield 111, 3) := by decide +kernel
theorem dX12_digest_14 : decode cX12_digest 14 = .ok (.if_icmp .ge 34, 3) := by decide +kernel
theorem dX12_digest_17 : decode cX12_digest 17 = .ok (.aload_n 0, 1) := by decide +kernel
theorem dX12_digest_18 : decode cX12_digest 18 = .ok (.aload_n 0, 1) := by decide +kernel
theorem dX12_digest_19 : decode cX12_digest 19 = .ok (.iload_n 1, 1) := by decide +kernel
theorem dX12_digest_20 : decode cX12_digest 20 = .ok (.iconst 3, 1) := by decide +kernel
theorem dX12_digest_21 : decode cX12_digest 21 = .ok (.iconst 4, 1) := by decide +kernel
theorem dX12_digest_22 : decode cX12_digest 22 = .ok (.invokevirtual 123, 3) := by decide +kernel
theorem dX12_digest_25 : decode cX12_digest 25 = .ok (.i2l, 1) := by decide +kernel
theorem dX12_digest_26 : decode cX12_digest 26 = .ok (.invokevirtual 302, 3) := by decide +kernel
theorem dX12_digest_29 : decode cX12_digest 29 = .ok (.aload_n 0, 1) := by decide +kernel
theorem dX12_digest_30 : decode cX12_digest 30 = .ok (.aload_n 0, 1) := by decide +kernel
theorem dX12_digest_31 : decode cX12_digest 31 = .ok (.iload_n 1, 1) := by decide +kernel
theorem dX12_digest_32 : decode cX12_digest 32 = .ok (.bipush 7, 2) := by decide +kernel
theorem dX12_digest_34 : decode cX12_digest 34 = .ok (.iconst 2, 1) := by decide +kernel
theorem dX12_digest_35 : decode cX12_digest 35 = .ok (.invokevirtual 123, 3) := by decide +kernel
theorem dX12_digest_38 : decode cX12_digest 38 = .ok (.i2l, 1) := by decide +kernel
theorem dX12_digest_39 : decode cX12_digest 39 = .ok (.invokevirtual 302, 3) := by decide +kernel
theorem dX12_digest_42 : decode cX12_digest 42 = .ok (.iinc 1 1, 3) := by decide +kernel
theorem dX12_digest_45 : decode cX12_digest 45 = .ok (.goto (-36), 3) := by decide +kernel
theorem dX12_digest_48 : decode cX12_digest 48 = .ok (.aload_n 0, 1) := by decide +kernel
theorem dX12_digest_49 : decode cX12_digest 49 = .ok (.aload_n 0, 1) := by decide +kernel
theorem dX12_digest_50 : decode cX12_digest 50 = .ok (.getfield 128, 3) := by decide +kernel
theorem dX12_digest_53 : decode cX12_digest 53 = .ok (.i2l, 1) := by decide +kernel
theorem dX12_digest_54 : decode cX12_digest 54 = .ok (.invokevirtual 302, 3) := by decide +kernel
theorem dX12_digest_57 : decode cX12_digest 57 = .ok (.iconst 0, 1) := by decide +kernel
theorem dX12_digest_58 : decode cX12_digest 58 = .ok (.istore_n 1, 1) := by decide +kernel
theorem dX12_digest_59 : decode cX12_digest 59 = .ok (.iload_n 1, 1) := by decide +kernel
theorem dX12_digest_60 : decode cX12_digest 60 = .ok (.aload_n 0, 1) := by decide +kernel
theorem dX12_digest_61 : decode cX12_digest 61 = .ok (.getfield 137, 3) := by decide +kernel
theorem dX12_digest_64 : decode cX12_digest 64 = .ok (.if_icmp .ge 45, 3) := by decide +kernel
theorem dX12_digest_67 : decode cX12_digest 67 = .ok (.iconst 0, 1) := by decide +kernel
theorem dX12_digest_68 : decode cX12_digest 68 = .ok (.istore_n 2, 1) := by decide +kernel
theorem dX12_digest_69 : decode cX12_digest 69 = .ok (.iload_n 2, 1) := by decide +kernel
theorem dX12_digest_70 : decode cX12_digest 70 = .ok (.bipush 8, 2) := by decide +kernel
theorem dX12_digest_72 : decode cX12_digest 72 = .ok (.if_icmp .ge 20, 3) := by decide +kernel
theorem dX12_digest_75 : decode cX12_digest 75 = .ok (.aload_n 0, 1) := by decide +kernel
theorem dX12_digest_76 : decode cX12_digest 76 = .ok (.aload_n 0, 1) := by decide +kernel
theorem dX12_digest_77 : decode cX12_digest 77 = .ok (.iload_n 1, 1) := by decide +kernel
theorem dX12_digest_78 : decode cX12_digest 78 = .ok (.iload_n 2, 1) := by decide +kernel
theorem dX12_digest_79 : decode cX12_digest 79 = .ok (.invokevirtual 147, 3) := by decide +kernel
theorem dX12_digest_82 : decode cX12_digest 82 = .ok (.i2l, 1) := by decide +kernel
theorem dX12_digest_83 : decode cX12_digest 83 = .ok (.invokevirtual 302, 3) := by decide +kernel
theorem dX12_digest_86 : decode cX12_digest 86 = .ok (.iinc 2 1, 3) := by decide +kernel
theorem dX12_digest_89 : decode cX12_digest 89 = .ok (.goto (-20), 3) := by decide +kernel
theorem dX12_digest_92 : decode cX12_digest 92 = .ok (.aload_n 0, 1) := by decide +kernel
theorem dX12_digest_93 : decode cX12_digest 93 = .ok (.aload_n 0, 1) := by decide +kernel
theorem dX12_digest_94 : decode cX12_digest 94 = .ok (.getfield 50, 3) := by decide +kernel
theorem dX12_digest_97 : decode cX12_digest 97 = .ok (.iload_n 1, 1) := by decide +kernel
theorem dX12_digest_98 : decode cX12_digest 98 = .ok (.iaload, 1) := by decide +kernel
theorem dX12_digest_99 : decode cX12_digest 99 = .ok (.i2l, 1) := by decide +kernel
theorem dX12_digest_100 : decode cX12_digest 100 = .ok (.invokevirtual 302, 3) := by decide +kernel
theorem dX12_digest_103 : decode cX12_digest 103 = .ok (.iinc 1 1, 3) := by decide +kernel
theorem dX12_digest_106 : decode cX12_digest 106 = .ok (.goto (-47), 3) := by decide +kernel
theorem dX12_digest_109 : decode cX12_digest 109 = .ok (.iconst 0, 1) := by decide +kernel
theorem dX12_digest_110 : decode cX12_digest 110 = .ok (.istore_n 1, 1) := by decide +kernel
theorem dX12_digest_111 : decode cX12_digest 111 = .ok (.iload_n 1, 1) := by decide +kernel
theorem dX12_digest_112 : decode cX12_digest 112 = .ok (.aload_n 0, 1) := by decide +kernel
theorem dX12_digest_113 : decode cX12_digest 113 = .ok (.getfield 193, 3) := by decide +kernel
theorem dX12_digest_116 : decode cX12_digest 116 = .ok (.if_icmp .ge 31, 3) := by decide +kernel
theorem dX12_digest_119 : decode cX12_digest 119 = .ok (.aload_n 0, 1) := by decide +kernel
theorem dX12_digest_120 : decode cX12_digest 120 = .ok (.aload_n 0, 1) := by decide +kernel
theorem dX12_digest_121 : decode cX12_digest 121 = .ok (.getfield 53, 3) := by decide +kernel
theorem dX12_digest_124 : decode cX12_digest 124 = .ok (.iload_n 1, 1) := by decide +kernel
theorem dX12_digest_125 : decode cX12_digest 125 = .ok (.iaload, 1) := by decide +kernel
theorem dX12_digest_126 : decode cX12_digest 126 = .ok (.i2l, 1) := by decide +kernel
theorem dX12_digest_127 : decode cX12_digest 127 = .ok (.invokevirtual 302, 3) := by decide +kernel
theorem dX12_digest_130 : decode cX12_digest 130 = .ok (.aload_n 0, 1) := by decide +kernel
theorem dX12_digest_131 : decode cX12_digest 131 = .ok (.aload_n 0, 1) := by decide +kernel
theorem dX12_digest_132 : decode cX12_digest 132 = .ok (.getfield 56, 3) := by decide +kernel
theorem dX12_digest_135 : decode cX12_digest 135 = .ok (.iload_n 1, 1) := by decide +kernel
theorem dX12_digest_136 : decode cX12_digest 136 = .ok (.iaload, 1) := by decide +kernel
theorem dX12_digest_137 : decode cX12_digest 137 = .ok (.i2l, 1) := by decide +kernel
theorem dX12_digest_138 : decode cX12_digest 138 = .ok (.invokevirtual 302, 3) := by decide +kernel
theorem dX12_digest_141 : decode cX12_digest 141 = .ok (.iinc 1 1, 3) := by decide +kernel
theorem dX12_digest_144 : decode cX12_digest 144 = .ok (.goto (-33), 3) := by decide +kernel
theorem dX12_digest_147 : decode cX12_digest 147 = .ok (.aload_n 0, 1) := by decide +kernel
theorem dX12_digest_148 : decode cX12_digest 148 = .ok (.invokevirtual 213, 3) := by decide +kernel
theorem dX12_digest_151 : decode cX12_digest 151 = .ok (.aload_n 0, 1) := by decide +kernel
theorem dX12_digest_152 : decode cX12_digest 152 = .ok (.aload_n 0, 1) := by decide +kernel
theorem dX12_digest_153 : decode cX12_digest 153 = .ok (.getfield 204, 3) := by decide +kernel
theorem dX12_digest_156 : decode cX12_digest 156 = .ok (.i2l, 1) := by decide +kernel
theorem dX12_digest_157 : decode cX12_digest 157 = .ok (.invokevirtual 302, 3) := by decide +kernel
theorem dX12_digest_160 : decode cX12_digest 160 = .ok (.aload_n 0, 1) := by decide +kernel
theorem dX12_digest_161 : decode cX12_digest 161 = .ok (.aload_n 0, 1) := by decide +kernel
theorem dX12_digest_162 : decode cX12_digest 162 = .ok (.getfield 207, 3) := by decide +kernel
theorem dX12_digest_165 : decode cX12_digest 165 = .ok (.i2l, 1) := by decide +kernel
theorem dX12_digest_166 : decode cX12_digest 166 = .ok (.invokevirtual 302, 3) := by decide +kernel
theorem dX12_digest_169 : decode cX12_digest 169 = .ok (.iconst 0, 1) := by decide +kernel
theorem dX12_digest_170 : decode cX12_digest 170 = .ok (.istore_n 1, 1) := by decide +kernel
theorem dX12_digest_171 : decode cX12_digest 171 = .ok (.iload_n 1, 1) := by decide +kernel
theorem dX12_digest_172 : decode cX12_digest 172 = .ok (.aload_n 0, 1) := by decide +kernel
theorem dX12_digest_173 : decode cX12_digest 173 = .ok (.getfield 259, 3) := by decide +kernel
theorem dX12_digest_176 : decode cX12_digest 176 = .ok (.if_icmp .ge 42, 3) := by decide +kernel
theorem dX12_digest_179 : decode cX12_digest 179 = .ok (.aload_n 0, 1) := by decide +kernel
theorem dX12_digest_180 : decode cX12_digest 180 = .ok (.aload_n 0, 1) := by decide +kernel
theorem dX12_digest_181 : decode cX12_digest 181 = .ok (.getfield 65, 3) := by decide +kernel
theorem dX12_digest_184 : decode cX12_digest 184 = .ok (.iload_n 1, 1) := by decide +kernel
theorem dX12_digest_185 : decode cX12_digest 185 = .ok (.iaload, 1) := by decide +kernel
theorem dX12_digest_186 : decode cX12_digest 186 = .ok (.i2l, 1) := by decide +kernel
theorem dX12_digest_187 : decode cX12_digest 187 = .ok (.invokevirtual 302, 3) := by decide +kernel
theorem dX12_digest_190 : decode cX12_digest 190 = .ok (.aload_n 0, 1) := by decide +kernel
theorem dX12_digest_191 : decode cX12_digest 191 = .ok (.aload_n 0, 1) := by decide +kernel
theorem dX12_digest_192 : decode cX12_digest 192 = .ok (.getfield 68, 3) := by decide +kernel
theorem dX12_digest_195 : decode cX12_digest 195 = .ok (.iload_n 1, 1) := by decide +kernel
theorem dX12_digest_196 : decode cX12_digest 196 = .ok (.iaload, 1) := by decide +kernel
theorem dX12_digest_197 : decode cX12_digest 197 = .ok (.i2l, 1) := by decide +kernel
theorem dX12_digest_198 : decode cX12_digest 198 = .ok (.invokevirtual 302, 3) := by decide +kernel
theorem dX12_digest_201 : decode cX12_digest 201 = .ok (.aload_n 0, 1) := by decide +kernel
theorem dX12_digest_202 : decode cX12_digest 202 = .ok (.aload_n 0, 1) := by decide +kernel
theorem dX12_digest_203 : decode cX12_digest 203 = .ok (.getfield 71, 3) := by decide +kernel
theorem dX12_digest_206 : decode cX12_digest 206 = .ok (.iload_n 1, 1) := by decide +kernel
theorem dX12_digest_207 : decode cX12_digest 207 = .ok (.iaload, 1) := by decide +kernel
theorem dX12_digest_208 : decode cX12_digest 208 = .ok (.i2l, 1) := by decide +kernel
theorem dX12_digest_209 : decode cX12_digest 209 = .ok (.invokevirtual 302, 3) := by decide +kernel
theorem dX12_digest_212 : decode cX12_digest 212 = .ok (.iinc 1 1, 3) := by decide +kernel
theorem dX12_digest_215 : decode cX12_digest 215 = .ok (.goto (-44), 3) := by decide +kernel
theorem dX12_digest_218 : decode cX12_digest 218 = .ok (.iconst 0, 1) := by decide +kernel
theorem dX12_digest_219 : decode cX12_digest 219 = .ok (.istore_n 1, 1) := by decide +kernel
theorem dX12_digest_220 : decode cX12_digest 220 = .ok (.iload_n 1, 1) := by decide +kernel
theorem dX12_digest_221 : decode cX12_digest 221 = .ok (.aload_n 0, 1) := by decide +kernel
theorem dX12_digest_222 : decode cX12_digest 222 = .ok (.getfield 137, 3) := by decide +kernel
theorem dX12_digest_225 : decode cX12_digest 225 = .ok (.if_icmp .ge 19, 3) := by decide +kernel
theorem dX12_digest_228 : decode cX12_digest 228 = .ok (.aload_n 0, 1) := by decide +kernel
theorem dX12_digest_229 : decode cX12_digest 229 = .ok (.aload_n 0, 1) := by decide +kernel
theorem dX12_digest_230 : decode cX12_digest 230 = .ok (.iload_n 1, 1) := by decide +kernel
theorem dX12_digest_231 : decode cX12_digest 231 = .ok (.invokevirtual 266, 3) := by decide +kernel
theorem dX12_digest_234 : decode cX12_digest 234 = .ok (.i2l, 1) := by decide +kernel
theorem dX12_digest_235 : decode cX12_digest 235 = .ok (.invokevirtual 302, 3) := by decide +kernel
theorem dX12_digest_238 : decode cX12_digest 238 = .ok (.iinc 1 1, 3) := by decide +kernel
theorem dX12_digest_241 : decode cX12_digest 241 = .ok (.goto (-21), 3) := by decide +kernel
theorem dX12_digest_244 : decode cX12_digest 244 = .ok (.iconst 0, 1) := by decide +kernel
theorem dX12_digest_245 : decode cX12_digest 245 = .ok (.istore_n 1, 1) := by decide +kernel
theorem dX12_digest_246 : decode cX12_digest 246 = .ok (.iload_n 1, 1) := by decide +kernel
theorem dX12_digest_247 : decode cX12_digest 247 = .ok (.aload_n 0, 1) := by decide +kernel
theorem dX12_digest_248 : decode cX12_digest 248 = .ok (.getfield 82, 3) := by decide +kernel
theorem dX12_digest_251 : decode cX12_digest 251 = .ok (.if_icmp .ge 20, 3) := by decide +kernel
theorem dX12_digest_254 : decode cX12_digest 254 = .ok (.aload_n 0, 1) := by decide +kernel
theorem dX12_digest_255 : decode cX12_digest 255 = .ok (.aload_n 0, 1) := by decide +kernel
theorem dX12_digest_256 : decode cX12_digest 256 = .ok (.getfield 7, 3) := by decide +kernel
theorem dX12_digest_259 : decode cX12_digest 259 = .ok (.iload_n 1, 1) := by decide +kernel
theorem dX12_digest_260 : decode cX12_digest 260 = .ok (.iaload, 1) := by decide +kernel
theorem dX12_digest_261 : decode cX12_digest 261 = .ok (.i2l, 1) := by decide +kernel
theorem dX12_digest_262 : decode cX12_digest 262 = .ok (.invokevirtual 302, 3) := by decide +kernel
theorem dX12_digest_265 : decode cX12_digest 265 = .ok (.iinc 1 1, 3) := by decide +kernel
theorem dX12_digest_268 : decode cX12_digest 268 = .ok (.goto (-22), 3) := by decide +kernel
theorem dX12_digest_271 : decode cX12_digest 271 = .ok (.iconst 0, 1) := by decide +kernel
theorem dX12_digest_272 : decode cX12_digest 272 = .ok (.istore_n 1, 1) := by decide +kernel
theorem dX12_digest_273 : decode cX12_digest 273 = .ok (.iload_n 1, 1) := by decide +kernel
theorem dX12_digest_274 : decode cX12_digest 274 = .ok (.bipush 7, 2) := by decide +kernel
theorem dX12_digest_276 : decode cX12_digest 276 = .ok (.if_icmp .ge 19, 3) := by decide +kernel
theorem dX12_digest_279 : decode cX12_digest 279 = .ok (.aload_n 0, 1) := by decide +kernel
theorem dX12_digest_280 : decode cX12_digest 280 = .ok (.aload_n 0, 1) := by decide +kernel
theorem dX12_digest_281 : decode cX12_digest 281 = .ok (.iload_n 1, 1) := by decide +kernel
theorem dX12_digest_282 : decode cX12_digest 282 = .ok (.invokevirtual 291, 3) := by decide +kernel
theorem dX12_digest_285 : decode cX12_digest 285 = .ok (.i2l, 1) := by decide +kernel
theorem dX12_digest_286 : decode cX12_digest 286 = .ok (.invokevirtual 302, 3) := by decide +kernel
theorem dX12_digest_289 : decode cX12_digest 289 = .ok (.iinc 1 1, 3) := by decide +kernel
theorem dX12_digest_292 : decode cX12_digest 292 = .ok (.goto (-19), 3) := by decide +kernel
theorem dX12_digest_295 : decode cX12_digest 295 = .ok (.aload_n 0, 1) := by decide +kernel
theorem dX12_digest_296 : decode cX12_digest 296 = .ok (.getfield 296, 3) := by decide +kernel
theorem dX12_digest_299 : decode cX12_digest 299 = .ok (.lreturn, 1) := by decide +kernel
theorem dJ6_numberOfTrailingZeros_0f7a4_0 : decode cJ6_numberOfTrailingZeros_0f7a4 0 = .ok (.iload_n 0, 1) := by decide +kernel
theorem dJ6_numberOfTrailingZeros_0f7a4_1 : decode cJ6_numberOfTrailingZeros_0f7a4 1 = .ok (.iconst (-1), 1) := by decide +kernel
theorem dJ6_numberOfTrailingZeros_0f7a4_2 : decode cJ6_numberOfTrailingZeros_0f7a4 2 = .ok (.ixor, 1) := by decide +kernel
theorem dJ6_numberOfTrailingZeros_0f7a4_3 : decode cJ6_numberOfTrailingZeros_0f7a4 3 = .ok (.iload_n 0, 1) := by decide +kernel
theorem dJ6_numberOfTrailingZeros_0f7a4_4 : decode cJ6_numberOfTrailingZeros_0f7a4 4 = .ok (.iconst 1, 1) := by decide +kernel
theorem dJ6_numberOfTrailingZeros_0f7a4_5 : decode cJ6_numberOfTrailingZeros_0f7a4 5 = .ok (.isub, 1) := by decide +kernel
theorem dJ6_numberOfTrailingZeros_0f7a4_6 : decode cJ6_numberOfTrailingZeros_0f7a4 6 = .ok (.iand, 1) := by decide +kernel
theorem dJ6_numberOfTrailingZeros_0f7a4_7 : decode cJ6_numberOfTrailingZeros_0f7a4 7 = .ok (.istore_n 0, 1) := by decide +kernel
theorem dJ6_numberOfTrailingZeros_0f7a4_8 : decode cJ6_numberOfTrailingZeros_0f7a4 8 = .ok (.iload_n 0, 1) := by decide +kernel
theorem dJ6_numberOfTrailingZeros_0f7a4_9 : decode cJ6_numberOfTrailingZeros_0f7a4 9 = .ok (.ifCond .gt 8, 3) := by decide +kernel
theorem dJ6_numberOfTrailingZeros_0f7a4_12 : decode cJ6_numberOfTrailingZeros_0f7a4 12 = .ok (.iload_n 0, 1) := by decide +kernel
theorem dJ6_numberOfTrailingZeros_0f7a4_13 : decode cJ6_numberOfTrailingZeros_0f7a4 13 = .ok (.bipush 32, 2) := by decide +kernel
theorem dJ6_numberOfTrailingZeros_0f7a4_15 : decode cJ6_numberOfTrailingZeros_0f7a4 15 = .ok (.iand, 1) := by decide +kernel
theorem dJ6_numberOfTrailingZeros_0f7a4_16 : decode cJ6_numberOfTrailingZeros_0f7a4 16 = .ok (.ireturn, 1) := by decide +kernel
theorem dJ6_numberOfTrailingZeros_0f7a4_17 : decode cJ6_numberOfTrailingZeros_0f7a4 17 = .ok (.iconst 1, 1) := by decide +kernel
theorem dJ6_numberOfTrailingZeros_0f7a4_18 : decode cJ6_numberOfTrailingZeros_0f7a4 18 = .ok (.istore_n 1, 1) := by decide +kernel
theorem dJ6_numberOfTrailingZeros_0f7a4_19 : decode cJ6_numberOfTrailingZeros_0f7a4 19 = .ok (.iload_n 0, 1) := by decide +kernel
theorem dJ6_numberOfTrailingZeros_0f7a4_20 : decode cJ6_numberOfTrailingZeros_0f7a4 20 = .ok (.ldc_w 264, 3) := by decide +kernel
theorem dJ6_numberOfTrailingZeros_0f7a4_23 : decode cJ6_numberOfTrailingZeros_0f7a4 23 = .ok (.if_icmp .le 11, 3) := by decide +kernel
theorem dJ6_numberOfTrailingZeros_0f7a4_26 : decode cJ6_numberOfTrailingZeros_0f7a4 26 = .ok (.iinc 1 16, 3) := by decide +kernel
theorem dJ6_numberOfTrailingZeros_0f7a4_29 : decode cJ6_numberOfTrailingZeros_0f7a4 29 = .ok (.iload_n 0, 1) := by decide +kernel
theorem dJ6_numberOfTrailingZeros_0f7a4_30 : decode cJ6_numberOfTrailingZeros_0f7a4 30 = .ok (.bipush 16, 2) := by decide +kernel
theorem dJ6_numberOfTrailingZeros_0f7a4_32 : decode cJ6_numberOfTrailingZeros_0f7a4 32 = .ok (.iushr, 1) := by decide +kernel
theorem dJ6_numberOfTrailingZeros_0f7a4_33 : decode cJ6_numberOfTrailingZeros_0f7a4 33 = .ok (.istore_n 0, 1) := by decide +kernel
theorem dJ6_numberOfTrailingZeros_0f7a4_34 : decode cJ6_numberOfTrailingZeros_0f7a4 34 = .ok (.iload_n 0, 1) := by decide +kernel
theorem dJ6_numberOfTrailingZeros_0f7a4_35 : decode cJ6_numberOfTrailingZeros_0f7a4 35 = .ok (.sipush 256, 3) := by decide +kernel
theorem dJ6_numberOfTrailingZeros_0f7a4_38 : decode cJ6_numberOfTrailingZeros_0f7a4 38 = .ok (.if_icmp .le 11, 3) := by decide +kernel
theorem dJ6_numberOfTrailingZeros_0f7a4_41 : decode cJ6_numberOfTrailingZeros_0f7a4 41 = .ok (.iinc 1 8, 3) := by decide +kernel
theorem dJ6_numberOfTrailingZeros_0f7a4_44 : decode cJ6_numberOfTrailingZeros_0f7a4 44 = .ok (.iload_n 0, 1) := by decide +kernel
theorem dJ6_numberOfTrailingZeros_0f7a4_45 : decode cJ6_numberOfTrailingZeros_0f7a4 45 = .ok (.bipush 8, 2) := by decide +kernel
theorem dJ6_numberOfTrailingZeros_0f7a4_47 : decode cJ6_numberOfTrailingZeros_0f7a4 47 = .ok (.iushr, 1) := by decide +kernel
theorem dJ6_numberOfTrailingZeros_0f7a4_48 : decode cJ6_numberOfTrailingZeros_0f7a4 48 = .ok (.istore_n 0, 1) := by decide +kernel
theorem dJ6_numberOfTrailingZeros_0f7a4_49 : decode cJ6_numberOfTrailingZeros_0f7a4 49 = .ok (.iload_n 0, 1) := by decide +kernel
theorem dJ6_numberOfTrailingZeros_0f7a4_50 : decode cJ6_numberOfTrailingZeros_0f7a4 50 = .ok (.bipush 16, 2) := by decide +kernel
theorem dJ6_numberOfTrailingZeros_0f7a4_52 : decode cJ6_numberOfTrailingZeros_0f7a4 52 = .ok (.if_icmp .le 10, 3) := by decide +kernel
theorem dJ6_numberOfTrailingZeros_0f7a4_55 : decode cJ6_numberOfTrailingZeros_0f7a4 55 = .ok (.iinc 1 4, 3) := by decide +kernel
theorem dJ6_numberOfTrailingZeros_0f7a4_58 : decode cJ6_numberOfTrailingZeros_0f7a4 58 = .ok (.iload_n 0, 1) := by decide +kernel
theorem dJ6_numberOfTrailingZeros_0f7a4_59 : decode cJ6_numberOfTrailingZeros_0f7a4 59 = .ok (.iconst 4, 1) := by decide +kernel
theorem dJ6_numberOfTrailingZeros_0f7a4_60 : decode cJ6_numberOfTrailingZeros_0f7a4 60 = .ok (.iushr, 1) := by decide +kernel
theorem dJ6_numberOfTrailingZeros_0f7a4_61 : decode cJ6_numberOfTrailingZeros_0f7a4 61 = .ok (.istore_n 0, 1) := by decide +kernel
theorem dJ6_numberOfTrailingZeros_0f7a4_62 : decode cJ6_numberOfTrailingZeros_0f7a4 62 = .ok (.iload_n 0, 1) := by decide +kernel
theorem dJ6_numberOfTrailingZeros_0f7a4_63 : decode cJ6_numberOfTrailingZeros_0f7a4 63 = .ok (.iconst 4, 1) := by decide +kernel
theorem dJ6_numberOfTrailingZeros_0f7a4_64 : decode cJ6_numberOfTrailingZeros_0f7a4 64 = .ok (.if_icmp .le 10, 3) := by decide +kernel
theorem dJ6_numberOfTrailingZeros_0f7a4_67 : decode cJ6_numberOfTrailingZeros_0f7a4 67 = .ok (.iinc 1 2, 3) := by decide +kernel
theorem dJ6_numberOfTrailingZeros_0f7a4_70 : decode cJ6_numberOfTrailingZeros_0f7a4 70 = .ok (.iload_n 0, 1) := by decide +kernel
theorem dJ6_numberOfTrailingZeros_0f7a4_71 : decode cJ6_numberOfTrailingZeros_0f7a4 71 = .ok (.iconst 2, 1) := by decide +kernel
theorem dJ6_numberOfTrailingZeros_0f7a4_72 : decode cJ6_numberOfTrailingZeros_0f7a4 72 = .ok (.iushr, 1) := by decide +kernel
theorem dJ6_numberOfTrailingZeros_0f7a4_73 : decode cJ6_numberOfTrailingZeros_0f7a4 73 = .ok (.istore_n 0, 1) := by decide +kernel
theorem dJ6_numberOfTrailingZeros_0f7a4_74 : decode cJ6_numberOfTrailingZeros_0f7a4 74 = .ok (.iload_n 1, 1) := by decide +kernel
theorem dJ6_numberOfTrailingZeros_0f7a4_75 : decode cJ6_numberOfTrailingZeros_0f7a4 75 = .ok (.iload_n 0, 1) := by decide +kernel
theorem dJ6_numberOfTrailingZeros_0f7a4_76 : decode cJ6_numberOfTrailingZeros_0f7a4 76 = .ok (.iconst 1, 1) := by decide +kernel
theorem dJ6_numberOfTrailingZeros_0f7a4_77 : decode cJ6_numberOfTrailingZeros_0f7a4 77 = .ok (.iushr, 1) := by decide +kernel
theorem dJ6_numberOfTrailingZeros_0f7a4_78 : decode cJ6_numberOfTrailingZeros_0f7a4 78 = .ok (.iadd, 1) := by decide +kernel
theorem dJ6_numberOfTrailingZeros_0f7a4_79 : decode cJ6_numberOfTrailingZeros_0f7a4 79 = .ok (.ireturn, 1) := by decide +kernel
theorem dJ6_bitCount_0f7a4_0 : decode cJ6_bitCount_0f7a4 0 = .ok (.iload_n 0, 1) := by decide +kernel
theorem dJ6_bitCount_0f7a4_1 : decode cJ6_bitCount_0f7a4 1 = .ok (.iload_n 0, 1) := by decide +kernel
theorem dJ6_bitCount_0f7a4_2 : decode cJ6_bitCount_0f7a4 2 = .ok (.iconst 1, 1) := by decide +kernel
theorem dJ6_bitCount_0f7a4_3 : decode cJ6_bitCount_0f7a4 3 = .ok (.iushr, 1) := by decide +kernel
theorem dJ6_bitCount_0f7a4_4 : decode cJ6_bitCount_0f7a4 4 = .ok (.ldc_w 265, 3) := by decide +kernel
theorem dJ6_bitCount_0f7a4_7 : decode cJ6_bitCount_0f7a4 7 = .ok (.iand, 1) := by decide +kernel
theorem dJ6_bitCount_0f7a4_8 : decode cJ6_bitCount_0f7a4 8 = .ok (.isub, 1) := by decide +kernel
theorem dJ6_bitCount_0f7a4_9 : decode cJ6_bitCount_0f7a4 9 = .ok (.istore_n 0, 1) := by decide +kernel
theorem dJ6_bitCount_0f7a4_10 : decode cJ6_bitCount_0f7a4 10 = .ok (.iload_n 0, 1) := by decide +kernel
theorem dJ6_bitCount_0f7a4_11 : decode cJ6_bitCount_0f7a4 11 = .ok (.ldc_w 266, 3) := by decide +kernel
theorem dJ6_bitCount_0f7a4_14 : decode cJ6_bitCount_0f7a4 14 = .ok (.iand, 1) := by decide +kernel
theorem dJ6_bitCount_0f7a4_15 : decode cJ6_bitCount_0f7a4 15 = .ok (.iload_n 0, 1) := by decide +kernel
theorem dJ6_bitCount_0f7a4_16 : decode cJ6_bitCount_0f7a4 16 = .ok (.iconst 2, 1) := by decide +kernel
theorem dJ6_bitCount_0f7a4_17 : decode cJ6_bitCount_0f7a4 17 = .ok (.iushr, 1) := by decide +kernel
theorem dJ6_bitCount_0f7a4_18 : decode cJ6_bitCount_0f7a4 18 = .ok (.ldc_w 266, 3) := by decide +kernel
theorem dJ6_bitCount_0f7a4_21 : decode cJ6_bitCount_0f7a4 21 = .ok (.iand, 1) := by decide +kernel
theorem dJ6_bitCount_0f7a4_22 : decode cJ6_bitCount_0f7a4 22 = .ok (.iadd, 1) := by decide +kernel
theorem dJ6_bitCount_0f7a4_23 : decode cJ6_bitCount_0f7a4 23 = .ok (.istore_n 0, 1) := by decide +kernel
theorem dJ6_bitCount_0f7a4_24 : decode cJ6_bitCount_0f7a4 24 = .ok (.iload_n 0, 1) := by decide +kernel
theorem dJ6_bitCount_0f7a4_25 : decode cJ6_bitCount_0f7a4 25 = .ok (.iload_n 0, 1) := by decide +kernel
theorem dJ6_bitCount_0f7a4_26 : decode cJ6_bitCount_0f7a4 26 = .ok (.iconst 4, 1) := by decide +kernel
theorem dJ6_bitCount_0f7a4_27 : decode cJ6_bitCount_0f7a4 27 = .ok (.iushr, 1) := by decide +kernel
theorem dJ6_bitCount_0f7a4_28 : decode cJ6_bitCount_0f7a4 28 = .ok (.iadd, 1) := by decide +kernel
theorem dJ6_bitCount_0f7a4_29 : decode cJ6_bitCount_0f7a4 29 = .ok (.ldc_w 267, 3) := by decide +kernel
theorem dJ6_bitCount_0f7a4_32 : decode cJ6_bitCount_0f7a4 32 = .ok (.iand, 1) := by decide +kernel
theorem dJ6_bitCount_0f7a4_33 : decode cJ6_bitCount_0f7a4 33 = .ok (.istore_n 0, 1) := by decide +kernel
theorem dJ6_bitCount_0f7a4_34 : decode cJ6_bitCount_0f7a4 34 = .ok (.iload_n 0, 1) := by decide +kernel
theorem dJ6_bitCount_0f7a4_35 : decode cJ6_bitCount_0f7a4 35 = .ok (.iload_n 0, 1) := by decide +kernel
theorem dJ6_bitCount_0f7a4_36 : decode cJ6_bitCount_0f7a4 36 = .ok (.bipush 8, 2) := by decide +kernel
theorem dJ6_bitCount_0f7a4_38 : decode cJ6_bitCount_0f7a4 38 = .ok (.iushr, 1) := by decide +kernel
theorem dJ6_bitCount_0f7a4_39 : decode cJ6_bitCount_0f7a4 39 = .ok (.iadd, 1) := by decide +kernel
theorem dJ6_bitCount_0f7a4_40 : decode cJ6_bitCount_0f7a4 40 = .ok (.istore_n 0, 1) := by decide +kernel
theorem dJ6_bitCount_0f7a4_41 : decode cJ6_bitCount_0f7a4 41 = .ok (.iload_n 0, 1) := by decide +kernel
theorem dJ6_bitCount_0f7a4_42 : decode cJ6_bitCount_0f7a4 42 = .ok (.iload_n 0, 1) := by decide +kernel
theorem dJ6_bitCount_0f7a4_43 : decode cJ6_bitCount_0f7a4 43 = .ok (.bipush 16, 2) := by decide +kernel
theorem dJ6_bitCount_0f7a4_45 : decode cJ6_bitCount_0f7a4 45 = .ok (.iushr, 1) := by decide +kernel
theorem dJ6_bitCount_0f7a4_46 : decode cJ6_bitCount_0f7a4 46 = .ok (.iadd, 1) := by decide +kernel
theorem dJ6_bitCount_0f7a4_47 : decode cJ6_bitCount_0f7a4 47 = .ok (.istore_n 0, 1) := by decide +kernel
theorem dJ6_bitCount_0f7a4_48 : decode cJ6_bitCount_0f7a4 48 = .ok (.iload_n 0, 1) := by decide +kernel
theorem dJ6_bitCount_0f7a4_49 : decode cJ6_bitCount_0f7a4 49 = .ok (.bipush 63, 2) := by decide +kernel
