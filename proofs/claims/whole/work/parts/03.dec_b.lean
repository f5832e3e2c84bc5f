theorem dX9_countsOver_104 : decode cX9_countsOver 104 = .ok (.iload_n 3, 1) := by decide +kernel
theorem dX9_countsOver_105 : decode cX9_countsOver 105 = .ok (.invokestatic 42, 3) := by decide +kernel
theorem dX9_countsOver_108 : decode cX9_countsOver 108 = .ok (.lor, 1) := by decide +kernel
theorem dX9_countsOver_109 : decode cX9_countsOver 109 = .ok (.lstore 4, 2) := by decide +kernel
theorem dX9_countsOver_111 : decode cX9_countsOver 111 = .ok (.iinc 8 1, 3) := by decide +kernel
theorem dX9_countsOver_114 : decode cX9_countsOver 114 = .ok (.goto (-86), 3) := by decide +kernel
theorem dX9_countsOver_117 : decode cX9_countsOver 117 = .ok (.iinc 6 1, 3) := by decide +kernel
theorem dX9_countsOver_120 : decode cX9_countsOver 120 = .ok (.goto (-114), 3) := by decide +kernel
theorem dX9_countsOver_123 : decode cX9_countsOver 123 = .ok (.lload 4, 2) := by decide +kernel
theorem dX9_countsOver_125 : decode cX9_countsOver 125 = .ok (.lreturn, 1) := by decide +kernel
theorem dX9_countsOfAll_0 : decode cX9_countsOfAll 0 = .ok (.aload_n 0, 1) := by decide +kernel
theorem dX9_countsOfAll_1 : decode cX9_countsOfAll 1 = .ok (.ifnull 7, 3) := by decide +kernel
theorem dX9_countsOfAll_4 : decode cX9_countsOfAll 4 = .ok (.aload_n 1, 1) := by decide +kernel
theorem dX9_countsOfAll_5 : decode cX9_countsOfAll 5 = .ok (.ifnonnull 5, 3) := by decide +kernel
theorem dX9_countsOfAll_8 : decode cX9_countsOfAll 8 = .ok (.lconst 0, 1) := by decide +kernel
theorem dX9_countsOfAll_9 : decode cX9_countsOfAll 9 = .ok (.lreturn, 1) := by decide +kernel
theorem dX9_countsOfAll_10 : decode cX9_countsOfAll 10 = .ok (.lconst 0, 1) := by decide +kernel
theorem dX9_countsOfAll_11 : decode cX9_countsOfAll 11 = .ok (.lstore 7, 2) := by decide +kernel
theorem dX9_countsOfAll_13 : decode cX9_countsOfAll 13 = .ok (.lload_n 2, 1) := by decide +kernel
theorem dX9_countsOfAll_14 : decode cX9_countsOfAll 14 = .ok (.lstore 9, 2) := by decide +kernel
theorem dX9_countsOfAll_16 : decode cX9_countsOfAll 16 = .ok (.lload_n 2, 1) := by decide +kernel
theorem dX9_countsOfAll_17 : decode cX9_countsOfAll 17 = .ok (.invokestatic 46, 3) := by decide +kernel
theorem dX9_countsOfAll_20 : decode cX9_countsOfAll 20 = .ok (.istore 11, 2) := by decide +kernel
theorem dX9_countsOfAll_22 : decode cX9_countsOfAll 22 = .ok (.iload 11, 2) := by decide +kernel
theorem dX9_countsOfAll_24 : decode cX9_countsOfAll 24 = .ok (.ifCond .le 96, 3) := by decide +kernel
theorem dX9_countsOfAll_27 : decode cX9_countsOfAll 27 = .ok (.lload 9, 2) := by decide +kernel
theorem dX9_countsOfAll_29 : decode cX9_countsOfAll 29 = .ok (.invokestatic 52, 3) := by decide +kernel
theorem dX9_countsOfAll_32 : decode cX9_countsOfAll 32 = .ok (.istore 12, 2) := by decide +kernel
theorem dX9_countsOfAll_34 : decode cX9_countsOfAll 34 = .ok (.lload 9, 2) := by decide +kernel
theorem dX9_countsOfAll_36 : decode cX9_countsOfAll 36 = .ok (.lload 9, 2) := by decide +kernel
theorem dX9_countsOfAll_38 : decode cX9_countsOfAll 38 = .ok (.lconst 1, 1) := by decide +kernel
theorem dX9_countsOfAll_39 : decode cX9_countsOfAll 39 = .ok (.lsub, 1) := by decide +kernel
theorem dX9_countsOfAll_40 : decode cX9_countsOfAll 40 = .ok (.land, 1) := by decide +kernel
theorem dX9_countsOfAll_41 : decode cX9_countsOfAll 41 = .ok (.lstore 9, 2) := by decide +kernel
theorem dX9_countsOfAll_43 : decode cX9_countsOfAll 43 = .ok (.lload 4, 2) := by decide +kernel
theorem dX9_countsOfAll_45 : decode cX9_countsOfAll 45 = .ok (.lstore 13, 2) := by decide +kernel
theorem dX9_countsOfAll_47 : decode cX9_countsOfAll 47 = .ok (.lload 4, 2) := by decide +kernel
theorem dX9_countsOfAll_49 : decode cX9_countsOfAll 49 = .ok (.invokestatic 46, 3) := by decide +kernel
theorem dX9_countsOfAll_52 : decode cX9_countsOfAll 52 = .ok (.istore 15, 2) := by decide +kernel
theorem dX9_countsOfAll_54 : decode cX9_countsOfAll 54 = .ok (.iload 15, 2) := by decide +kernel
theorem dX9_countsOfAll_56 : decode cX9_countsOfAll 56 = .ok (.ifCond .le 58, 3) := by decide +kernel
theorem dX9_countsOfAll_59 : decode cX9_countsOfAll 59 = .ok (.lload 13, 2) := by decide +kernel
theorem dX9_countsOfAll_61 : decode cX9_countsOfAll 61 = .ok (.invokestatic 52, 3) := by decide +kernel
theorem dX9_countsOfAll_64 : decode cX9_countsOfAll 64 = .ok (.istore 16, 2) := by decide +kernel
theorem dX9_countsOfAll_66 : decode cX9_countsOfAll 66 = .ok (.lload 13, 2) := by decide +kernel
theorem dX9_countsOfAll_68 : decode cX9_countsOfAll 68 = .ok (.lload 13, 2) := by decide +kernel
theorem dX9_countsOfAll_70 : decode cX9_countsOfAll 70 = .ok (.lconst 1, 1) := by decide +kernel
theorem dX9_countsOfAll_71 : decode cX9_countsOfAll 71 = .ok (.lsub, 1) := by decide +kernel
theorem dX9_countsOfAll_72 : decode cX9_countsOfAll 72 = .ok (.land, 1) := by decide +kernel
theorem dX9_countsOfAll_73 : decode cX9_countsOfAll 73 = .ok (.lstore 13, 2) := by decide +kernel
theorem dX9_countsOfAll_75 : decode cX9_countsOfAll 75 = .ok (.aload_n 0, 1) := by decide +kernel
theorem dX9_countsOfAll_76 : decode cX9_countsOfAll 76 = .ok (.getfield 55, 3) := by decide +kernel
theorem dX9_countsOfAll_79 : decode cX9_countsOfAll 79 = .ok (.aload_n 1, 1) := by decide +kernel
theorem dX9_countsOfAll_80 : decode cX9_countsOfAll 80 = .ok (.getfield 55, 3) := by decide +kernel
theorem dX9_countsOfAll_83 : decode cX9_countsOfAll 83 = .ok (.iload 12, 2) := by decide +kernel
theorem dX9_countsOfAll_85 : decode cX9_countsOfAll 85 = .ok (.iload 16, 2) := by decide +kernel
theorem dX9_countsOfAll_87 : decode cX9_countsOfAll 87 = .ok (.iload 6, 2) := by decide +kernel
theorem dX9_countsOfAll_89 : decode cX9_countsOfAll 89 = .ok (.invokevirtual 59, 3) := by decide +kernel
theorem dX9_countsOfAll_92 : decode cX9_countsOfAll 92 = .ok (.istore 17, 2) := by decide +kernel
theorem dX9_countsOfAll_94 : decode cX9_countsOfAll 94 = .ok (.lload 7, 2) := by decide +kernel
theorem dX9_countsOfAll_96 : decode cX9_countsOfAll 96 = .ok (.lconst 1, 1) := by decide +kernel
theorem dX9_countsOfAll_97 : decode cX9_countsOfAll 97 = .ok (.bipush 62, 2) := by decide +kernel
theorem dX9_countsOfAll_99 : decode cX9_countsOfAll 99 = .ok (.iload 17, 2) := by decide +kernel
theorem dX9_countsOfAll_101 : decode cX9_countsOfAll 101 = .ok (.invokestatic 36, 3) := by decide +kernel
theorem dX9_countsOfAll_104 : decode cX9_countsOfAll 104 = .ok (.lshl, 1) := by decide +kernel
theorem dX9_countsOfAll_105 : decode cX9_countsOfAll 105 = .ok (.lor, 1) := by decide +kernel
theorem dX9_countsOfAll_106 : decode cX9_countsOfAll 106 = .ok (.lstore 7, 2) := by decide +kernel
theorem dX9_countsOfAll_108 : decode cX9_countsOfAll 108 = .ok (.iinc 15 (-1), 3) := by decide +kernel
theorem dX9_countsOfAll_111 : decode cX9_countsOfAll 111 = .ok (.goto (-57), 3) := by decide +kernel
theorem dX9_countsOfAll_114 : decode cX9_countsOfAll 114 = .ok (.iinc 11 (-1), 3) := by decide +kernel
theorem dX9_countsOfAll_117 : decode cX9_countsOfAll 117 = .ok (.goto (-95), 3) := by decide +kernel
theorem dX9_countsOfAll_120 : decode cX9_countsOfAll 120 = .ok (.lload 7, 2) := by decide +kernel
theorem dX9_countsOfAll_122 : decode cX9_countsOfAll 122 = .ok (.lreturn, 1) := by decide +kernel
theorem dX10_init_0 : decode cX10_init 0 = .ok (.aload_n 0, 1) := by decide +kernel
theorem dX10_init_1 : decode cX10_init 1 = .ok (.invokespecial 3, 3) := by decide +kernel
theorem dX10_init_4 : decode cX10_init 4 = .ok (.return_, 1) := by decide +kernel
theorem dX10_forget_0 : decode cX10_forget 0 = .ok (.aload_n 0, 1) := by decide +kernel
theorem dX10_forget_1 : decode cX10_forget 1 = .ok (.iconst 0, 1) := by decide +kernel
theorem dX10_forget_2 : decode cX10_forget 2 = .ok (.putfield 9, 3) := by decide +kernel
theorem dX10_forget_5 : decode cX10_forget 5 = .ok (.aload_n 0, 1) := by decide +kernel
theorem dX10_forget_6 : decode cX10_forget 6 = .ok (.iconst 0, 1) := by decide +kernel
theorem dX10_forget_7 : decode cX10_forget 7 = .ok (.putfield 15, 3) := by decide +kernel
theorem dX10_forget_10 : decode cX10_forget 10 = .ok (.aload_n 0, 1) := by decide +kernel
theorem dX10_forget_11 : decode cX10_forget 11 = .ok (.iconst 0, 1) := by decide +kernel
theorem dX10_forget_12 : decode cX10_forget 12 = .ok (.putfield 18, 3) := by decide +kernel
theorem dX10_forget_15 : decode cX10_forget 15 = .ok (.aload_n 0, 1) := by decide +kernel
theorem dX10_forget_16 : decode cX10_forget 16 = .ok (.iconst 0, 1) := by decide +kernel
theorem dX10_forget_17 : decode cX10_forget 17 = .ok (.putfield 21, 3) := by decide +kernel
theorem dX10_forget_20 : decode cX10_forget 20 = .ok (.aload_n 0, 1) := by decide +kernel
theorem dX10_forget_21 : decode cX10_forget 21 = .ok (.iconst 0, 1) := by decide +kernel
theorem dX10_forget_22 : decode cX10_forget 22 = .ok (.putfield 24, 3) := by decide +kernel
theorem dX10_forget_25 : decode cX10_forget 25 = .ok (.aload_n 0, 1) := by decide +kernel
theorem dX10_forget_26 : decode cX10_forget 26 = .ok (.iconst 0, 1) := by decide +kernel
theorem dX10_forget_27 : decode cX10_forget 27 = .ok (.putfield 27, 3) := by decide +kernel
theorem dX10_forget_30 : decode cX10_forget 30 = .ok (.return_, 1) := by decide +kernel
theorem dX10_takesNumber_0 : decode cX10_takesNumber 0 = .ok (.aload_n 0, 1) := by decide +kernel
theorem dX10_takesNumber_1 : decode cX10_takesNumber 1 = .ok (.dup, 1) := by decide +kernel
theorem dX10_takesNumber_2 : decode cX10_takesNumber 2 = .ok (.getfield 27, 3) := by decide +kernel
theorem dX10_takesNumber_5 : decode cX10_takesNumber 5 = .ok (.iload_n 1, 1) := by decide +kernel
theorem dX10_takesNumber_6 : decode cX10_takesNumber 6 = .ok (.iadd, 1) := by decide +kernel
theorem dX10_takesNumber_7 : decode cX10_takesNumber 7 = .ok (.putfield 27, 3) := by decide +kernel
theorem dX10_takesNumber_10 : decode cX10_takesNumber 10 = .ok (.return_, 1) := by decide +kernel
theorem dX10_takesLetter_0 : decode cX10_takesLetter 0 = .ok (.iload_n 1, 1) := by decide +kernel
theorem dX10_takesLetter_1 : decode cX10_takesLetter 1 = .ok (.lookupswitch 111 #[(104, 99), (108, 87), (109, 75), (120, 51), (121, 63)], 51) := by decide +kernel
theorem dX10_takesLetter_52 : decode cX10_takesLetter 52 = .ok (.aload_n 0, 1) := by decide +kernel
theorem dX10_takesLetter_53 : decode cX10_takesLetter 53 = .ok (.dup, 1) := by decide +kernel
theorem dX10_takesLetter_54 : decode cX10_takesLetter 54 = .ok (.getfield 9, 3) := by decide +kernel
theorem dX10_takesLetter_57 : decode cX10_takesLetter 57 = .ok (.iconst 1, 1) := by decide +kernel
theorem dX10_takesLetter_58 : decode cX10_takesLetter 58 = .ok (.iadd, 1) := by decide +kernel
theorem dX10_takesLetter_59 : decode cX10_takesLetter 59 = .ok (.putfield 9, 3) := by decide +kernel
theorem dX10_takesLetter_62 : decode cX10_takesLetter 62 = .ok (.iconst 1, 1) := by decide +kernel
theorem dX10_takesLetter_63 : decode cX10_takesLetter 63 = .ok (.ireturn, 1) := by decide +kernel
theorem dX10_takesLetter_64 : decode cX10_takesLetter 64 = .ok (.aload_n 0, 1) := by decide +kernel
theorem dX10_takesLetter_65 : decode cX10_takesLetter 65 = .ok (.dup, 1) := by decide +kernel
theorem dX10_takesLetter_66 : decode cX10_takesLetter 66 = .ok (.getfield 15, 3) := by decide +kernel
theorem dX10_takesLetter_69 : decode cX10_takesLetter 69 = .ok (.iconst 1, 1) := by decide +kernel
theorem dX10_takesLetter_70 : decode cX10_takesLetter 70 = .ok (.iadd, 1) := by decide +kernel
theorem dX10_takesLetter_71 : decode cX10_takesLetter 71 = .ok (.putfield 15, 3) := by decide +kernel
theorem dX10_takesLetter_74 : decode cX10_takesLetter 74 = .ok (.iconst 1, 1) := by decide +kernel
theorem dX10_takesLetter_75 : decode cX10_takesLetter 75 = .ok (.ireturn, 1) := by decide +kernel
theorem dX10_takesLetter_76 : decode cX10_takesLetter 76 = .ok (.aload_n 0, 1) := by decide +kernel
theorem dX10_takesLetter_77 : decode cX10_takesLetter 77 = .ok (.dup, 1) := by decide +kernel
theorem dX10_takesLetter_78 : decode cX10_takesLetter 78 = .ok (.getfield 18, 3) := by decide +kernel
theorem dX10_takesLetter_81 : decode cX10_takesLetter 81 = .ok (.iconst 1, 1) := by decide +kernel
theorem dX10_takesLetter_82 : decode cX10_takesLetter 82 = .ok (.iadd, 1) := by decide +kernel
theorem dX10_takesLetter_83 : decode cX10_takesLetter 83 = .ok (.putfield 18, 3) := by decide +kernel
theorem dX10_takesLetter_86 : decode cX10_takesLetter 86 = .ok (.iconst 1, 1) := by decide +kernel
theorem dX10_takesLetter_87 : decode cX10_takesLetter 87 = .ok (.ireturn, 1) := by decide +kernel
theorem dX10_takesLetter_88 : decode cX10_takesLetter 88 = .ok (.aload_n 0, 1) := by decide +kernel
theorem dX10_takesLetter_89 : decode cX10_takesLetter 89 = .ok (.dup, 1) := by decide +kernel
theorem dX10_takesLetter_90 : decode cX10_takesLetter 90 = .ok (.getfield 21, 3) := by decide +kernel
theorem dX10_takesLetter_93 : decode cX10_takesLetter 93 = .ok (.iconst 1, 1) := by decide +kernel
theorem dX10_takesLetter_94 : decode cX10_takesLetter 94 = .ok (.iadd, 1) := by decide +kernel
theorem dX10_takesLetter_95 : decode cX10_takesLetter 95 = .ok (.putfield 21, 3) := by decide +kernel
theorem dX10_takesLetter_98 : decode cX10_takesLetter 98 = .ok (.iconst 1, 1) := by decide +kernel
theorem dX10_takesLetter_99 : decode cX10_takesLetter 99 = .ok (.ireturn, 1) := by decide +kernel
theorem dX10_takesLetter_100 : decode cX10_takesLetter 100 = .ok (.aload_n 0, 1) := by decide +kernel
theorem dX10_takesLetter_101 : decode cX10_takesLetter 101 = .ok (.dup, 1) := by decide +kernel
theorem dX10_takesLetter_102 : decode cX10_takesLetter 102 = .ok (.getfield 24, 3) := by decide +kernel
theorem dX10_takesLetter_105 : decode cX10_takesLetter 105 = .ok (.iconst 1, 1) := by decide +kernel
theorem dX10_takesLetter_106 : decode cX10_takesLetter 106 = .ok (.iadd, 1) := by decide +kernel
theorem dX10_takesLetter_107 : decode cX10_takesLetter 107 = .ok (.putfield 24, 3) := by decide +kernel
theorem dX10_takesLetter_110 : decode cX10_takesLetter 110 = .ok (.iconst 1, 1) := by decide +kernel
theorem dX10_takesLetter_111 : decode cX10_takesLetter 111 = .ok (.ireturn, 1) := by decide +kernel
theorem dX10_takesLetter_112 : decode cX10_takesLetter 112 = .ok (.iconst 0, 1) := by decide +kernel
theorem dX10_takesLetter_113 : decode cX10_takesLetter 113 = .ok (.ireturn, 1) := by decide +kernel
theorem dX10_takesTangles_0 : decode cX10_takesTangles 0 = .ok (.aload_n 0, 1) := by decide +kernel
theorem dX10_takesTangles_1 : decode cX10_takesTangles 1 = .ok (.iload_n 1, 1) := by decide +kernel
theorem dX10_takesTangles_2 : decode cX10_takesTangles 2 = .ok (.putfield 30, 3) := by decide +kernel
theorem dX10_takesTangles_5 : decode cX10_takesTangles 5 = .ok (.iload_n 1, 1) := by decide +kernel
theorem dX10_takesTangles_6 : decode cX10_takesTangles 6 = .ok (.bipush 116, 2) := by decide +kernel
theorem dX10_takesTangles_8 : decode cX10_takesTangles 8 = .ok (.if_icmp .eq 15, 3) := by decide +kernel
theorem dX10_takesTangles_11 : decode cX10_takesTangles 11 = .ok (.iload_n 1, 1) := by decide +kernel
theorem dX10_takesTangles_12 : decode cX10_takesTangles 12 = .ok (.bipush 111, 2) := by decide +kernel
theorem dX10_takesTangles_14 : decode cX10_takesTangles 14 = .ok (.if_icmp .eq 9, 3) := by decide +kernel
theorem dX10_takesTangles_17 : decode cX10_takesTangles 17 = .ok (.iload_n 1, 1) := by decide +kernel
theorem dX10_takesTangles_18 : decode cX10_takesTangles 18 = .ok (.bipush 110, 2) := by decide +kernel
theorem dX10_takesTangles_20 : decode cX10_takesTangles 20 = .ok (.if_icmp .ne 7, 3) := by decide +kernel
theorem dX10_takesTangles_23 : decode cX10_takesTangles 23 = .ok (.iconst 1, 1) := by decide +kernel
theorem dX10_takesTangles_24 : decode cX10_takesTangles 24 = .ok (.goto 4, 3) := by decide +kernel
theorem dX10_takesTangles_27 : decode cX10_takesTangles 27 = .ok (.iconst 0, 1) := by decide +kernel
theorem dX10_takesTangles_28 : decode cX10_takesTangles 28 = .ok (.ireturn, 1) := by decide +kernel
theorem dX10_countAfter_0 : decode cX10_countAfter 0 = .ok (.aload_n 0, 1) := by decide +kernel
theorem dX10_countAfter_1 : decode cX10_countAfter 1 = .ok (.getfield 27, 3) := by decide +kernel
theorem dX10_countAfter_4 : decode cX10_countAfter 4 = .ok (.aload_n 0, 1) := by decide +kernel
theorem dX10_countAfter_5 : decode cX10_countAfter 5 = .ok (.getfield 9, 3) := by decide +kernel
theorem dX10_countAfter_8 : decode cX10_countAfter 8 = .ok (.iload_n 1, 1) := by decide +kernel
theorem dX10_countAfter_9 : decode cX10_countAfter 9 = .ok (.imul, 1) := by decide +kernel
theorem dX10_countAfter_10 : decode cX10_countAfter 10 = .ok (.iadd, 1) := by decide +kernel
theorem dX10_countAfter_11 : decode cX10_countAfter 11 = .ok (.aload_n 0, 1) := by decide +kernel
theorem dX10_countAfter_12 : decode cX10_countAfter 12 = .ok (.getfield 15, 3) := by decide +kernel
theorem dX10_countAfter_15 : decode cX10_countAfter 15 = .ok (.iload_n 2, 1) := by decide +kernel
theorem dX10_countAfter_16 : decode cX10_countAfter 16 = .ok (.imul, 1) := by decide +kernel
theorem dX10_countAfter_17 : decode cX10_countAfter 17 = .ok (.iadd, 1) := by decide +kernel
theorem dX10_countAfter_18 : decode cX10_countAfter 18 = .ok (.aload_n 0, 1) := by decide +kernel
theorem dX10_countAfter_19 : decode cX10_countAfter 19 = .ok (.getfield 24, 3) := by decide +kernel
theorem dX10_countAfter_22 : decode cX10_countAfter 22 = .ok (.iload_n 2, 1) := by decide +kernel
theorem dX10_countAfter_23 : decode cX10_countAfter 23 = .ok (.iconst 2, 1) := by decide +kernel
theorem dX10_countAfter_24 : decode cX10_countAfter 24 = .ok (.idiv, 1) := by decide +kernel
theorem dX10_countAfter_25 : decode cX10_countAfter 25 = .ok (.imul, 1) := by decide +kernel
theorem dX10_countAfter_26 : decode cX10_countAfter 26 = .ok (.iadd, 1) := by decide +kernel
theorem dX10_countAfter_27 : decode cX10_countAfter 27 = .ok (.istore_n 3, 1) := by decide +kernel
theorem dX10_countAfter_28 : decode cX10_countAfter 28 = .ok (.iload_n 3, 1) := by decide +kernel
theorem dX10_countAfter_29 : decode cX10_countAfter 29 = .ok (.aload_n 0, 1) := by decide +kernel
theorem dX10_countAfter_30 : decode cX10_countAfter 30 = .ok (.getfield 18, 3) := by decide +kernel
theorem dX10_countAfter_33 : decode cX10_countAfter 33 = .ok (.iload_n 1, 1) := by decide +kernel
theorem dX10_countAfter_34 : decode cX10_countAfter 34 = .ok (.iload_n 2, 1) := by decide +kernel
theorem dX10_countAfter_35 : decode cX10_countAfter 35 = .ok (.invokestatic 33, 3) := by decide +kernel
theorem dX10_countAfter_38 : decode cX10_countAfter 38 = .ok (.imul, 1) := by decide +kernel
theorem dX10_countAfter_39 : decode cX10_countAfter 39 = .ok (.aload_n 0, 1) := by decide +kernel
theorem dX10_countAfter_40 : decode cX10_countAfter 40 = .ok (.getfield 21, 3) := by decide +kernel
theorem dX10_countAfter_43 : decode cX10_countAfter 43 = .ok (.iload_n 1, 1) := by decide +kernel
theorem dX10_countAfter_44 : decode cX10_countAfter 44 = .ok (.iload_n 2, 1) := by decide +kernel
theorem dX10_countAfter_45 : decode cX10_countAfter 45 = .ok (.invokestatic 39, 3) := by decide +kernel
theorem dX10_countAfter_48 : decode cX10_countAfter 48 = .ok (.imul, 1) := by decide +kernel
theorem dX10_countAfter_49 : decode cX10_countAfter 49 = .ok (.iadd, 1) := by decide +kernel
theorem dX10_countAfter_50 : decode cX10_countAfter 50 = .ok (.iadd, 1) := by decide +kernel
theorem dX10_countAfter_51 : decode cX10_countAfter 51 = .ok (.istore_n 3, 1) := by decide +kernel
theorem dX10_countAfter_52 : decode cX10_countAfter 52 = .ok (.sipush 999, 3) := by decide +kernel
theorem dX10_countAfter_55 : decode cX10_countAfter 55 = .ok (.iload_n 3, 1) := by decide +kernel
theorem dX10_countAfter_56 : decode cX10_countAfter 56 = .ok (.invokestatic 39, 3) := by decide +kernel
theorem dX10_countAfter_59 : decode cX10_countAfter 59 = .ok (.ireturn, 1) := by decide +kernel
theorem dX10_countOver_0 : decode cX10_countOver 0 = .ok (.aload_n 0, 1) := by decide +kernel
theorem dX10_countOver_1 : decode cX10_countOver 1 = .ok (.iload_n 2, 1) := by decide +kernel
theorem dX10_countOver_2 : decode cX10_countOver 2 = .ok (.iload_n 3, 1) := by decide +kernel
theorem dX10_countOver_3 : decode cX10_countOver 3 = .ok (.invokevirtual 42, 3) := by decide +kernel
theorem dX10_countOver_6 : decode cX10_countOver 6 = .ok (.istore 5, 2) := by decide +kernel
theorem dX10_countOver_8 : decode cX10_countOver 8 = .ok (.aload_n 0, 1) := by decide +kernel
theorem dX10_countOver_9 : decode cX10_countOver 9 = .ok (.getfield 45, 3) := by decide +kernel
theorem dX10_countOver_12 : decode cX10_countOver 12 = .ok (.aload_n 1, 1) := by decide +kernel
theorem dX10_countOver_13 : decode cX10_countOver 13 = .ok (.getfield 45, 3) := by decide +kernel
theorem dX10_countOver_16 : decode cX10_countOver 16 = .ok (.if_icmp .eq 8, 3) := by decide +kernel
theorem dX10_countOver_19 : decode cX10_countOver 19 = .ok (.iload 4, 2) := by decide +kernel
theorem dX10_countOver_21 : decode cX10_countOver 21 = .ok (.ifCond .ne 6, 3) := by decide +kernel
theorem dX10_countOver_24 : decode cX10_countOver 24 = .ok (.iload 5, 2) := by decide +kernel
theorem dX10_countOver_26 : decode cX10_countOver 26 = .ok (.ireturn, 1) := by decide +kernel
theorem dX10_countOver_27 : decode cX10_countOver 27 = .ok (.aload_n 1, 1) := by decide +kernel
theorem dX10_countOver_28 : decode cX10_countOver 28 = .ok (.iload_n 2, 1) := by decide +kernel
theorem dX10_countOver_29 : decode cX10_countOver 29 = .ok (.iload_n 3, 1) := by decide +kernel
theorem dX10_countOver_30 : decode cX10_countOver 30 = .ok (.invokevirtual 42, 3) := by decide +kernel
theorem dX10_countOver_33 : decode cX10_countOver 33 = .ok (.istore 6, 2) := by decide +kernel
theorem dX10_countOver_35 : decode cX10_countOver 35 = .ok (.iload 4, 2) := by decide +kernel
theorem dX10_countOver_37 : decode cX10_countOver 37 = .ok (.iconst 1, 1) := by decide +kernel
theorem dX10_countOver_38 : decode cX10_countOver 38 = .ok (.if_icmp .ne 6, 3) := by decide +kernel
theorem dX10_countOver_41 : decode cX10_countOver 41 = .ok (.iload 6, 2) := by decide +kernel
theorem dX10_countOver_43 : decode cX10_countOver 43 = .ok (.ireturn, 1) := by decide +kernel
theorem dX10_countOver_44 : decode cX10_countOver 44 = .ok (.iload 4, 2) := by decide +kernel
theorem dX10_countOver_46 : decode cX10_countOver 46 = .ok (.iconst 2, 1) := by decide +kernel
theorem dX10_countOver_47 : decode cX10_countOver 47 = .ok (.if_icmp .ne 13, 3) := by decide +kernel
theorem dX10_countOver_50 : decode cX10_countOver 50 = .ok (.iload 5, 2) := by decide +kernel
theorem dX10_countOver_52 : decode cX10_countOver 52 = .ok (.iload 6, 2) := by decide +kernel
theorem dX10_countOver_54 : decode cX10_countOver 54 = .ok (.invokestatic 33, 3) := by decide +kernel
theorem dX10_countOver_57 : decode cX10_countOver 57 = .ok (.goto 10, 3) := by decide +kernel
theorem dX10_countOver_60 : decode cX10_countOver 60 = .ok (.iload 5, 2) := by decide +kernel
theorem dX10_countOver_62 : decode cX10_countOver 62 = .ok (.iload 6, 2) := by decide +kernel
theorem dX10_countOver_64 : decode cX10_countOver 64 = .ok (.invokestatic 39, 3) := by decide +kernel
theorem dX10_countOver_67 : decode cX10_countOver 67 = .ok (.ireturn, 1) := by decide +kernel
theorem dX11_init_0 : decode cX11_init 0 = .ok (.aload_n 0, 1) := by decide +kernel
theorem dX11_init_1 : decode cX11_init 1 = .ok (.invokespecial 3, 3) := by decide +kernel
theorem dX11_init_4 : decode cX11_init 4 = .ok (.aload_n 0, 1) := by decide +kernel
theorem dX11_init_5 : decode cX11_init 5 = .ok (.new 9, 3) := by decide +kernel
theorem dX11_init_8 : decode cX11_init 8 = .ok (.dup, 1) := by decide +kernel
theorem dX11_init_9 : decode cX11_init 9 = .ok (.invokespecial 11, 3) := by decide +kernel
theorem dX11_init_12 : decode cX11_init 12 = .ok (.putfield 12, 3) := by decide +kernel
theorem dX11_init_15 : decode cX11_init 15 = .ok (.aload_n 0, 1) := by decide +kernel
theorem dX11_init_16 : decode cX11_init 16 = .ok (.iconst 3, 1) := by decide +kernel
theorem dX11_init_17 : decode cX11_init 17 = .ok (.anewarray 16, 3) := by decide +kernel
theorem dX11_init_20 : decode cX11_init 20 = .ok (.putfield 18, 3) := by decide +kernel
theorem dX11_init_23 : decode cX11_init 23 = .ok (.aload_n 0, 1) := by decide +kernel
theorem dX11_init_24 : decode cX11_init 24 = .ok (.bipush 8, 2) := by decide +kernel
theorem dX11_init_26 : decode cX11_init 26 = .ok (.anewarray 22, 3) := by decide +kernel
theorem dX11_init_29 : decode cX11_init 29 = .ok (.putfield 24, 3) := by decide +kernel
theorem dX11_init_32 : decode cX11_init 32 = .ok (.aload_n 0, 1) := by decide +kernel
theorem dX11_init_33 : decode cX11_init 33 = .ok (.new 28, 3) := by decide +kernel
theorem dX11_init_36 : decode cX11_init 36 = .ok (.dup, 1) := by decide +kernel
theorem dX11_init_37 : decode cX11_init 37 = .ok (.invokespecial 30, 3) := by decide +kernel
theorem dX11_init_40 : decode cX11_init 40 = .ok (.putfield 31, 3) := by decide +kernel
theorem dX11_init_43 : decode cX11_init 43 = .ok (.aload_n 0, 1) := by decide +kernel
theorem dX11_init_44 : decode cX11_init 44 = .ok (.new 35, 3) := by decide +kernel
theorem dX11_init_47 : decode cX11_init 47 = .ok (.dup, 1) := by decide +kernel
theorem dX11_init_48 : decode cX11_init 48 = .ok (.invokespecial 37, 3) := by decide +kernel
theorem dX11_init_51 : decode cX11_init 51 = .ok (.putfield 38, 3) := by decide +kernel
theorem dX11_init_54 : decode cX11_init 54 = .ok (.aload_n 0, 1) := by decide +kernel
theorem dX11_init_55 : decode cX11_init 55 = .ok (.new 42, 3) := by decide +kernel
theorem dX11_init_58 : decode cX11_init 58 = .ok (.dup, 1) := by decide +kernel
theorem dX11_init_59 : decode cX11_init 59 = .ok (.invokespecial 44, 3) := by decide +kernel
theorem dX11_init_62 : decode cX11_init 62 = .ok (.putfield 45, 3) := by decide +kernel
theorem dX11_init_65 : decode cX11_init 65 = .ok (.aload_n 0, 1) := by decide +kernel
theorem dX11_init_66 : decode cX11_init 66 = .ok (.new 49, 3) := by decide +kernel
theorem dX11_init_69 : decode cX11_init 69 = .ok (.dup, 1) := by decide +kernel
theorem dX11_init_70 : decode cX11_init 70 = .ok (.invokespecial 51, 3) := by decide +kernel
theorem dX11_init_73 : decode cX11_init 73 = .ok (.putfield 52, 3) := by decide +kernel
theorem dX11_init_76 : decode cX11_init 76 = .ok (.aload_n 0, 1) := by decide +kernel
theorem dX11_init_77 : decode cX11_init 77 = .ok (.iconst 4, 1) := by decide +kernel
theorem dX11_init_78 : decode cX11_init 78 = .ok (.newarray .int, 2) := by decide +kernel
theorem dX11_init_80 : decode cX11_init 80 = .ok (.putfield 56, 3) := by decide +kernel
theorem dX11_init_83 : decode cX11_init 83 = .ok (.aload_n 0, 1) := by decide +kernel
theorem dX11_init_84 : decode cX11_init 84 = .ok (.iconst 0, 1) := by decide +kernel
theorem dX11_init_85 : decode cX11_init 85 = .ok (.putfield 60, 3) := by decide +kernel
theorem dX11_init_88 : decode cX11_init 88 = .ok (.aload_n 0, 1) := by decide +kernel
theorem dX11_init_89 : decode cX11_init 89 = .ok (.iconst (-1), 1) := by decide +kernel
theorem dX11_init_90 : decode cX11_init 90 = .ok (.putfield 64, 3) := by decide +kernel
theorem dX11_init_93 : decode cX11_init 93 = .ok (.return_, 1) := by decide +kernel
theorem dX11_letters_0 : decode cX11_letters 0 = .ok (.aload_n 0, 1) := by decide +kernel
theorem dX11_letters_1 : decode cX11_letters 1 = .ok (.getfield 12, 3) := by decide +kernel
theorem dX11_letters_4 : decode cX11_letters 4 = .ok (.lload_n 1, 1) := by decide +kernel
theorem dX11_letters_5 : decode cX11_letters 5 = .ok (.invokevirtual 67, 3) := by decide +kernel
theorem dX11_letters_8 : decode cX11_letters 8 = .ok (.ireturn, 1) := by decide +kernel
theorem dX11_blank_0 : decode cX11_blank 0 = .ok (.aload_n 0, 1) := by decide +kernel
theorem dX11_blank_1 : decode cX11_blank 1 = .ok (.getfield 12, 3) := by decide +kernel
theorem dX11_blank_4 : decode cX11_blank 4 = .ok (.invokevirtual 71, 3) := by decide +kernel
theorem dX11_blank_7 : decode cX11_blank 7 = .ok (.ireturn, 1) := by decide +kernel
theorem dX11_fault_0 : decode cX11_fault 0 = .ok (.aload_n 0, 1) := by decide +kernel
theorem dX11_fault_1 : decode cX11_fault 1 = .ok (.getfield 12, 3) := by decide +kernel
theorem dX11_fault_4 : decode cX11_fault 4 = .ok (.invokevirtual 75, 3) := by decide +kernel
theorem dX11_fault_7 : decode cX11_fault 7 = .ok (.ireturn, 1) := by decide +kernel
theorem dX11_school_0 : decode cX11_school 0 = .ok (.aload_n 0, 1) := by decide +kernel
theorem dX11_school_1 : decode cX11_school 1 = .ok (.getfield 12, 3) := by decide +kernel
theorem dX11_school_4 : decode cX11_school 4 = .ok (.invokevirtual 78, 3) := by decide +kernel
theorem dX11_school_7 : decode cX11_school 7 = .ok (.ifCond .ne 6, 3) := by decide +kernel
theorem dX11_school_10 : decode cX11_school 10 = .ok (.bipush (-103), 2) := by decide +kernel
theorem dX11_school_12 : decode cX11_school 12 = .ok (.ireturn, 1) := by decide +kernel
theorem dX11_school_13 : decode cX11_school 13 = .ok (.aload_n 0, 1) := by decide +kernel
theorem dX11_school_14 : decode cX11_school 14 = .ok (.getfield 82, 3) := by decide +kernel
theorem dX11_school_17 : decode cX11_school 17 = .ok (.aload_n 0, 1) := by decide +kernel
theorem dX11_school_18 : decode cX11_school 18 = .ok (.getfield 18, 3) := by decide +kernel
theorem dX11_school_21 : decode cX11_school 21 = .ok (.arraylength, 1) := by decide +kernel
theorem dX11_school_22 : decode cX11_school 22 = .ok (.if_icmp .lt 6, 3) := by decide +kernel
theorem dX11_school_25 : decode cX11_school 25 = .ok (.bipush (-104), 2) := by decide +kernel
theorem dX11_school_27 : decode cX11_school 27 = .ok (.ireturn, 1) := by decide +kernel
theorem dX11_school_28 : decode cX11_school 28 = .ok (.aload_n 0, 1) := by decide +kernel
theorem dX11_school_29 : decode cX11_school 29 = .ok (.getfield 12, 3) := by decide +kernel
theorem dX11_school_32 : decode cX11_school 32 = .ok (.aload_n 0, 1) := by decide +kernel
theorem dX11_school_33 : decode cX11_school 33 = .ok (.getfield 82, 3) := by decide +kernel
theorem dX11_school_36 : decode cX11_school 36 = .ok (.invokevirtual 85, 3) := by decide +kernel
theorem dX11_school_39 : decode cX11_school 39 = .ok (.astore_n 1, 1) := by decide +kernel
theorem dX11_school_40 : decode cX11_school 40 = .ok (.aload_n 0, 1) := by decide +kernel
theorem dX11_school_41 : decode cX11_school 41 = .ok (.getfield 18, 3) := by decide +kernel
theorem dX11_school_44 : decode cX11_school 44 = .ok (.aload_n 0, 1) := by decide +kernel
theorem dX11_school_45 : decode cX11_school 45 = .ok (.getfield 82, 3) := by decide +kernel
theorem dX11_school_48 : decode cX11_school 48 = .ok (.aload_n 1, 1) := by decide +kernel
theorem dX11_school_49 : decode cX11_school 49 = .ok (.aastore, 1) := by decide +kernel
theorem dX11_school_50 : decode cX11_school 50 = .ok (.aload_n 0, 1) := by decide +kernel
theorem dX11_school_51 : decode cX11_school 51 = .ok (.dup, 1) := by decide +kernel
theorem dX11_school_52 : decode cX11_school 52 = .ok (.getfield 82, 3) := by decide +kernel
theorem dX11_school_55 : decode cX11_school 55 = .ok (.iconst 1, 1) := by decide +kernel
theorem dX11_school_56 : decode cX11_school 56 = .ok (.iadd, 1) := by decide +kernel
theorem dX11_school_57 : decode cX11_school 57 = .ok (.putfield 82, 3) := by decide +kernel
theorem dX11_school_60 : decode cX11_school 60 = .ok (.aload_n 1, 1) := by decide +kernel
theorem dX11_school_61 : decode cX11_school 61 = .ok (.getfield 89, 3) := by decide +kernel
theorem dX11_school_64 : decode cX11_school 64 = .ok (.ireturn, 1) := by decide +kernel
theorem dX11_counts_0 : decode cX11_counts 0 = .ok (.aload_n 0, 1) := by decide +kernel
theorem dX11_counts_1 : decode cX11_counts 1 = .ok (.iload_n 1, 1) := by decide +kernel
theorem dX11_counts_2 : decode cX11_counts 2 = .ok (.invokevirtual 92, 3) := by decide +kernel
theorem dX11_counts_5 : decode cX11_counts 5 = .ok (.astore 4, 2) := by decide +kernel
theorem dX11_counts_7 : decode cX11_counts 7 = .ok (.aload 4, 2) := by decide +kernel
theorem dX11_counts_9 : decode cX11_counts 9 = .ok (.ifnonnull 6, 3) := by decide +kernel
theorem dX11_counts_12 : decode cX11_counts 12 = .ok (.bipush (-101), 2) := by decide +kernel
theorem dX11_counts_14 : decode cX11_counts 14 = .ok (.ireturn, 1) := by decide +kernel
theorem dX11_counts_15 : decode cX11_counts 15 = .ok (.iload_n 2, 1) := by decide +kernel
theorem dX11_counts_16 : decode cX11_counts 16 = .ok (.iconst 0, 1) := by decide +kernel
theorem dX11_counts_17 : decode cX11_counts 17 = .ok (.sipush 999, 3) := by decide +kernel
theorem dX11_counts_20 : decode cX11_counts 20 = .ok (.invokestatic 95, 3) := by decide +kernel
theorem dX11_counts_23 : decode cX11_counts 23 = .ok (.ifCond .ne 14, 3) := by decide +kernel
theorem dX11_counts_26 : decode cX11_counts 26 = .ok (.iload_n 3, 1) := by decide +kernel
theorem dX11_counts_27 : decode cX11_counts 27 = .ok (.iconst 0, 1) := by decide +kernel
theorem dX11_counts_28 : decode cX11_counts 28 = .ok (.sipush 999, 3) := by decide +kernel
theorem dX11_counts_31 : decode cX11_counts 31 = .ok (.invokestatic 95, 3) := by decide +kernel
theorem dX11_counts_34 : decode cX11_counts 34 = .ok (.ifCond .eq 6, 3) := by decide +kernel
theorem dX11_counts_37 : decode cX11_counts 37 = .ok (.bipush (-102), 2) := by decide +kernel
theorem dX11_counts_39 : decode cX11_counts 39 = .ok (.ireturn, 1) := by decide +kernel
theorem dX11_counts_40 : decode cX11_counts 40 = .ok (.aload 4, 2) := by decide +kernel
theorem dX11_counts_42 : decode cX11_counts 42 = .ok (.iload_n 2, 1) := by decide +kernel
theorem dX11_counts_43 : decode cX11_counts 43 = .ok (.iload_n 3, 1) := by decide +kernel
theorem dX11_counts_44 : decode cX11_counts 44 = .ok (.invokevirtual 99, 3) := by decide +kernel
theorem dX11_counts_47 : decode cX11_counts 47 = .ok (.ireturn, 1) := by decide +kernel
theorem dX11_meeting_0 : decode cX11_meeting 0 = .ok (.iload_n 1, 1) := by decide +kernel
theorem dX11_meeting_1 : decode cX11_meeting 1 = .ok (.iconst 0, 1) := by decide +kernel
theorem dX11_meeting_2 : decode cX11_meeting 2 = .ok (.iconst 3, 1) := by decide +kernel
theorem dX11_meeting_3 : decode cX11_meeting 3 = .ok (.invokestatic 95, 3) := by decide +kernel
theorem dX11_meeting_6 : decode cX11_meeting 6 = .ok (.ifCond .eq 6, 3) := by decide +kernel
theorem dX11_meeting_9 : decode cX11_meeting 9 = .ok (.bipush (-102), 2) := by decide +kernel
theorem dX11_meeting_11 : decode cX11_meeting 11 = .ok (.ireturn, 1) := by decide +kernel
theorem dX11_meeting_12 : decode cX11_meeting 12 = .ok (.aload_n 0, 1) := by decide +kernel
theorem dX11_meeting_13 : decode cX11_meeting 13 = .ok (.getfield 60, 3) := by decide +kernel
theorem dX11_meeting_16 : decode cX11_meeting 16 = .ok (.istore_n 2, 1) := by decide +kernel
theorem dX11_meeting_17 : decode cX11_meeting 17 = .ok (.aload_n 0, 1) := by decide +kernel
theorem dX11_meeting_18 : decode cX11_meeting 18 = .ok (.iload_n 1, 1) := by decide +kernel
theorem dX11_meeting_19 : decode cX11_meeting 19 = .ok (.putfield 60, 3) := by decide +kernel
theorem dX11_meeting_22 : decode cX11_meeting 22 = .ok (.iload_n 2, 1) := by decide +kernel
theorem dX11_meeting_23 : decode cX11_meeting 23 = .ok (.ireturn, 1) := by decide +kernel
theorem dX11_nut_0 : decode cX11_nut 0 = .ok (.iload_n 1, 1) := by decide +kernel
theorem dX11_nut_1 : decode cX11_nut 1 = .ok (.iconst 0, 1) := by decide +kernel
theorem dX11_nut_2 : decode cX11_nut 2 = .ok (.iconst 4, 1) := by decide +kernel
theorem dX11_nut_3 : decode cX11_nut 3 = .ok (.invokestatic 95, 3) := by decide +kernel
theorem dX11_nut_6 : decode cX11_nut 6 = .ok (.ifCond .eq 6, 3) := by decide +kernel
theorem dX11_nut_9 : decode cX11_nut 9 = .ok (.bipush (-102), 2) := by decide +kernel
theorem dX11_nut_11 : decode cX11_nut 11 = .ok (.ireturn, 1) := by decide +kernel
theorem dX11_nut_12 : decode cX11_nut 12 = .ok (.aload_n 0, 1) := by decide +kernel
theorem dX11_nut_13 : decode cX11_nut 13 = .ok (.iload_n 2, 1) := by decide +kernel
theorem dX11_nut_14 : decode cX11_nut 14 = .ok (.invokevirtual 92, 3) := by decide +kernel
theorem dX11_nut_17 : decode cX11_nut 17 = .ok (.astore 6, 2) := by decide +kernel
theorem dX11_nut_19 : decode cX11_nut 19 = .ok (.aload 6, 2) := by decide +kernel
theorem dX11_nut_21 : decode cX11_nut 21 = .ok (.ifnonnull 6, 3) := by decide +kernel
theorem dX11_nut_24 : decode cX11_nut 24 = .ok (.bipush (-101), 2) := by decide +kernel
theorem dX11_nut_26 : decode cX11_nut 26 = .ok (.ireturn, 1) := by decide +kernel
theorem dX11_nut_27 : decode cX11_nut 27 = .ok (.iload_n 3, 1) := by decide +kernel
theorem dX11_nut_28 : decode cX11_nut 28 = .ok (.iconst 1, 1) := by decide +kernel
theorem dX11_nut_29 : decode cX11_nut 29 = .ok (.bipush 9, 2) := by decide +kernel
theorem dX11_nut_31 : decode cX11_nut 31 = .ok (.invokestatic 95, 3) := by decide +kernel
theorem dX11_nut_34 : decode cX11_nut 34 = .ok (.ifCond .ne 25, 3) := by decide +kernel
theorem dX11_nut_37 : decode cX11_nut 37 = .ok (.iload 4, 2) := by decide +kernel
theorem dX11_nut_39 : decode cX11_nut 39 = .ok (.iconst 0, 1) := by decide +kernel
theorem dX11_nut_40 : decode cX11_nut 40 = .ok (.bipush 99, 2) := by decide +kernel
theorem dX11_nut_42 : decode cX11_nut 42 = .ok (.invokestatic 95, 3) := by decide +kernel
theorem dX11_nut_45 : decode cX11_nut 45 = .ok (.ifCond .ne 14, 3) := by decide +kernel
theorem dX11_nut_48 : decode cX11_nut 48 = .ok (.iload 5, 2) := by decide +kernel
theorem dX11_nut_50 : decode cX11_nut 50 = .ok (.iconst 1, 1) := by decide +kernel
theorem dX11_nut_51 : decode cX11_nut 51 = .ok (.bipush 99, 2) := by decide +kernel
theorem dX11_nut_53 : decode cX11_nut 53 = .ok (.invokestatic 95, 3) := by decide +kernel
theorem dX11_nut_56 : decode cX11_nut 56 = .ok (.ifCond .eq 6, 3) := by decide +kernel
theorem dX11_nut_59 : decode cX11_nut 59 = .ok (.bipush (-102), 2) := by decide +kernel
theorem dX11_nut_61 : decode cX11_nut 61 = .ok (.ireturn, 1) := by decide +kernel
theorem dX11_nut_62 : decode cX11_nut 62 = .ok (.aload_n 0, 1) := by decide +kernel
theorem dX11_nut_63 : decode cX11_nut 63 = .ok (.getfield 103, 3) := by decide +kernel
theorem dX11_nut_66 : decode cX11_nut 66 = .ok (.aload_n 0, 1) := by decide +kernel
theorem dX11_nut_67 : decode cX11_nut 67 = .ok (.getfield 24, 3) := by decide +kernel
theorem dX11_nut_70 : decode cX11_nut 70 = .ok (.arraylength, 1) := by decide +kernel
theorem dX11_nut_71 : decode cX11_nut 71 = .ok (.if_icmp .lt 6, 3) := by decide +kernel
theorem dX11_nut_74 : decode cX11_nut 74 = .ok (.bipush (-104), 2) := by decide +kernel
theorem dX11_nut_76 : decode cX11_nut 76 = .ok (.ireturn, 1) := by decide +kernel
theorem dX11_nut_77 : decode cX11_nut 77 = .ok (.iload_n 1, 1) := by decide +kernel
theorem dX11_nut_78 : decode cX11_nut 78 = .ok (.aload 6, 2) := by decide +kernel
theorem dX11_nut_80 : decode cX11_nut 80 = .ok (.iload_n 3, 1) := by decide +kernel
theorem dX11_nut_81 : decode cX11_nut 81 = .ok (.invokestatic 106, 3) := by decide +kernel
theorem dX11_nut_84 : decode cX11_nut 84 = .ok (.astore 7, 2) := by decide +kernel
theorem dX11_nut_86 : decode cX11_nut 86 = .ok (.aload 7, 2) := by decide +kernel
theorem dX11_nut_88 : decode cX11_nut 88 = .ok (.aload_n 0, 1) := by decide +kernel
theorem dX11_nut_89 : decode cX11_nut 89 = .ok (.getfield 103, 3) := by decide +kernel
theorem dX11_nut_92 : decode cX11_nut 92 = .ok (.iload 4, 2) := by decide +kernel
theorem dX11_nut_94 : decode cX11_nut 94 = .ok (.iload 5, 2) := by decide +kernel
theorem dX11_nut_96 : decode cX11_nut 96 = .ok (.invokevirtual 110, 3) := by decide +kernel
theorem dX11_nut_99 : decode cX11_nut 99 = .ok (.aload_n 0, 1) := by decide +kernel
theorem dX11_nut_100 : decode cX11_nut 100 = .ok (.getfield 24, 3) := by decide +kernel
theorem dX11_nut_103 : decode cX11_nut 103 = .ok (.aload_n 0, 1) := by decide +kernel
theorem dX11_nut_104 : decode cX11_nut 104 = .ok (.getfield 103, 3) := by decide +kernel
theorem dX11_nut_107 : decode cX11_nut 107 = .ok (.aload 7, 2) := by decide +kernel
theorem dX11_nut_109 : decode cX11_nut 109 = .ok (.aastore, 1) := by decide +kernel
theorem dX11_nut_110 : decode cX11_nut 110 = .ok (.aload_n 0, 1) := by decide +kernel
theorem dX11_nut_111 : decode cX11_nut 111 = .ok (.dup, 1) := by decide +kernel
theorem dX11_nut_112 : decode cX11_nut 112 = .ok (.getfield 103, 3) := by decide +kernel
theorem dX11_nut_115 : decode cX11_nut 115 = .ok (.iconst 1, 1) := by decide +kernel
theorem dX11_nut_116 : decode cX11_nut 116 = .ok (.iadd, 1) := by decide +kernel
theorem dX11_nut_117 : decode cX11_nut 117 = .ok (.putfield 103, 3) := by decide +kernel
theorem dX11_nut_120 : decode cX11_nut 120 = .ok (.aload 7, 2) := by decide +kernel
theorem dX11_nut_122 : decode cX11_nut 122 = .ok (.getfield 114, 3) := by decide +kernel
theorem dX11_nut_125 : decode cX11_nut 125 = .ok (.ireturn, 1) := by decide +kernel
theorem dX11_as_0 : decode cX11_as 0 = .ok (.aload_n 0, 1) := by decide +kernel
theorem dX11_as_1 : decode cX11_as 1 = .ok (.iload_n 1, 1) := by decide +kernel
theorem dX11_as_2 : decode cX11_as 2 = .ok (.invokevirtual 115, 3) := by decide +kernel
theorem dX11_as_5 : decode cX11_as 5 = .ok (.astore_n 3, 1) := by decide +kernel
theorem dX11_as_6 : decode cX11_as 6 = .ok (.aload_n 3, 1) := by decide +kernel
theorem dX11_as_7 : decode cX11_as 7 = .ok (.ifnonnull 6, 3) := by decide +kernel
theorem dX11_as_10 : decode cX11_as 10 = .ok (.bipush (-101), 2) := by decide +kernel
theorem dX11_as_12 : decode cX11_as 12 = .ok (.ireturn, 1) := by decide +kernel
theorem dX11_as_13 : decode cX11_as 13 = .ok (.iload_n 2, 1) := by decide +kernel
theorem dX11_as_14 : decode cX11_as 14 = .ok (.iconst 0, 1) := by decide +kernel
theorem dX11_as_15 : decode cX11_as 15 = .ok (.iconst 4, 1) := by decide +kernel
theorem dX11_as_16 : decode cX11_as 16 = .ok (.invokestatic 95, 3) := by decide +kernel
theorem dX11_as_19 : decode cX11_as 19 = .ok (.ifCond .eq 6, 3) := by decide +kernel
theorem dX11_as_22 : decode cX11_as 22 = .ok (.bipush (-102), 2) := by decide +kernel
theorem dX11_as_24 : decode cX11_as 24 = .ok (.ireturn, 1) := by decide +kernel
theorem dX11_as_25 : decode cX11_as 25 = .ok (.aload_n 3, 1) := by decide +kernel
theorem dX11_as_26 : decode cX11_as 26 = .ok (.iload_n 2, 1) := by decide +kernel
theorem dX11_as_27 : decode cX11_as 27 = .ok (.invokestatic 119, 3) := by decide +kernel
theorem dX11_as_30 : decode cX11_as 30 = .ok (.ifCond .eq 10, 3) := by decide +kernel
theorem dX11_as_33 : decode cX11_as 33 = .ok (.aload_n 3, 1) := by decide +kernel
theorem dX11_as_34 : decode cX11_as 34 = .ok (.getfield 114, 3) := by decide +kernel
theorem dX11_as_37 : decode cX11_as 37 = .ok (.goto 4, 3) := by decide +kernel
theorem dX11_as_40 : decode cX11_as 40 = .ok (.iconst (-1), 1) := by decide +kernel
theorem dX11_as_41 : decode cX11_as 41 = .ok (.ireturn, 1) := by decide +kernel
theorem dX11_about_0 : decode cX11_about 0 = .ok (.aload_n 0, 1) := by decide +kernel
theorem dX11_about_1 : decode cX11_about 1 = .ok (.iload_n 1, 1) := by decide +kernel
theorem dX11_about_2 : decode cX11_about 2 = .ok (.invokevirtual 115, 3) := by decide +kernel
theorem dX11_about_5 : decode cX11_about 5 = .ok (.astore_n 3, 1) := by decide +kernel
theorem dX11_about_6 : decode cX11_about 6 = .ok (.aload_n 3, 1) := by decide +kernel
theorem dX11_about_7 : decode cX11_about 7 = .ok (.ifnonnull 6, 3) := by decide +kernel
theorem dX11_about_10 : decode cX11_about 10 = .ok (.bipush (-101), 2) := by decide +kernel
theorem dX11_about_12 : decode cX11_about 12 = .ok (.ireturn, 1) := by decide +kernel
theorem dX11_about_13 : decode cX11_about 13 = .ok (.iload_n 2, 1) := by decide +kernel
theorem dX11_about_14 : decode cX11_about 14 = .ok (.iconst 0, 1) := by decide +kernel
theorem dX11_about_15 : decode cX11_about 15 = .ok (.bipush 7, 2) := by decide +kernel
theorem dX11_about_17 : decode cX11_about 17 = .ok (.invokestatic 95, 3) := by decide +kernel
theorem dX11_about_20 : decode cX11_about 20 = .ok (.ifCond .eq 8, 3) := by decide +kernel
theorem dX11_about_23 : decode cX11_about 23 = .ok (.bipush (-102), 2) := by decide +kernel
theorem dX11_about_25 : decode cX11_about 25 = .ok (.goto 8, 3) := by decide +kernel
theorem dX11_about_28 : decode cX11_about 28 = .ok (.aload_n 3, 1) := by decide +kernel
theorem dX11_about_29 : decode cX11_about 29 = .ok (.iload_n 2, 1) := by decide +kernel
theorem dX11_about_30 : decode cX11_about 30 = .ok (.invokevirtual 123, 3) := by decide +kernel
theorem dX11_about_33 : decode cX11_about 33 = .ok (.ireturn, 1) := by decide +kernel
theorem dX11_beats_0 : decode cX11_beats 0 = .ok (.aload_n 0, 1) := by decide +kernel
theorem dX11_beats_1 : decode cX11_beats 1 = .ok (.iload_n 1, 1) := by decide +kernel
theorem dX11_beats_2 : decode cX11_beats 2 = .ok (.invokevirtual 115, 3) := by decide +kernel
theorem dX11_beats_5 : decode cX11_beats 5 = .ok (.astore_n 3, 1) := by decide +kernel
theorem dX11_beats_6 : decode cX11_beats 6 = .ok (.aload_n 0, 1) := by decide +kernel
theorem dX11_beats_7 : decode cX11_beats 7 = .ok (.iload_n 2, 1) := by decide +kernel
theorem dX11_beats_8 : decode cX11_beats 8 = .ok (.invokevirtual 115, 3) := by decide +kernel
theorem dX11_beats_11 : decode cX11_beats 11 = .ok (.astore 4, 2) := by decide +kernel
theorem dX11_beats_13 : decode cX11_beats 13 = .ok (.aload_n 3, 1) := by decide +kernel
theorem dX11_beats_14 : decode cX11_beats 14 = .ok (.ifnull 14, 3) := by decide +kernel
theorem dX11_beats_17 : decode cX11_beats 17 = .ok (.aload 4, 2) := by decide +kernel
theorem dX11_beats_19 : decode cX11_beats 19 = .ok (.ifnull 9, 3) := by decide +kernel
theorem dX11_beats_22 : decode cX11_beats 22 = .ok (.aload_n 3, 1) := by decide +kernel
theorem dX11_beats_23 : decode cX11_beats 23 = .ok (.aload 4, 2) := by decide +kernel
theorem dX11_beats_25 : decode cX11_beats 25 = .ok (.if_acmp .ne 6, 3) := by decide +kernel
theorem dX11_beats_28 : decode cX11_beats 28 = .ok (.bipush (-101), 2) := by decide +kernel
theorem dX11_beats_30 : decode cX11_beats 30 = .ok (.ireturn, 1) := by decide +kernel
theorem dX11_beats_31 : decode cX11_beats 31 = .ok (.aload_n 3, 1) := by decide +kernel
theorem dX11_beats_32 : decode cX11_beats 32 = .ok (.getfield 127, 3) := by decide +kernel
theorem dX11_beats_35 : decode cX11_beats 35 = .ok (.ifCond .ne 11, 3) := by decide +kernel
theorem dX11_beats_38 : decode cX11_beats 38 = .ok (.aload 4, 2) := by decide +kernel
theorem dX11_beats_40 : decode cX11_beats 40 = .ok (.getfield 127, 3) := by decide +kernel
theorem dX11_beats_43 : decode cX11_beats 43 = .ok (.ifCond .eq 6, 3) := by decide +kernel
theorem dX11_beats_46 : decode cX11_beats 46 = .ok (.bipush (-103), 2) := by decide +kernel
theorem dX11_beats_48 : decode cX11_beats 48 = .ok (.ireturn, 1) := by decide +kernel
theorem dX11_beats_49 : decode cX11_beats 49 = .ok (.aload_n 3, 1) := by decide +kernel
theorem dX11_beats_50 : decode cX11_beats 50 = .ok (.aload 4, 2) := by decide +kernel
theorem dX11_beats_52 : decode cX11_beats 52 = .ok (.aload_n 0, 1) := by decide +kernel
theorem dX11_beats_53 : decode cX11_beats 53 = .ok (.getfield 60, 3) := by decide +kernel
theorem dX11_beats_56 : decode cX11_beats 56 = .ok (.invokevirtual 131, 3) := by decide +kernel
theorem dX11_beats_59 : decode cX11_beats 59 = .ok (.ireturn, 1) := by decide +kernel
theorem dX11_fight_0 : decode cX11_fight 0 = .ok (.aload_n 0, 1) := by decide +kernel
theorem dX11_fight_1 : decode cX11_fight 1 = .ok (.iload_n 1, 1) := by decide +kernel
theorem dX11_fight_2 : decode cX11_fight 2 = .ok (.invokevirtual 115, 3) := by decide +kernel
theorem dX11_fight_5 : decode cX11_fight 5 = .ok (.astore 4, 2) := by decide +kernel
theorem dX11_fight_7 : decode cX11_fight 7 = .ok (.aload_n 0, 1) := by decide +kernel
theorem dX11_fight_8 : decode cX11_fight 8 = .ok (.iload_n 2, 1) := by decide +kernel
theorem dX11_fight_9 : decode cX11_fight 9 = .ok (.invokevirtual 115, 3) := by decide +kernel
theorem dX11_fight_12 : decode cX11_fight 12 = .ok (.astore 5, 2) := by decide +kernel
theorem dX11_fight_14 : decode cX11_fight 14 = .ok (.aload 4, 2) := by decide +kernel
theorem dX11_fight_16 : decode cX11_fight 16 = .ok (.ifnull 15, 3) := by decide +kernel
theorem dX11_fight_19 : decode cX11_fight 19 = .ok (.aload 5, 2) := by decide +kernel
theorem dX11_fight_21 : decode cX11_fight 21 = .ok (.ifnull 10, 3) := by decide +kernel
theorem dX11_fight_24 : decode cX11_fight 24 = .ok (.aload 4, 2) := by decide +kernel
theorem dX11_fight_26 : decode cX11_fight 26 = .ok (.aload 5, 2) := by decide +kernel
theorem dX11_fight_28 : decode cX11_fight 28 = .ok (.if_acmp .ne 6, 3) := by decide +kernel
theorem dX11_fight_31 : decode cX11_fight 31 = .ok (.bipush (-101), 2) := by decide +kernel
theorem dX11_fight_33 : decode cX11_fight 33 = .ok (.ireturn, 1) := by decide +kernel
theorem dX11_fight_34 : decode cX11_fight 34 = .ok (.iload_n 3, 1) := by decide +kernel
theorem dX11_fight_35 : decode cX11_fight 35 = .ok (.ifCond .ge 6, 3) := by decide +kernel
theorem dX11_fight_38 : decode cX11_fight 38 = .ok (.bipush (-102), 2) := by decide +kernel
theorem dX11_fight_40 : decode cX11_fight 40 = .ok (.ireturn, 1) := by decide +kernel
theorem dX11_fight_41 : decode cX11_fight 41 = .ok (.aload 4, 2) := by decide +kernel
theorem dX11_fight_43 : decode cX11_fight 43 = .ok (.getfield 127, 3) := by decide +kernel
theorem dX11_fight_46 : decode cX11_fight 46 = .ok (.ifCond .ne 11, 3) := by decide +kernel
theorem dX11_fight_49 : decode cX11_fight 49 = .ok (.aload 5, 2) := by decide +kernel
theorem dX11_fight_51 : decode cX11_fight 51 = .ok (.getfield 127, 3) := by decide +kernel
theorem dX11_fight_54 : decode cX11_fight 54 = .ok (.ifCond .eq 6, 3) := by decide +kernel
theorem dX11_fight_57 : decode cX11_fight 57 = .ok (.bipush (-103), 2) := by decide +kernel
theorem dX11_fight_59 : decode cX11_fight 59 = .ok (.ireturn, 1) := by decide +kernel
theorem dX11_fight_60 : decode cX11_fight 60 = .ok (.aload_n 0, 1) := by decide +kernel
theorem dX11_fight_61 : decode cX11_fight 61 = .ok (.getfield 31, 3) := by decide +kernel
theorem dX11_fight_64 : decode cX11_fight 64 = .ok (.aload 4, 2) := by decide +kernel
theorem dX11_fight_66 : decode cX11_fight 66 = .ok (.aload 5, 2) := by decide +kernel
theorem dX11_fight_68 : decode cX11_fight 68 = .ok (.iload_n 3, 1) := by decide +kernel
theorem dX11_fight_69 : decode cX11_fight 69 = .ok (.invokevirtual 135, 3) := by decide +kernel
theorem dX11_fight_72 : decode cX11_fight 72 = .ok (.aload 4, 2) := by decide +kernel
theorem dX11_fight_74 : decode cX11_fight 74 = .ok (.aload_n 0, 1) := by decide +kernel
theorem dX11_fight_75 : decode cX11_fight 75 = .ok (.getfield 31, 3) := by decide +kernel
theorem dX11_fight_78 : decode cX11_fight 78 = .ok (.getfield 139, 3) := by decide +kernel
theorem dX11_fight_81 : decode cX11_fight 81 = .ok (.putfield 142, 3) := by decide +kernel
theorem dX11_fight_84 : decode cX11_fight 84 = .ok (.aload 5, 2) := by decide +kernel
theorem dX11_fight_86 : decode cX11_fight 86 = .ok (.aload_n 0, 1) := by decide +kernel
theorem dX11_fight_87 : decode cX11_fight 87 = .ok (.getfield 31, 3) := by decide +kernel
theorem dX11_fight_90 : decode cX11_fight 90 = .ok (.getfield 145, 3) := by decide +kernel
theorem dX11_fight_93 : decode cX11_fight 93 = .ok (.putfield 142, 3) := by decide +kernel
theorem dX11_fight_96 : decode cX11_fight 96 = .ok (.aload_n 0, 1) := by decide +kernel
theorem dX11_fight_97 : decode cX11_fight 97 = .ok (.getfield 31, 3) := by decide +kernel
theorem dX11_fight_100 : decode cX11_fight 100 = .ok (.getfield 148, 3) := by decide +kernel
theorem dX11_fight_103 : decode cX11_fight 103 = .ok (.aload 4, 2) := by decide +kernel
theorem dX11_fight_105 : decode cX11_fight 105 = .ok (.getfield 114, 3) := by decide +kernel
theorem dX11_fight_108 : decode cX11_fight 108 = .ok (.if_icmp .ne 18, 3) := by decide +kernel
theorem dX11_fight_111 : decode cX11_fight 111 = .ok (.aload 4, 2) := by decide +kernel
theorem dX11_fight_113 : decode cX11_fight 113 = .ok (.aload 5, 2) := by decide +kernel
theorem dX11_fight_115 : decode cX11_fight 115 = .ok (.aload_n 0, 1) := by decide +kernel
theorem dX11_fight_116 : decode cX11_fight 116 = .ok (.getfield 60, 3) := by decide +kernel
theorem dX11_fight_119 : decode cX11_fight 119 = .ok (.invokevirtual 131, 3) := by decide +kernel
theorem dX11_fight_122 : decode cX11_fight 122 = .ok (.pop, 1) := by decide +kernel
theorem dX11_fight_123 : decode cX11_fight 123 = .ok (.goto 30, 3) := by decide +kernel
theorem dX11_fight_126 : decode cX11_fight 126 = .ok (.aload_n 0, 1) := by decide +kernel
theorem dX11_fight_127 : decode cX11_fight 127 = .ok (.getfield 31, 3) := by decide +kernel
theorem dX11_fight_130 : decode cX11_fight 130 = .ok (.getfield 148, 3) := by decide +kernel
theorem dX11_fight_133 : decode cX11_fight 133 = .ok (.aload 5, 2) := by decide +kernel
theorem dX11_fight_135 : decode cX11_fight 135 = .ok (.getfield 114, 3) := by decide +kernel
theorem dX11_fight_138 : decode cX11_fight 138 = .ok (.if_icmp .ne 15, 3) := by decide +kernel
theorem dX11_fight_141 : decode cX11_fight 141 = .ok (.aload 5, 2) := by decide +kernel
theorem dX11_fight_143 : decode cX11_fight 143 = .ok (.aload 4, 2) := by decide +kernel
theorem dX11_fight_145 : decode cX11_fight 145 = .ok (.aload_n 0, 1) := by decide +kernel
theorem dX11_fight_146 : decode cX11_fight 146 = .ok (.getfield 60, 3) := by decide +kernel
theorem dX11_fight_149 : decode cX11_fight 149 = .ok (.invokevirtual 131, 3) := by decide +kernel
theorem dX11_fight_152 : decode cX11_fight 152 = .ok (.pop, 1) := by decide +kernel
theorem dX11_fight_153 : decode cX11_fight 153 = .ok (.aload_n 0, 1) := by decide +kernel
theorem dX11_fight_154 : decode cX11_fight 154 = .ok (.getfield 31, 3) := by decide +kernel
theorem dX11_fight_157 : decode cX11_fight 157 = .ok (.getfield 148, 3) := by decide +kernel
theorem dX11_fight_160 : decode cX11_fight 160 = .ok (.ireturn, 1) := by decide +kernel
theorem dX11_would_0 : decode cX11_would 0 = .ok (.aload_n 0, 1) := by decide +kernel
theorem dX11_would_1 : decode cX11_would 1 = .ok (.iload_n 1, 1) := by decide +kernel
theorem dX11_would_2 : decode cX11_would 2 = .ok (.invokevirtual 115, 3) := by decide +kernel
theorem dX11_would_5 : decode cX11_would 5 = .ok (.astore 5, 2) := by decide +kernel
theorem dX11_would_7 : decode cX11_would 7 = .ok (.aload_n 0, 1) := by decide +kernel
theorem dX11_would_8 : decode cX11_would 8 = .ok (.iload_n 2, 1) := by decide +kernel
theorem dX11_would_9 : decode cX11_would 9 = .ok (.invokevirtual 115, 3) := by decide +kernel
theorem dX11_would_12 : decode cX11_would 12 = .ok (.astore 6, 2) := by decide +kernel
theorem dX11_would_14 : decode cX11_would 14 = .ok (.aload 5, 2) := by decide +kernel
theorem dX11_would_16 : decode cX11_would 16 = .ok (.ifnull 15, 3) := by decide +kernel
theorem dX11_would_19 : decode cX11_would 19 = .ok (.aload 6, 2) := by decide +kernel
theorem dX11_would_21 : decode cX11_would 21 = .ok (.ifnull 10, 3) := by decide +kernel
theorem dX11_would_24 : decode cX11_would 24 = .ok (.aload 5, 2) := by decide +kernel
theorem dX11_would_26 : decode cX11_would 26 = .ok (.aload 6, 2) := by decide +kernel
theorem dX11_would_28 : decode cX11_would 28 = .ok (.if_acmp .ne 6, 3) := by decide +kernel
theorem dX11_would_31 : decode cX11_would 31 = .ok (.bipush (-101), 2) := by decide +kernel
theorem dX11_would_33 : decode cX11_would 33 = .ok (.ireturn, 1) := by decide +kernel
theorem dX11_would_34 : decode cX11_would 34 = .ok (.iload_n 3, 1) := by decide +kernel
theorem dX11_would_35 : decode cX11_would 35 = .ok (.ifCond .lt 13, 3) := by decide +kernel
theorem dX11_would_38 : decode cX11_would 38 = .ok (.iload 4, 2) := by decide +kernel
theorem dX11_would_40 : decode cX11_would 40 = .ok (.iconst 0, 1) := by decide +kernel
theorem dX11_would_41 : decode cX11_would 41 = .ok (.iconst 3, 1) := by decide +kernel
theorem dX11_would_42 : decode cX11_would 42 = .ok (.invokestatic 95, 3) := by decide +kernel
theorem dX11_would_45 : decode cX11_would 45 = .ok (.ifCond .eq 6, 3) := by decide +kernel
theorem dX11_would_48 : decode cX11_would 48 = .ok (.bipush (-102), 2) := by decide +kernel
theorem dX11_would_50 : decode cX11_would 50 = .ok (.ireturn, 1) := by decide +kernel
theorem dX11_would_51 : decode cX11_would 51 = .ok (.aload 5, 2) := by decide +kernel
theorem dX11_would_53 : decode cX11_would 53 = .ok (.getfield 127, 3) := by decide +kernel
theorem dX11_would_56 : decode cX11_would 56 = .ok (.ifCond .ne 11, 3) := by decide +kernel
theorem dX11_would_59 : decode cX11_would 59 = .ok (.aload 6, 2) := by decide +kernel
theorem dX11_would_61 : decode cX11_would 61 = .ok (.getfield 127, 3) := by decide +kernel
theorem dX11_would_64 : decode cX11_would 64 = .ok (.ifCond .eq 6, 3) := by decide +kernel
theorem dX11_would_67 : decode cX11_would 67 = .ok (.bipush (-103), 2) := by decide +kernel
theorem dX11_would_69 : decode cX11_would 69 = .ok (.ireturn, 1) := by decide +kernel
theorem dX11_would_70 : decode cX11_would 70 = .ok (.aload_n 0, 1) := by decide +kernel
theorem dX11_would_71 : decode cX11_would 71 = .ok (.getfield 31, 3) := by decide +kernel
theorem dX11_would_74 : decode cX11_would 74 = .ok (.aload 5, 2) := by decide +kernel
theorem dX11_would_76 : decode cX11_would 76 = .ok (.aload 6, 2) := by decide +kernel
theorem dX11_would_78 : decode cX11_would 78 = .ok (.iload_n 3, 1) := by decide +kernel
theorem dX11_would_79 : decode cX11_would 79 = .ok (.invokevirtual 135, 3) := by decide +kernel
theorem dX11_would_82 : decode cX11_would 82 = .ok (.aload_n 0, 1) := by decide +kernel
theorem dX11_would_83 : decode cX11_would 83 = .ok (.getfield 31, 3) := by decide +kernel
theorem dX11_would_86 : decode cX11_would 86 = .ok (.iload 4, 2) := by decide +kernel
theorem dX11_would_88 : decode cX11_would 88 = .ok (.invokevirtual 151, 3) := by decide +kernel
theorem dX11_would_91 : decode cX11_would 91 = .ok (.ireturn, 1) := by decide +kernel
theorem dX11_scales_0 : decode cX11_scales 0 = .ok (.aload_n 0, 1) := by decide +kernel
theorem dX11_scales_1 : decode cX11_scales 1 = .ok (.iload_n 1, 1) := by decide +kernel
theorem dX11_scales_2 : decode cX11_scales 2 = .ok (.invokevirtual 115, 3) := by decide +kernel
theorem dX11_scales_5 : decode cX11_scales 5 = .ok (.astore_n 3, 1) := by decide +kernel
theorem dX11_scales_6 : decode cX11_scales 6 = .ok (.aload_n 3, 1) := by decide +kernel
theorem dX11_scales_7 : decode cX11_scales 7 = .ok (.ifnonnull 6, 3) := by decide +kernel
theorem dX11_scales_10 : decode cX11_scales 10 = .ok (.bipush (-101), 2) := by decide +kernel
theorem dX11_scales_12 : decode cX11_scales 12 = .ok (.ireturn, 1) := by decide +kernel
theorem dX11_scales_13 : decode cX11_scales 13 = .ok (.iload_n 2, 1) := by decide +kernel
theorem dX11_scales_14 : decode cX11_scales 14 = .ok (.iconst 1, 1) := by decide +kernel
theorem dX11_scales_15 : decode cX11_scales 15 = .ok (.sipush 199, 3) := by decide +kernel
theorem dX11_scales_18 : decode cX11_scales 18 = .ok (.invokestatic 95, 3) := by decide +kernel
theorem dX11_scales_21 : decode cX11_scales 21 = .ok (.ifCond .eq 6, 3) := by decide +kernel
theorem dX11_scales_24 : decode cX11_scales 24 = .ok (.bipush (-102), 2) := by decide +kernel
theorem dX11_scales_26 : decode cX11_scales 26 = .ok (.ireturn, 1) := by decide +kernel
theorem dX11_scales_27 : decode cX11_scales 27 = .ok (.iconst 5, 1) := by decide +kernel
theorem dX11_scales_28 : decode cX11_scales 28 = .ok (.iload_n 2, 1) := by decide +kernel
theorem dX11_scales_29 : decode cX11_scales 29 = .ok (.imul, 1) := by decide +kernel
theorem dX11_scales_30 : decode cX11_scales 30 = .ok (.iconst 4, 1) := by decide +kernel
theorem dX11_scales_31 : decode cX11_scales 31 = .ok (.aload_n 3, 1) := by decide +kernel
theorem dX11_scales_32 : decode cX11_scales 32 = .ok (.getfield 152, 3) := by decide +kernel
theorem dX11_scales_35 : decode cX11_scales 35 = .ok (.imul, 1) := by decide +kernel
theorem dX11_scales_36 : decode cX11_scales 36 = .ok (.if_icmp .ge 5, 3) := by decide +kernel
theorem dX11_scales_39 : decode cX11_scales 39 = .ok (.iconst 2, 1) := by decide +kernel
theorem dX11_scales_40 : decode cX11_scales 40 = .ok (.ireturn, 1) := by decide +kernel
theorem dX11_scales_41 : decode cX11_scales 41 = .ok (.bipush 10, 2) := by decide +kernel
theorem dX11_scales_43 : decode cX11_scales 43 = .ok (.iload_n 2, 1) := by decide +kernel
theorem dX11_scales_44 : decode cX11_scales 44 = .ok (.imul, 1) := by decide +kernel
theorem dX11_scales_45 : decode cX11_scales 45 = .ok (.bipush 11, 2) := by decide +kernel
theorem dX11_scales_47 : decode cX11_scales 47 = .ok (.aload_n 3, 1) := by decide +kernel
theorem dX11_scales_48 : decode cX11_scales 48 = .ok (.getfield 152, 3) := by decide +kernel
theorem dX11_scales_51 : decode cX11_scales 51 = .ok (.imul, 1) := by decide +kernel
theorem dX11_scales_52 : decode cX11_scales 52 = .ok (.if_icmp .le 7, 3) := by decide +kernel
theorem dX11_scales_55 : decode cX11_scales 55 = .ok (.iconst 3, 1) := by decide +kernel
theorem dX11_scales_56 : decode cX11_scales 56 = .ok (.goto 4, 3) := by decide +kernel
theorem dX11_scales_59 : decode cX11_scales 59 = .ok (.iconst 0, 1) := by decide +kernel
theorem dX11_scales_60 : decode cX11_scales 60 = .ok (.ireturn, 1) := by decide +kernel
theorem dX11_told_0 : decode cX11_told 0 = .ok (.aload_n 0, 1) := by decide +kernel
theorem dX11_told_1 : decode cX11_told 1 = .ok (.iload_n 1, 1) := by decide +kernel
theorem dX11_told_2 : decode cX11_told 2 = .ok (.invokevirtual 115, 3) := by decide +kernel
theorem dX11_told_5 : decode cX11_told 5 = .ok (.astore_n 3, 1) := by decide +kernel
theorem dX11_told_6 : decode cX11_told 6 = .ok (.aload_n 0, 1) := by decide +kernel
theorem dX11_told_7 : decode cX11_told 7 = .ok (.iload_n 2, 1) := by decide +kernel
theorem dX11_told_8 : decode cX11_told 8 = .ok (.invokevirtual 115, 3) := by decide +kernel
theorem dX11_told_11 : decode cX11_told 11 = .ok (.astore 4, 2) := by decide +kernel
theorem dX11_told_13 : decode cX11_told 13 = .ok (.aload_n 3, 1) := by decide +kernel
theorem dX11_told_14 : decode cX11_told 14 = .ok (.ifnull 14, 3) := by decide +kernel
theorem dX11_told_17 : decode cX11_told 17 = .ok (.aload 4, 2) := by decide +kernel
theorem dX11_told_19 : decode cX11_told 19 = .ok (.ifnull 9, 3) := by decide +kernel
theorem dX11_told_22 : decode cX11_told 22 = .ok (.aload_n 3, 1) := by decide +kernel
theorem dX11_told_23 : decode cX11_told 23 = .ok (.aload 4, 2) := by decide +kernel
theorem dX11_told_25 : decode cX11_told 25 = .ok (.if_acmp .ne 6, 3) := by decide +kernel
theorem dX11_told_28 : decode cX11_told 28 = .ok (.bipush (-101), 2) := by decide +kernel
theorem dX11_told_30 : decode cX11_told 30 = .ok (.ireturn, 1) := by decide +kernel
theorem dX11_told_31 : decode cX11_told 31 = .ok (.aload_n 0, 1) := by decide +kernel
theorem dX11_told_32 : decode cX11_told 32 = .ok (.getfield 38, 3) := by decide +kernel
theorem dX11_told_35 : decode cX11_told 35 = .ok (.aload_n 3, 1) := by decide +kernel
theorem dX11_told_36 : decode cX11_told 36 = .ok (.aload 4, 2) := by decide +kernel
theorem dX11_told_38 : decode cX11_told 38 = .ok (.invokevirtual 155, 3) := by decide +kernel
theorem dX11_told_41 : decode cX11_told 41 = .ok (.ireturn, 1) := by decide +kernel
theorem dX11_claim_0 : decode cX11_claim 0 = .ok (.aload_n 0, 1) := by decide +kernel
theorem dX11_claim_1 : decode cX11_claim 1 = .ok (.iload_n 1, 1) := by decide +kernel
theorem dX11_claim_2 : decode cX11_claim 2 = .ok (.invokevirtual 115, 3) := by decide +kernel
theorem dX11_claim_5 : decode cX11_claim 5 = .ok (.astore_n 3, 1) := by decide +kernel
theorem dX11_claim_6 : decode cX11_claim 6 = .ok (.aload_n 3, 1) := by decide +kernel
theorem dX11_claim_7 : decode cX11_claim 7 = .ok (.ifnonnull 6, 3) := by decide +kernel
theorem dX11_claim_10 : decode cX11_claim 10 = .ok (.bipush (-101), 2) := by decide +kernel
theorem dX11_claim_12 : decode cX11_claim 12 = .ok (.ireturn, 1) := by decide +kernel
theorem dX11_claim_13 : decode cX11_claim 13 = .ok (.iload_n 2, 1) := by decide +kernel
theorem dX11_claim_14 : decode cX11_claim 14 = .ok (.iconst (-1), 1) := by decide +kernel
theorem dX11_claim_15 : decode cX11_claim 15 = .ok (.sipush 999, 3) := by decide +kernel
theorem dX11_claim_18 : decode cX11_claim 18 = .ok (.invokestatic 95, 3) := by decide +kernel
theorem dX11_claim_21 : decode cX11_claim 21 = .ok (.ifCond .eq 6, 3) := by decide +kernel
theorem dX11_claim_24 : decode cX11_claim 24 = .ok (.bipush (-102), 2) := by decide +kernel
theorem dX11_claim_26 : decode cX11_claim 26 = .ok (.ireturn, 1) := by decide +kernel
theorem dX11_claim_27 : decode cX11_claim 27 = .ok (.aload_n 3, 1) := by decide +kernel
theorem dX11_claim_28 : decode cX11_claim 28 = .ok (.getfield 159, 3) := by decide +kernel
theorem dX11_claim_31 : decode cX11_claim 31 = .ok (.istore 4, 2) := by decide +kernel
theorem dX11_claim_33 : decode cX11_claim 33 = .ok (.aload_n 3, 1) := by decide +kernel
theorem dX11_claim_34 : decode cX11_claim 34 = .ok (.iload_n 2, 1) := by decide +kernel
theorem dX11_claim_35 : decode cX11_claim 35 = .ok (.putfield 159, 3) := by decide +kernel
theorem dX11_claim_38 : decode cX11_claim 38 = .ok (.iload 4, 2) := by decide +kernel
theorem dX11_claim_40 : decode cX11_claim 40 = .ok (.ireturn, 1) := by decide +kernel
theorem dX11_by_0 : decode cX11_by 0 = .ok (.aload_n 0, 1) := by decide +kernel
theorem dX11_by_1 : decode cX11_by 1 = .ok (.iload_n 2, 1) := by decide +kernel
theorem dX11_by_2 : decode cX11_by 2 = .ok (.invokevirtual 115, 3) := by decide +kernel
theorem dX11_by_5 : decode cX11_by 5 = .ok (.astore_n 3, 1) := by decide +kernel
theorem dX11_by_6 : decode cX11_by 6 = .ok (.aload_n 3, 1) := by decide +kernel
theorem dX11_by_7 : decode cX11_by 7 = .ok (.ifnonnull 11, 3) := by decide +kernel
theorem dX11_by_10 : decode cX11_by 10 = .ok (.iload_n 2, 1) := by decide +kernel
theorem dX11_by_11 : decode cX11_by 11 = .ok (.iconst (-1), 1) := by decide +kernel
theorem dX11_by_12 : decode cX11_by 12 = .ok (.if_icmp .eq 6, 3) := by decide +kernel
theorem dX11_by_15 : decode cX11_by 15 = .ok (.bipush (-101), 2) := by decide +kernel
theorem dX11_by_17 : decode cX11_by 17 = .ok (.ireturn, 1) := by decide +kernel
theorem dX11_by_18 : decode cX11_by 18 = .ok (.aload_n 0, 1) := by decide +kernel
theorem dX11_by_19 : decode cX11_by 19 = .ok (.getfield 38, 3) := by decide +kernel
theorem dX11_by_22 : decode cX11_by 22 = .ok (.iload_n 1, 1) := by decide +kernel
theorem dX11_by_23 : decode cX11_by 23 = .ok (.invokevirtual 162, 3) := by decide +kernel
theorem dX11_by_26 : decode cX11_by 26 = .ok (.ifCond .ne 6, 3) := by decide +kernel
theorem dX11_by_29 : decode cX11_by 29 = .ok (.bipush (-102), 2) := by decide +kernel
theorem dX11_by_31 : decode cX11_by 31 = .ok (.ireturn, 1) := by decide +kernel
theorem dX11_by_32 : decode cX11_by 32 = .ok (.aload_n 0, 1) := by decide +kernel
theorem dX11_by_33 : decode cX11_by 33 = .ok (.getfield 38, 3) := by decide +kernel
theorem dX11_by_36 : decode cX11_by 36 = .ok (.iload_n 1, 1) := by decide +kernel
theorem dX11_by_37 : decode cX11_by 37 = .ok (.aload_n 0, 1) := by decide +kernel
theorem dX11_by_38 : decode cX11_by 38 = .ok (.getfield 24, 3) := by decide +kernel
theorem dX11_by_41 : decode cX11_by 41 = .ok (.aload_n 0, 1) := by decide +kernel
theorem dX11_by_42 : decode cX11_by 42 = .ok (.getfield 60, 3) := by decide +kernel
theorem dX11_by_45 : decode cX11_by 45 = .ok (.invokevirtual 166, 3) := by decide +kernel
theorem dX11_by_48 : decode cX11_by 48 = .ok (.istore 4, 2) := by decide +kernel
theorem dX11_by_50 : decode cX11_by 50 = .ok (.aload_n 3, 1) := by decide +kernel
theorem dX11_by_51 : decode cX11_by 51 = .ok (.ifnonnull 14, 3) := by decide +kernel
theorem dX11_by_54 : decode cX11_by 54 = .ok (.iload 4, 2) := by decide +kernel
theorem dX11_by_56 : decode cX11_by 56 = .ok (.ifCond .eq 7, 3) := by decide +kernel
theorem dX11_by_59 : decode cX11_by 59 = .ok (.iconst 1, 1) := by decide +kernel
theorem dX11_by_60 : decode cX11_by 60 = .ok (.goto 4, 3) := by decide +kernel
theorem dX11_by_63 : decode cX11_by 63 = .ok (.iconst 0, 1) := by decide +kernel
theorem dX11_by_64 : decode cX11_by 64 = .ok (.ireturn, 1) := by decide +kernel
theorem dX11_by_65 : decode cX11_by 65 = .ok (.iload 4, 2) := by decide +kernel
theorem dX11_by_67 : decode cX11_by 67 = .ok (.ifCond .eq 14, 3) := by decide +kernel
theorem dX11_by_70 : decode cX11_by 70 = .ok (.aload_n 0, 1) := by decide +kernel
theorem dX11_by_71 : decode cX11_by 71 = .ok (.getfield 38, 3) := by decide +kernel
theorem dX11_by_74 : decode cX11_by 74 = .ok (.aload_n 3, 1) := by decide +kernel
theorem dX11_by_75 : decode cX11_by 75 = .ok (.invokevirtual 170, 3) := by decide +kernel
theorem dX11_by_78 : decode cX11_by 78 = .ok (.goto 5, 3) := by decide +kernel
theorem dX11_by_81 : decode cX11_by 81 = .ok (.bipush (-103), 2) := by decide +kernel
theorem dX11_by_83 : decode cX11_by 83 = .ok (.ireturn, 1) := by decide +kernel
theorem dX11_lies_0 : decode cX11_lies 0 = .ok (.iload_n 1, 1) := by decide +kernel
theorem dX11_lies_1 : decode cX11_lies 1 = .ok (.iconst 0, 1) := by decide +kernel
theorem dX11_lies_2 : decode cX11_lies 2 = .ok (.iconst 1, 1) := by decide +kernel
theorem dX11_lies_3 : decode cX11_lies 3 = .ok (.invokestatic 95, 3) := by decide +kernel
theorem dX11_lies_6 : decode cX11_lies 6 = .ok (.ifCond .eq 6, 3) := by decide +kernel
theorem dX11_lies_9 : decode cX11_lies 9 = .ok (.bipush (-102), 2) := by decide +kernel
theorem dX11_lies_11 : decode cX11_lies 11 = .ok (.ireturn, 1) := by decide +kernel
theorem dX11_lies_12 : decode cX11_lies 12 = .ok (.aload_n 0, 1) := by decide +kernel
theorem dX11_lies_13 : decode cX11_lies 13 = .ok (.getfield 38, 3) := by decide +kernel
theorem dX11_lies_16 : decode cX11_lies 16 = .ok (.aload_n 0, 1) := by decide +kernel
theorem dX11_lies_17 : decode cX11_lies 17 = .ok (.getfield 24, 3) := by decide +kernel
theorem dX11_lies_20 : decode cX11_lies 20 = .ok (.aload_n 0, 1) := by decide +kernel
theorem dX11_lies_21 : decode cX11_lies 21 = .ok (.getfield 60, 3) := by decide +kernel
theorem dX11_lies_24 : decode cX11_lies 24 = .ok (.invokevirtual 174, 3) := by decide +kernel
theorem dX11_lies_27 : decode cX11_lies 27 = .ok (.iload_n 1, 1) := by decide +kernel
theorem dX11_lies_28 : decode cX11_lies 28 = .ok (.ifCond .ne 13, 3) := by decide +kernel
theorem dX11_lies_31 : decode cX11_lies 31 = .ok (.aload_n 0, 1) := by decide +kernel
theorem dX11_lies_32 : decode cX11_lies 32 = .ok (.getfield 38, 3) := by decide +kernel
theorem dX11_lies_35 : decode cX11_lies 35 = .ok (.getfield 178, 3) := by decide +kernel
theorem dX11_lies_38 : decode cX11_lies 38 = .ok (.goto 10, 3) := by decide +kernel
theorem dX11_lies_41 : decode cX11_lies 41 = .ok (.aload_n 0, 1) := by decide +kernel
theorem dX11_lies_42 : decode cX11_lies 42 = .ok (.getfield 38, 3) := by decide +kernel
theorem dX11_lies_45 : decode cX11_lies 45 = .ok (.getfield 181, 3) := by decide +kernel
theorem dX11_lies_48 : decode cX11_lies 48 = .ok (.ireturn, 1) := by decide +kernel
theorem dX11_most_0 : decode cX11_most 0 = .ok (.aload_n 0, 1) := by decide +kernel
theorem dX11_most_1 : decode cX11_most 1 = .ok (.iload_n 1, 1) := by decide +kernel
theorem dX11_most_2 : decode cX11_most 2 = .ok (.invokevirtual 115, 3) := by decide +kernel
theorem dX11_most_5 : decode cX11_most 5 = .ok (.astore_n 3, 1) := by decide +kernel
theorem dX11_most_6 : decode cX11_most 6 = .ok (.aload_n 3, 1) := by decide +kernel
theorem dX11_most_7 : decode cX11_most 7 = .ok (.ifnonnull 6, 3) := by decide +kernel
theorem dX11_most_10 : decode cX11_most 10 = .ok (.bipush (-101), 2) := by decide +kernel
theorem dX11_most_12 : decode cX11_most 12 = .ok (.ireturn, 1) := by decide +kernel
theorem dX11_most_13 : decode cX11_most 13 = .ok (.iload_n 2, 1) := by decide +kernel
theorem dX11_most_14 : decode cX11_most 14 = .ok (.iconst 0, 1) := by decide +kernel
theorem dX11_most_15 : decode cX11_most 15 = .ok (.bipush 18, 2) := by decide +kernel
theorem dX11_most_17 : decode cX11_most 17 = .ok (.invokestatic 95, 3) := by decide +kernel
theorem dX11_most_20 : decode cX11_most 20 = .ok (.ifCond .eq 8, 3) := by decide +kernel
theorem dX11_most_23 : decode cX11_most 23 = .ok (.bipush (-102), 2) := by decide +kernel
theorem dX11_most_25 : decode cX11_most 25 = .ok (.goto 20, 3) := by decide +kernel
theorem dX11_most_28 : decode cX11_most 28 = .ok (.aload_n 0, 1) := by decide +kernel
theorem dX11_most_29 : decode cX11_most 29 = .ok (.getfield 38, 3) := by decide +kernel
theorem dX11_most_32 : decode cX11_most 32 = .ok (.aload_n 3, 1) := by decide +kernel
theorem dX11_most_33 : decode cX11_most 33 = .ok (.iload_n 2, 1) := by decide +kernel
theorem dX11_most_34 : decode cX11_most 34 = .ok (.aload_n 0, 1) := by decide +kernel
theorem dX11_most_35 : decode cX11_most 35 = .ok (.getfield 24, 3) := by decide +kernel
theorem dX11_most_38 : decode cX11_most 38 = .ok (.aload_n 0, 1) := by decide +kernel
theorem dX11_most_39 : decode cX11_most 39 = .ok (.getfield 60, 3) := by decide +kernel
theorem dX11_most_42 : decode cX11_most 42 = .ok (.invokevirtual 184, 3) := by decide +kernel
theorem dX11_most_45 : decode cX11_most 45 = .ok (.ireturn, 1) := by decide +kernel
theorem dX11_whose_0 : decode cX11_whose 0 = .ok (.iload_n 1, 1) := by decide +kernel
theorem dX11_whose_1 : decode cX11_whose 1 = .ok (.iconst 0, 1) := by decide +kernel
theorem dX11_whose_2 : decode cX11_whose 2 = .ok (.aload_n 0, 1) := by decide +kernel
theorem dX11_whose_3 : decode cX11_whose 3 = .ok (.getfield 38, 3) := by decide +kernel
theorem dX11_whose_6 : decode cX11_whose 6 = .ok (.getfield 188, 3) := by decide +kernel
theorem dX11_whose_9 : decode cX11_whose 9 = .ok (.iconst 1, 1) := by decide +kernel
theorem dX11_whose_10 : decode cX11_whose 10 = .ok (.isub, 1) := by decide +kernel
theorem dX11_whose_11 : decode cX11_whose 11 = .ok (.invokestatic 95, 3) := by decide +kernel
theorem dX11_whose_14 : decode cX11_whose 14 = .ok (.ifCond .eq 6, 3) := by decide +kernel
theorem dX11_whose_17 : decode cX11_whose 17 = .ok (.bipush (-101), 2) := by decide +kernel
theorem dX11_whose_19 : decode cX11_whose 19 = .ok (.ireturn, 1) := by decide +kernel
theorem dX11_whose_20 : decode cX11_whose 20 = .ok (.aload_n 0, 1) := by decide +kernel
theorem dX11_whose_21 : decode cX11_whose 21 = .ok (.getfield 38, 3) := by decide +kernel
theorem dX11_whose_24 : decode cX11_whose 24 = .ok (.aload_n 0, 1) := by decide +kernel
theorem dX11_whose_25 : decode cX11_whose 25 = .ok (.getfield 24, 3) := by decide +kernel
theorem dX11_whose_28 : decode cX11_whose 28 = .ok (.aload_n 0, 1) := by decide +kernel
theorem dX11_whose_29 : decode cX11_whose 29 = .ok (.getfield 60, 3) := by decide +kernel
theorem dX11_whose_32 : decode cX11_whose 32 = .ok (.invokevirtual 174, 3) := by decide +kernel
theorem dX11_whose_35 : decode cX11_whose 35 = .ok (.aload_n 0, 1) := by decide +kernel
theorem dX11_whose_36 : decode cX11_whose 36 = .ok (.getfield 38, 3) := by decide +kernel
theorem dX11_whose_39 : decode cX11_whose 39 = .ok (.iload_n 1, 1) := by decide +kernel
theorem dX11_whose_40 : decode cX11_whose 40 = .ok (.aload_n 0, 1) := by decide +kernel
theorem dX11_whose_41 : decode cX11_whose 41 = .ok (.getfield 24, 3) := by decide +kernel
theorem dX11_whose_44 : decode cX11_whose 44 = .ok (.aload_n 0, 1) := by decide +kernel
theorem dX11_whose_45 : decode cX11_whose 45 = .ok (.getfield 60, 3) := by decide +kernel
theorem dX11_whose_48 : decode cX11_whose 48 = .ok (.invokevirtual 191, 3) := by decide +kernel
theorem dX11_whose_51 : decode cX11_whose 51 = .ok (.ireturn, 1) := by decide +kernel
theorem dX11_reach_0 : decode cX11_reach 0 = .ok (.aload_n 0, 1) := by decide +kernel
theorem dX11_reach_1 : decode cX11_reach 1 = .ok (.iload_n 1, 1) := by decide +kernel
theorem dX11_reach_2 : decode cX11_reach 2 = .ok (.invokevirtual 115, 3) := by decide +kernel
theorem dX11_reach_5 : decode cX11_reach 5 = .ok (.astore_n 3, 1) := by decide +kernel
theorem dX11_reach_6 : decode cX11_reach 6 = .ok (.aload_n 3, 1) := by decide +kernel
theorem dX11_reach_7 : decode cX11_reach 7 = .ok (.ifnonnull 7, 3) := by decide +kernel
theorem dX11_reach_10 : decode cX11_reach 10 = .ok (.ldc2_w 195, 3) := by decide +kernel
theorem dX11_reach_13 : decode cX11_reach 13 = .ok (.lreturn, 1) := by decide +kernel
theorem dX11_reach_14 : decode cX11_reach 14 = .ok (.iload_n 2, 1) := by decide +kernel
theorem dX11_reach_15 : decode cX11_reach 15 = .ok (.ifCond .lt 28, 3) := by decide +kernel
theorem dX11_reach_18 : decode cX11_reach 18 = .ok (.iload_n 2, 1) := by decide +kernel
theorem dX11_reach_19 : decode cX11_reach 19 = .ok (.iconst 1, 1) := by decide +kernel
theorem dX11_reach_20 : decode cX11_reach 20 = .ok (.aload_n 0, 1) := by decide +kernel
theorem dX11_reach_21 : decode cX11_reach 21 = .ok (.getfield 103, 3) := by decide +kernel
theorem dX11_reach_24 : decode cX11_reach 24 = .ok (.ishl, 1) := by decide +kernel
theorem dX11_reach_25 : decode cX11_reach 25 = .ok (.if_icmp .ge 18, 3) := by decide +kernel
theorem dX11_reach_28 : decode cX11_reach 28 = .ok (.iload_n 2, 1) := by decide +kernel
theorem dX11_reach_29 : decode cX11_reach 29 = .ok (.aload_n 3, 1) := by decide +kernel
theorem dX11_reach_30 : decode cX11_reach 30 = .ok (.getfield 114, 3) := by decide +kernel
theorem dX11_reach_33 : decode cX11_reach 33 = .ok (.ishr, 1) := by decide +kernel
theorem dX11_reach_34 : decode cX11_reach 34 = .ok (.iconst 1, 1) := by decide +kernel
theorem dX11_reach_35 : decode cX11_reach 35 = .ok (.iand, 1) := by decide +kernel
theorem dX11_reach_36 : decode cX11_reach 36 = .ok (.ifCond .ne 7, 3) := by decide +kernel
theorem dX11_reach_39 : decode cX11_reach 39 = .ok (.iconst 1, 1) := by decide +kernel
theorem dX11_reach_40 : decode cX11_reach 40 = .ok (.goto 4, 3) := by decide +kernel
theorem dX11_reach_43 : decode cX11_reach 43 = .ok (.iconst 0, 1) := by decide +kernel
theorem dX11_reach_44 : decode cX11_reach 44 = .ok (.istore 4, 2) := by decide +kernel
theorem dX11_reach_46 : decode cX11_reach 46 = .ok (.iload 4, 2) := by decide +kernel
theorem dX11_reach_48 : decode cX11_reach 48 = .ok (.ifCond .eq 11, 3) := by decide +kernel
theorem dX11_reach_51 : decode cX11_reach 51 = .ok (.iload_n 2, 1) := by decide +kernel
theorem dX11_reach_52 : decode cX11_reach 52 = .ok (.invokestatic 197, 3) := by decide +kernel
theorem dX11_reach_55 : decode cX11_reach 55 = .ok (.iconst 5, 1) := by decide +kernel
theorem dX11_reach_56 : decode cX11_reach 56 = .ok (.if_icmp .le 7, 3) := by decide +kernel
theorem dX11_reach_59 : decode cX11_reach 59 = .ok (.ldc2_w 202, 3) := by decide +kernel
theorem dX11_reach_62 : decode cX11_reach 62 = .ok (.lreturn, 1) := by decide +kernel
theorem dX11_reach_63 : decode cX11_reach 63 = .ok (.aload_n 0, 1) := by decide +kernel
theorem dX11_reach_64 : decode cX11_reach 64 = .ok (.getfield 45, 3) := by decide +kernel
theorem dX11_reach_67 : decode cX11_reach 67 = .ok (.aload_n 0, 1) := by decide +kernel
theorem dX11_reach_68 : decode cX11_reach 68 = .ok (.getfield 24, 3) := by decide +kernel
theorem dX11_reach_71 : decode cX11_reach 71 = .ok (.iload_n 2, 1) := by decide +kernel
theorem dX11_reach_72 : decode cX11_reach 72 = .ok (.aload_n 3, 1) := by decide +kernel
theorem dX11_reach_73 : decode cX11_reach 73 = .ok (.invokevirtual 204, 3) := by decide +kernel
theorem dX11_reach_76 : decode cX11_reach 76 = .ok (.aload_n 0, 1) := by decide +kernel
theorem dX11_reach_77 : decode cX11_reach 77 = .ok (.getfield 45, 3) := by decide +kernel
theorem dX11_reach_80 : decode cX11_reach 80 = .ok (.aload_n 0, 1) := by decide +kernel
theorem dX11_reach_81 : decode cX11_reach 81 = .ok (.getfield 60, 3) := by decide +kernel
theorem dX11_reach_84 : decode cX11_reach 84 = .ok (.invokevirtual 208, 3) := by decide +kernel
theorem dX11_reach_87 : decode cX11_reach 87 = .ok (.lreturn, 1) := by decide +kernel
theorem dX11_odds_0 : decode cX11_odds 0 = .ok (.aload_n 0, 1) := by decide +kernel
theorem dX11_odds_1 : decode cX11_odds 1 = .ok (.iload_n 1, 1) := by decide +kernel
theorem dX11_odds_2 : decode cX11_odds 2 = .ok (.invokevirtual 115, 3) := by decide +kernel
theorem dX11_odds_5 : decode cX11_odds 5 = .ok (.astore 4, 2) := by decide +kernel
theorem dX11_odds_7 : decode cX11_odds 7 = .ok (.aload_n 0, 1) := by decide +kernel
theorem dX11_odds_8 : decode cX11_odds 8 = .ok (.iload_n 2, 1) := by decide +kernel
theorem dX11_odds_9 : decode cX11_odds 9 = .ok (.invokevirtual 115, 3) := by decide +kernel
theorem dX11_odds_12 : decode cX11_odds 12 = .ok (.astore 5, 2) := by decide +kernel
theorem dX11_odds_14 : decode cX11_odds 14 = .ok (.aload 4, 2) := by decide +kernel
theorem dX11_odds_16 : decode cX11_odds 16 = .ok (.ifnull 15, 3) := by decide +kernel
theorem dX11_odds_19 : decode cX11_odds 19 = .ok (.aload 5, 2) := by decide +kernel
theorem dX11_odds_21 : decode cX11_odds 21 = .ok (.ifnull 10, 3) := by decide +kernel
theorem dX11_odds_24 : decode cX11_odds 24 = .ok (.aload 4, 2) := by decide +kernel
theorem dX11_odds_26 : decode cX11_odds 26 = .ok (.aload 5, 2) := by decide +kernel
theorem dX11_odds_28 : decode cX11_odds 28 = .ok (.if_acmp .ne 7, 3) := by decide +kernel
theorem dX11_odds_31 : decode cX11_odds 31 = .ok (.ldc2_w 195, 3) := by decide +kernel
theorem dX11_odds_34 : decode cX11_odds 34 = .ok (.lreturn, 1) := by decide +kernel
theorem dX11_odds_35 : decode cX11_odds 35 = .ok (.iload_n 3, 1) := by decide +kernel
theorem dX11_odds_36 : decode cX11_odds 36 = .ok (.iconst 0, 1) := by decide +kernel
theorem dX11_odds_37 : decode cX11_odds 37 = .ok (.iconst 1, 1) := by decide +kernel
theorem dX11_odds_38 : decode cX11_odds 38 = .ok (.invokestatic 95, 3) := by decide +kernel
theorem dX11_odds_41 : decode cX11_odds 41 = .ok (.ifCond .eq 7, 3) := by decide +kernel
theorem dX11_odds_44 : decode cX11_odds 44 = .ok (.ldc2_w 202, 3) := by decide +kernel
theorem dX11_odds_47 : decode cX11_odds 47 = .ok (.lreturn, 1) := by decide +kernel
theorem dX11_odds_48 : decode cX11_odds 48 = .ok (.aload_n 0, 1) := by decide +kernel
theorem dX11_odds_49 : decode cX11_odds 49 = .ok (.getfield 103, 3) := by decide +kernel
theorem dX11_odds_52 : decode cX11_odds 52 = .ok (.bipush 6, 2) := by decide +kernel
theorem dX11_odds_54 : decode cX11_odds 54 = .ok (.if_icmp .le 9, 3) := by decide +kernel
theorem dX11_odds_57 : decode cX11_odds 57 = .ok (.ldc2_w 212, 3) := by decide +kernel
theorem dX11_odds_60 : decode cX11_odds 60 = .ok (.goto 19, 3) := by decide +kernel
theorem dX11_odds_63 : decode cX11_odds 63 = .ok (.aload_n 0, 1) := by decide +kernel
theorem dX11_odds_64 : decode cX11_odds 64 = .ok (.getfield 38, 3) := by decide +kernel
theorem dX11_odds_67 : decode cX11_odds 67 = .ok (.aload 4, 2) := by decide +kernel
theorem dX11_odds_69 : decode cX11_odds 69 = .ok (.aload 5, 2) := by decide +kernel
theorem dX11_odds_71 : decode cX11_odds 71 = .ok (.aload_n 0, 1) := by decide +kernel
theorem dX11_odds_72 : decode cX11_odds 72 = .ok (.getfield 103, 3) := by decide +kernel
theorem dX11_odds_75 : decode cX11_odds 75 = .ok (.iload_n 3, 1) := by decide +kernel
theorem dX11_odds_76 : decode cX11_odds 76 = .ok (.invokevirtual 214, 3) := by decide +kernel
theorem dX11_odds_79 : decode cX11_odds 79 = .ok (.lreturn, 1) := by decide +kernel
theorem dX11_likely_0 : decode cX11_likely 0 = .ok (.aload_n 0, 1) := by decide +kernel
theorem dX11_likely_1 : decode cX11_likely 1 = .ok (.iload_n 1, 1) := by decide +kernel
theorem dX11_likely_2 : decode cX11_likely 2 = .ok (.invokevirtual 115, 3) := by decide +kernel
theorem dX11_likely_5 : decode cX11_likely 5 = .ok (.astore 4, 2) := by decide +kernel
theorem dX11_likely_7 : decode cX11_likely 7 = .ok (.aload 4, 2) := by decide +kernel
theorem dX11_likely_9 : decode cX11_likely 9 = .ok (.ifnonnull 7, 3) := by decide +kernel
theorem dX11_likely_12 : decode cX11_likely 12 = .ok (.ldc2_w 195, 3) := by decide +kernel
theorem dX11_likely_15 : decode cX11_likely 15 = .ok (.lreturn, 1) := by decide +kernel
theorem dX11_likely_16 : decode cX11_likely 16 = .ok (.iload_n 2, 1) := by decide +kernel
theorem dX11_likely_17 : decode cX11_likely 17 = .ok (.iconst 1, 1) := by decide +kernel
theorem dX11_likely_18 : decode cX11_likely 18 = .ok (.iconst 3, 1) := by decide +kernel
theorem dX11_likely_19 : decode cX11_likely 19 = .ok (.invokestatic 95, 3) := by decide +kernel
theorem dX11_likely_22 : decode cX11_likely 22 = .ok (.ifCond .ne 12, 3) := by decide +kernel
theorem dX11_likely_25 : decode cX11_likely 25 = .ok (.iload_n 3, 1) := by decide +kernel
theorem dX11_likely_26 : decode cX11_likely 26 = .ok (.iconst 0, 1) := by decide +kernel
theorem dX11_likely_27 : decode cX11_likely 27 = .ok (.iconst 1, 1) := by decide +kernel
theorem dX11_likely_28 : decode cX11_likely 28 = .ok (.invokestatic 95, 3) := by decide +kernel
theorem dX11_likely_31 : decode cX11_likely 31 = .ok (.ifCond .eq 7, 3) := by decide +kernel
theorem dX11_likely_34 : decode cX11_likely 34 = .ok (.ldc2_w 202, 3) := by decide +kernel
theorem dX11_likely_37 : decode cX11_likely 37 = .ok (.lreturn, 1) := by decide +kernel
theorem dX11_likely_38 : decode cX11_likely 38 = .ok (.aload_n 0, 1) := by decide +kernel
theorem dX11_likely_39 : decode cX11_likely 39 = .ok (.getfield 103, 3) := by decide +kernel
theorem dX11_likely_42 : decode cX11_likely 42 = .ok (.bipush 6, 2) := by decide +kernel
theorem dX11_likely_44 : decode cX11_likely 44 = .ok (.if_icmp .le 9, 3) := by decide +kernel
theorem dX11_likely_47 : decode cX11_likely 47 = .ok (.ldc2_w 212, 3) := by decide +kernel
theorem dX11_likely_50 : decode cX11_likely 50 = .ok (.goto 18, 3) := by decide +kernel
theorem dX11_likely_53 : decode cX11_likely 53 = .ok (.aload_n 0, 1) := by decide +kernel
theorem dX11_likely_54 : decode cX11_likely 54 = .ok (.getfield 38, 3) := by decide +kernel
theorem dX11_likely_57 : decode cX11_likely 57 = .ok (.aload 4, 2) := by decide +kernel
theorem dX11_likely_59 : decode cX11_likely 59 = .ok (.iload_n 2, 1) := by decide +kernel
theorem dX11_likely_60 : decode cX11_likely 60 = .ok (.aload_n 0, 1) := by decide +kernel
theorem dX11_likely_61 : decode cX11_likely 61 = .ok (.getfield 103, 3) := by decide +kernel
theorem dX11_likely_64 : decode cX11_likely 64 = .ok (.iload_n 3, 1) := by decide +kernel
theorem dX11_likely_65 : decode cX11_likely 65 = .ok (.invokevirtual 218, 3) := by decide +kernel
theorem dX11_likely_68 : decode cX11_likely 68 = .ok (.lreturn, 1) := by decide +kernel
theorem dX11_comer_0 : decode cX11_comer 0 = .ok (.aload_n 0, 1) := by decide +kernel
theorem dX11_comer_1 : decode cX11_comer 1 = .ok (.iload_n 1, 1) := by decide +kernel
theorem dX11_comer_2 : decode cX11_comer 2 = .ok (.invokevirtual 92, 3) := by decide +kernel
theorem dX11_comer_5 : decode cX11_comer 5 = .ok (.astore 4, 2) := by decide +kernel
theorem dX11_comer_7 : decode cX11_comer 7 = .ok (.aload 4, 2) := by decide +kernel
theorem dX11_comer_9 : decode cX11_comer 9 = .ok (.ifnonnull 6, 3) := by decide +kernel
theorem dX11_comer_12 : decode cX11_comer 12 = .ok (.bipush (-101), 2) := by decide +kernel
theorem dX11_comer_14 : decode cX11_comer 14 = .ok (.ireturn, 1) := by decide +kernel
theorem dX11_comer_15 : decode cX11_comer 15 = .ok (.iload_n 2, 1) := by decide +kernel
theorem dX11_comer_16 : decode cX11_comer 16 = .ok (.iconst 0, 1) := by decide +kernel
theorem dX11_comer_17 : decode cX11_comer 17 = .ok (.bipush 99, 2) := by decide +kernel
theorem dX11_comer_19 : decode cX11_comer 19 = .ok (.invokestatic 95, 3) := by decide +kernel
theorem dX11_comer_22 : decode cX11_comer 22 = .ok (.ifCond .ne 13, 3) := by decide +kernel
theorem dX11_comer_25 : decode cX11_comer 25 = .ok (.iload_n 3, 1) := by decide +kernel
theorem dX11_comer_26 : decode cX11_comer 26 = .ok (.iconst 0, 1) := by decide +kernel
theorem dX11_comer_27 : decode cX11_comer 27 = .ok (.bipush 10, 2) := by decide +kernel
theorem dX11_comer_29 : decode cX11_comer 29 = .ok (.invokestatic 95, 3) := by decide +kernel
theorem dX11_comer_32 : decode cX11_comer 32 = .ok (.ifCond .eq 6, 3) := by decide +kernel
theorem dX11_comer_35 : decode cX11_comer 35 = .ok (.bipush (-102), 2) := by decide +kernel
theorem dX11_comer_37 : decode cX11_comer 37 = .ok (.ireturn, 1) := by decide +kernel
theorem dX11_comer_38 : decode cX11_comer 38 = .ok (.aload_n 0, 1) := by decide +kernel
theorem dX11_comer_39 : decode cX11_comer 39 = .ok (.getfield 52, 3) := by decide +kernel
theorem dX11_comer_42 : decode cX11_comer 42 = .ok (.aload 4, 2) := by decide +kernel
theorem dX11_comer_44 : decode cX11_comer 44 = .ok (.iload_n 2, 1) := by decide +kernel
theorem dX11_comer_45 : decode cX11_comer 45 = .ok (.iload_n 3, 1) := by decide +kernel
theorem dX11_comer_46 : decode cX11_comer 46 = .ok (.invokevirtual 222, 3) := by decide +kernel
theorem dX11_comer_49 : decode cX11_comer 49 = .ok (.ireturn, 1) := by decide +kernel
theorem dX11_gone_0 : decode cX11_gone 0 = .ok (.aload_n 0, 1) := by decide +kernel
theorem dX11_gone_1 : decode cX11_gone 1 = .ok (.getfield 52, 3) := by decide +kernel
theorem dX11_gone_4 : decode cX11_gone 4 = .ok (.invokevirtual 225, 3) := by decide +kernel
theorem dX11_gone_7 : decode cX11_gone 7 = .ok (.ireturn, 1) := by decide +kernel
theorem dX11_worth_0 : decode cX11_worth 0 = .ok (.aload_n 0, 1) := by decide +kernel
theorem dX11_worth_1 : decode cX11_worth 1 = .ok (.iload_n 1, 1) := by decide +kernel
theorem dX11_worth_2 : decode cX11_worth 2 = .ok (.invokevirtual 115, 3) := by decide +kernel
theorem dX11_worth_5 : decode cX11_worth 5 = .ok (.astore 4, 2) := by decide +kernel
theorem dX11_worth_7 : decode cX11_worth 7 = .ok (.aload 4, 2) := by decide +kernel
theorem dX11_worth_9 : decode cX11_worth 9 = .ok (.ifnonnull 7, 3) := by decide +kernel
theorem dX11_worth_12 : decode cX11_worth 12 = .ok (.ldc2_w 195, 3) := by decide +kernel
theorem dX11_worth_15 : decode cX11_worth 15 = .ok (.lreturn, 1) := by decide +kernel
theorem dX11_worth_16 : decode cX11_worth 16 = .ok (.aload_n 0, 1) := by decide +kernel
theorem dX11_worth_17 : decode cX11_worth 17 = .ok (.getfield 52, 3) := by decide +kernel
theorem dX11_worth_20 : decode cX11_worth 20 = .ok (.iload_n 2, 1) := by decide +kernel
theorem dX11_worth_21 : decode cX11_worth 21 = .ok (.invokevirtual 226, 3) := by decide +kernel
theorem dX11_worth_24 : decode cX11_worth 24 = .ok (.ifCond .eq 12, 3) := by decide +kernel
theorem dX11_worth_27 : decode cX11_worth 27 = .ok (.iload_n 3, 1) := by decide +kernel
theorem dX11_worth_28 : decode cX11_worth 28 = .ok (.iconst 0, 1) := by decide +kernel
theorem dX11_worth_29 : decode cX11_worth 29 = .ok (.iconst 1, 1) := by decide +kernel
theorem dX11_worth_30 : decode cX11_worth 30 = .ok (.invokestatic 95, 3) := by decide +kernel
theorem dX11_worth_33 : decode cX11_worth 33 = .ok (.ifCond .eq 7, 3) := by decide +kernel
theorem dX11_worth_36 : decode cX11_worth 36 = .ok (.ldc2_w 202, 3) := by decide +kernel
theorem dX11_worth_39 : decode cX11_worth 39 = .ok (.lreturn, 1) := by decide +kernel
theorem dX11_worth_40 : decode cX11_worth 40 = .ok (.aload_n 0, 1) := by decide +kernel
theorem dX11_worth_41 : decode cX11_worth 41 = .ok (.getfield 52, 3) := by decide +kernel
theorem dX11_worth_44 : decode cX11_worth 44 = .ok (.aload 4, 2) := by decide +kernel
theorem dX11_worth_46 : decode cX11_worth 46 = .ok (.iload_n 2, 1) := by decide +kernel
theorem dX11_worth_47 : decode cX11_worth 47 = .ok (.aload_n 0, 1) := by decide +kernel
theorem dX11_worth_48 : decode cX11_worth 48 = .ok (.getfield 60, 3) := by decide +kernel
theorem dX11_worth_51 : decode cX11_worth 51 = .ok (.invokevirtual 227, 3) := by decide +kernel
theorem dX11_worth_54 : decode cX11_worth 54 = .ok (.lstore 5, 2) := by decide +kernel
theorem dX11_worth_56 : decode cX11_worth 56 = .ok (.lload 5, 2) := by decide +kernel
theorem dX11_worth_58 : decode cX11_worth 58 = .ok (.ldc2_w 231, 3) := by decide +kernel
theorem dX11_worth_61 : decode cX11_worth 61 = .ok (.iload_n 2, 1) := by decide +kernel
theorem dX11_worth_62 : decode cX11_worth 62 = .ok (.invokestatic 197, 3) := by decide +kernel
theorem dX11_worth_65 : decode cX11_worth 65 = .ok (.invokestatic 233, 3) := by decide +kernel
theorem dX11_worth_68 : decode cX11_worth 68 = .ok (.iload_n 3, 1) := by decide +kernel
theorem dX11_worth_69 : decode cX11_worth 69 = .ok (.invokestatic 237, 3) := by decide +kernel
theorem dX11_worth_72 : decode cX11_worth 72 = .ok (.lreturn, 1) := by decide +kernel
theorem dX11_season_0 : decode cX11_season 0 = .ok (.aload_n 0, 1) := by decide +kernel
theorem dX11_season_1 : decode cX11_season 1 = .ok (.iload_n 1, 1) := by decide +kernel
theorem dX11_season_2 : decode cX11_season 2 = .ok (.invokevirtual 115, 3) := by decide +kernel
theorem dX11_season_5 : decode cX11_season 5 = .ok (.astore_n 2, 1) := by decide +kernel
theorem dX11_season_6 : decode cX11_season 6 = .ok (.aload_n 2, 1) := by decide +kernel
theorem dX11_season_7 : decode cX11_season 7 = .ok (.ifnonnull 8, 3) := by decide +kernel
theorem dX11_season_10 : decode cX11_season 10 = .ok (.bipush (-101), 2) := by decide +kernel
theorem dX11_season_12 : decode cX11_season 12 = .ok (.goto 15, 3) := by decide +kernel
theorem dX11_season_15 : decode cX11_season 15 = .ok (.aload_n 0, 1) := by decide +kernel
theorem dX11_season_16 : decode cX11_season 16 = .ok (.getfield 52, 3) := by decide +kernel
theorem dX11_season_19 : decode cX11_season 19 = .ok (.aload_n 2, 1) := by decide +kernel
theorem dX11_season_20 : decode cX11_season 20 = .ok (.aload_n 0, 1) := by decide +kernel
theorem dX11_season_21 : decode cX11_season 21 = .ok (.getfield 60, 3) := by decide +kernel
theorem dX11_season_24 : decode cX11_season 24 = .ok (.invokevirtual 241, 3) := by decide +kernel
theorem dX11_season_27 : decode cX11_season 27 = .ok (.ireturn, 1) := by decide +kernel
theorem dX11_tree_0 : decode cX11_tree 0 = .ok (.aload_n 0, 1) := by decide +kernel
theorem dX11_tree_1 : decode cX11_tree 1 = .ok (.iload_n 1, 1) := by decide +kernel
theorem dX11_tree_2 : decode cX11_tree 2 = .ok (.iload_n 2, 1) := by decide +kernel
theorem dX11_tree_3 : decode cX11_tree 3 = .ok (.iload_n 3, 1) := by decide +kernel
theorem dX11_tree_4 : decode cX11_tree 4 = .ok (.iload 4, 2) := by decide +kernel
theorem dX11_tree_6 : decode cX11_tree 6 = .ok (.invokevirtual 244, 3) := by decide +kernel
theorem dX11_tree_9 : decode cX11_tree 9 = .ok (.ifCond .ne 6, 3) := by decide +kernel
theorem dX11_tree_12 : decode cX11_tree 12 = .ok (.bipush (-101), 2) := by decide +kernel
theorem dX11_tree_14 : decode cX11_tree 14 = .ok (.ireturn, 1) := by decide +kernel
theorem dX11_tree_15 : decode cX11_tree 15 = .ok (.iload 5, 2) := by decide +kernel
theorem dX11_tree_17 : decode cX11_tree 17 = .ok (.iconst 0, 1) := by decide +kernel
theorem dX11_tree_18 : decode cX11_tree 18 = .ok (.iconst 3, 1) := by decide +kernel
theorem dX11_tree_19 : decode cX11_tree 19 = .ok (.invokestatic 95, 3) := by decide +kernel
theorem dX11_tree_22 : decode cX11_tree 22 = .ok (.ifCond .ne 13, 3) := by decide +kernel
theorem dX11_tree_25 : decode cX11_tree 25 = .ok (.iload 6, 2) := by decide +kernel
theorem dX11_tree_27 : decode cX11_tree 27 = .ok (.iconst 0, 1) := by decide +kernel
theorem dX11_tree_28 : decode cX11_tree 28 = .ok (.iconst 1, 1) := by decide +kernel
theorem dX11_tree_29 : decode cX11_tree 29 = .ok (.invokestatic 95, 3) := by decide +kernel
theorem dX11_tree_32 : decode cX11_tree 32 = .ok (.ifCond .eq 6, 3) := by decide +kernel
theorem dX11_tree_35 : decode cX11_tree 35 = .ok (.bipush (-102), 2) := by decide +kernel
theorem dX11_tree_37 : decode cX11_tree 37 = .ok (.ireturn, 1) := by decide +kernel
theorem dX11_tree_38 : decode cX11_tree 38 = .ok (.iload 5, 2) := by decide +kernel
theorem dX11_tree_40 : decode cX11_tree 40 = .ok (.iconst 2, 1) := by decide +kernel
theorem dX11_tree_41 : decode cX11_tree 41 = .ok (.if_icmp .ge 7, 3) := by decide +kernel
theorem dX11_tree_44 : decode cX11_tree 44 = .ok (.iconst 2, 1) := by decide +kernel
theorem dX11_tree_45 : decode cX11_tree 45 = .ok (.goto 4, 3) := by decide +kernel
theorem dX11_tree_48 : decode cX11_tree 48 = .ok (.iconst 0, 1) := by decide +kernel
theorem dX11_tree_49 : decode cX11_tree 49 = .ok (.istore 7, 2) := by decide +kernel
theorem dX11_tree_51 : decode cX11_tree 51 = .ok (.iload 7, 2) := by decide +kernel
theorem dX11_tree_53 : decode cX11_tree 53 = .ok (.iconst 1, 1) := by decide +kernel
theorem dX11_tree_54 : decode cX11_tree 54 = .ok (.iadd, 1) := by decide +kernel
theorem dX11_tree_55 : decode cX11_tree 55 = .ok (.istore 8, 2) := by decide +kernel
theorem dX11_tree_57 : decode cX11_tree 57 = .ok (.aload_n 0, 1) := by decide +kernel
theorem dX11_tree_58 : decode cX11_tree 58 = .ok (.iload 7, 2) := by decide +kernel
theorem dX11_tree_60 : decode cX11_tree 60 = .ok (.iload 8, 2) := by decide +kernel
theorem dX11_tree_62 : decode cX11_tree 62 = .ok (.invokevirtual 248, 3) := by decide +kernel
theorem dX11_tree_65 : decode cX11_tree 65 = .ok (.aload_n 0, 1) := by decide +kernel
theorem dX11_tree_66 : decode cX11_tree 66 = .ok (.iload 5, 2) := by decide +kernel
theorem dX11_tree_68 : decode cX11_tree 68 = .ok (.iload 7, 2) := by decide +kernel
theorem dX11_tree_70 : decode cX11_tree 70 = .ok (.invokevirtual 248, 3) := by decide +kernel
theorem dX11_tree_73 : decode cX11_tree 73 = .ok (.imul, 1) := by decide +kernel
theorem dX11_tree_74 : decode cX11_tree 74 = .ok (.istore 9, 2) := by decide +kernel
theorem dX11_tree_76 : decode cX11_tree 76 = .ok (.aload_n 0, 1) := by decide +kernel
theorem dX11_tree_77 : decode cX11_tree 77 = .ok (.iload 8, 2) := by decide +kernel
theorem dX11_tree_79 : decode cX11_tree 79 = .ok (.iload 7, 2) := by decide +kernel
theorem dX11_tree_81 : decode cX11_tree 81 = .ok (.invokevirtual 248, 3) := by decide +kernel
theorem dX11_tree_84 : decode cX11_tree 84 = .ok (.aload_n 0, 1) := by decide +kernel
theorem dX11_tree_85 : decode cX11_tree 85 = .ok (.iload 5, 2) := by decide +kernel
theorem dX11_tree_87 : decode cX11_tree 87 = .ok (.iload 8, 2) := by decide +kernel
theorem dX11_tree_89 : decode cX11_tree 89 = .ok (.invokevirtual 248, 3) := by decide +kernel
theorem dX11_tree_92 : decode cX11_tree 92 = .ok (.imul, 1) := by decide +kernel
theorem dX11_tree_93 : decode cX11_tree 93 = .ok (.istore 10, 2) := by decide +kernel
theorem dX11_tree_95 : decode cX11_tree 95 = .ok (.aload_n 0, 1) := by decide +kernel
theorem dX11_tree_96 : decode cX11_tree 96 = .ok (.iload 5, 2) := by decide +kernel
theorem dX11_tree_98 : decode cX11_tree 98 = .ok (.iload 5, 2) := by decide +kernel
theorem dX11_tree_100 : decode cX11_tree 100 = .ok (.iconst 1, 1) := by decide +kernel
theorem dX11_tree_101 : decode cX11_tree 101 = .ok (.ixor, 1) := by decide +kernel
theorem dX11_tree_102 : decode cX11_tree 102 = .ok (.invokevirtual 248, 3) := by decide +kernel
theorem dX11_tree_105 : decode cX11_tree 105 = .ok (.iload 9, 2) := by decide +kernel
theorem dX11_tree_107 : decode cX11_tree 107 = .ok (.iload 10, 2) := by decide +kernel
theorem dX11_tree_109 : decode cX11_tree 109 = .ok (.iadd, 1) := by decide +kernel
theorem dX11_tree_110 : decode cX11_tree 110 = .ok (.imul, 1) := by decide +kernel
theorem dX11_tree_111 : decode cX11_tree 111 = .ok (.istore 11, 2) := by decide +kernel
theorem dX11_tree_113 : decode cX11_tree 113 = .ok (.iload 11, 2) := by decide +kernel
theorem dX11_tree_115 : decode cX11_tree 115 = .ok (.i2l, 1) := by decide +kernel
theorem dX11_tree_116 : decode cX11_tree 116 = .ok (.ldc2_w 231, 3) := by decide +kernel
theorem dX11_tree_119 : decode cX11_tree 119 = .ok (.iconst 3, 1) := by decide +kernel
theorem dX11_tree_120 : decode cX11_tree 120 = .ok (.invokestatic 233, 3) := by decide +kernel
theorem dX11_tree_123 : decode cX11_tree 123 = .ok (.iload 6, 2) := by decide +kernel
theorem dX11_tree_125 : decode cX11_tree 125 = .ok (.invokestatic 237, 3) := by decide +kernel
theorem dX11_tree_128 : decode cX11_tree 128 = .ok (.l2i, 1) := by decide +kernel
theorem dX11_tree_129 : decode cX11_tree 129 = .ok (.ireturn, 1) := by decide +kernel
theorem dX11_last_0 : decode cX11_last 0 = .ok (.aload_n 0, 1) := by decide +kernel
theorem dX11_last_1 : decode cX11_last 1 = .ok (.iload_n 1, 1) := by decide +kernel
theorem dX11_last_2 : decode cX11_last 2 = .ok (.iload_n 2, 1) := by decide +kernel
theorem dX11_last_3 : decode cX11_last 3 = .ok (.iload_n 3, 1) := by decide +kernel
theorem dX11_last_4 : decode cX11_last 4 = .ok (.iload 4, 2) := by decide +kernel
theorem dX11_last_6 : decode cX11_last 6 = .ok (.invokevirtual 244, 3) := by decide +kernel
theorem dX11_last_9 : decode cX11_last 9 = .ok (.ifCond .ne 6, 3) := by decide +kernel
theorem dX11_last_12 : decode cX11_last 12 = .ok (.bipush (-101), 2) := by decide +kernel
theorem dX11_last_14 : decode cX11_last 14 = .ok (.ireturn, 1) := by decide +kernel
theorem dX11_last_15 : decode cX11_last 15 = .ok (.aload_n 0, 1) := by decide +kernel
theorem dX11_last_16 : decode cX11_last 16 = .ok (.iconst 0, 1) := by decide +kernel
theorem dX11_last_17 : decode cX11_last 17 = .ok (.iconst 2, 1) := by decide +kernel
theorem dX11_last_18 : decode cX11_last 18 = .ok (.invokevirtual 248, 3) := by decide +kernel
theorem dX11_last_21 : decode cX11_last 21 = .ok (.aload_n 0, 1) := by decide +kernel
theorem dX11_last_22 : decode cX11_last 22 = .ok (.iconst 1, 1) := by decide +kernel
theorem dX11_last_23 : decode cX11_last 23 = .ok (.iconst 3, 1) := by decide +kernel
theorem dX11_last_24 : decode cX11_last 24 = .ok (.invokevirtual 248, 3) := by decide +kernel
theorem dX11_last_27 : decode cX11_last 27 = .ok (.imul, 1) := by decide +kernel
theorem dX11_last_28 : decode cX11_last 28 = .ok (.istore 5, 2) := by decide +kernel
theorem dX11_last_30 : decode cX11_last 30 = .ok (.aload_n 0, 1) := by decide +kernel
theorem dX11_last_31 : decode cX11_last 31 = .ok (.iconst 0, 1) := by decide +kernel
theorem dX11_last_32 : decode cX11_last 32 = .ok (.iconst 3, 1) := by decide +kernel
theorem dX11_last_33 : decode cX11_last 33 = .ok (.invokevirtual 248, 3) := by decide +kernel
theorem dX11_last_36 : decode cX11_last 36 = .ok (.aload_n 0, 1) := by decide +kernel
theorem dX11_last_37 : decode cX11_last 37 = .ok (.iconst 1, 1) := by decide +kernel
theorem dX11_last_38 : decode cX11_last 38 = .ok (.iconst 2, 1) := by decide +kernel
theorem dX11_last_39 : decode cX11_last 39 = .ok (.invokevirtual 248, 3) := by decide +kernel
theorem dX11_last_42 : decode cX11_last 42 = .ok (.imul, 1) := by decide +kernel
theorem dX11_last_43 : decode cX11_last 43 = .ok (.istore 6, 2) := by decide +kernel
theorem dX11_last_45 : decode cX11_last 45 = .ok (.iload 6, 2) := by decide +kernel
theorem dX11_last_47 : decode cX11_last 47 = .ok (.iload 5, 2) := by decide +kernel
theorem dX11_last_49 : decode cX11_last 49 = .ok (.if_icmp .le 7, 3) := by decide +kernel
theorem dX11_last_52 : decode cX11_last 52 = .ok (.iconst 2, 1) := by decide +kernel
theorem dX11_last_53 : decode cX11_last 53 = .ok (.goto 4, 3) := by decide +kernel
theorem dX11_last_56 : decode cX11_last 56 = .ok (.iconst 1, 1) := by decide +kernel
theorem dX11_last_57 : decode cX11_last 57 = .ok (.ireturn, 1) := by decide +kernel
theorem dX11_run_0 : decode cX11_run 0 = .ok (.iload_n 1, 1) := by decide +kernel
theorem dX11_run_1 : decode cX11_run 1 = .ok (.iconst 1, 1) := by decide +kernel
theorem dX11_run_2 : decode cX11_run 2 = .ok (.bipush 9, 2) := by decide +kernel
theorem dX11_run_4 : decode cX11_run 4 = .ok (.invokestatic 95, 3) := by decide +kernel
theorem dX11_run_7 : decode cX11_run 7 = .ok (.ifCond .ne 22, 3) := by decide +kernel
theorem dX11_run_10 : decode cX11_run 10 = .ok (.iload_n 2, 1) := by decide +kernel
theorem dX11_run_11 : decode cX11_run 11 = .ok (.iconst 0, 1) := by decide +kernel
theorem dX11_run_12 : decode cX11_run 12 = .ok (.bipush 10, 2) := by decide +kernel
theorem dX11_run_14 : decode cX11_run 14 = .ok (.invokestatic 95, 3) := by decide +kernel
theorem dX11_run_17 : decode cX11_run 17 = .ok (.ifCond .ne 12, 3) := by decide +kernel
theorem dX11_run_20 : decode cX11_run 20 = .ok (.iload_n 3, 1) := by decide +kernel
theorem dX11_run_21 : decode cX11_run 21 = .ok (.iconst 0, 1) := by decide +kernel
theorem dX11_run_22 : decode cX11_run 22 = .ok (.iconst 1, 1) := by decide +kernel
theorem dX11_run_23 : decode cX11_run 23 = .ok (.invokestatic 95, 3) := by decide +kernel
theorem dX11_run_26 : decode cX11_run 26 = .ok (.ifCond .eq 6, 3) := by decide +kernel
theorem dX11_run_29 : decode cX11_run 29 = .ok (.bipush (-102), 2) := by decide +kernel
theorem dX11_run_31 : decode cX11_run 31 = .ok (.ireturn, 1) := by decide +kernel
theorem dX11_run_32 : decode cX11_run 32 = .ok (.iload_n 2, 1) := by decide +kernel
theorem dX11_run_33 : decode cX11_run 33 = .ok (.i2l, 1) := by decide +kernel
theorem dX11_run_34 : decode cX11_run 34 = .ok (.iload_n 1, 1) := by decide +kernel
theorem dX11_run_35 : decode cX11_run 35 = .ok (.invokestatic 233, 3) := by decide +kernel
theorem dX11_run_38 : decode cX11_run 38 = .ok (.ldc2_w 231, 3) := by decide +kernel
theorem dX11_run_41 : decode cX11_run 41 = .ok (.iload_n 1, 1) := by decide +kernel
theorem dX11_run_42 : decode cX11_run 42 = .ok (.invokestatic 233, 3) := by decide +kernel
theorem dX11_run_45 : decode cX11_run 45 = .ok (.iload_n 3, 1) := by decide +kernel
theorem dX11_run_46 : decode cX11_run 46 = .ok (.invokestatic 237, 3) := by decide +kernel
theorem dX11_run_49 : decode cX11_run 49 = .ok (.l2i, 1) := by decide +kernel
theorem dX11_run_50 : decode cX11_run 50 = .ok (.ireturn, 1) := by decide +kernel
theorem dX11_image_0 : decode cX11_image 0 = .ok (.iconst 0, 1) := by decide +kernel
theorem dX11_image_1 : decode cX11_image 1 = .ok (.istore_n 1, 1) := by decide +kernel
theorem dX11_image_2 : decode cX11_image 2 = .ok (.iload_n 1, 1) := by decide +kernel
theorem dX11_image_3 : decode cX11_image 3 = .ok (.aload_n 0, 1) := by decide +kernel
theorem dX11_image_4 : decode cX11_image 4 = .ok (.getfield 24, 3) := by decide +kernel
theorem dX11_image_7 : decode cX11_image 7 = .ok (.arraylength, 1) := by decide +kernel
theorem dX11_image_8 : decode cX11_image 8 = .ok (.if_icmp .ge 27, 3) := by decide +kernel
theorem dX11_image_11 : decode cX11_image 11 = .ok (.aload_n 0, 1) := by decide +kernel
theorem dX11_image_12 : decode cX11_image 12 = .ok (.getfield 24, 3) := by decide +kernel
theorem dX11_image_15 : decode cX11_image 15 = .ok (.iload_n 1, 1) := by decide +kernel
theorem dX11_image_16 : decode cX11_image 16 = .ok (.aaload, 1) := by decide +kernel
theorem dX11_image_17 : decode cX11_image 17 = .ok (.ifnull 18, 3) := by decide +kernel
theorem dX11_image_20 : decode cX11_image 20 = .ok (.aload_n 0, 1) := by decide +kernel
theorem dX11_image_21 : decode cX11_image 21 = .ok (.getfield 24, 3) := by decide +kernel
theorem dX11_image_24 : decode cX11_image 24 = .ok (.iload_n 1, 1) := by decide +kernel
theorem dX11_image_25 : decode cX11_image 25 = .ok (.aaload, 1) := by decide +kernel
theorem dX11_image_26 : decode cX11_image 26 = .ok (.invokevirtual 251, 3) := by decide +kernel
theorem dX11_image_29 : decode cX11_image 29 = .ok (.iinc 1 1, 3) := by decide +kernel
theorem dX11_image_32 : decode cX11_image 32 = .ok (.goto (-30), 3) := by decide +kernel
theorem dX11_image_35 : decode cX11_image 35 = .ok (.aload_n 0, 1) := by decide +kernel
theorem dX11_image_36 : decode cX11_image 36 = .ok (.getfield 38, 3) := by decide +kernel
theorem dX11_image_39 : decode cX11_image 39 = .ok (.invokevirtual 254, 3) := by decide +kernel
theorem dX11_image_42 : decode cX11_image 42 = .ok (.aload_n 0, 1) := by decide +kernel
theorem dX11_image_43 : decode cX11_image 43 = .ok (.aload_n 0, 1) := by decide +kernel
theorem dX11_image_44 : decode cX11_image 44 = .ok (.getfield 103, 3) := by decide +kernel
theorem dX11_image_47 : decode cX11_image 47 = .ok (.putfield 64, 3) := by decide +kernel
theorem dX11_image_50 : decode cX11_image 50 = .ok (.aload_n 0, 1) := by decide +kernel
theorem dX11_image_51 : decode cX11_image 51 = .ok (.getfield 103, 3) := by decide +kernel
theorem dX11_image_54 : decode cX11_image 54 = .ok (.ireturn, 1) := by decide +kernel
theorem dX11_restore_0 : decode cX11_restore 0 = .ok (.aload_n 0, 1) := by decide +kernel
theorem dX11_restore_1 : decode cX11_restore 1 = .ok (.getfield 64, 3) := by decide +kernel
theorem dX11_restore_4 : decode cX11_restore 4 = .ok (.ifCond .ge 6, 3) := by decide +kernel
theorem dX11_restore_7 : decode cX11_restore 7 = .ok (.bipush (-103), 2) := by decide +kernel
theorem dX11_restore_9 : decode cX11_restore 9 = .ok (.ireturn, 1) := by decide +kernel
theorem dX11_restore_10 : decode cX11_restore 10 = .ok (.iconst 0, 1) := by decide +kernel
theorem dX11_restore_11 : decode cX11_restore 11 = .ok (.istore_n 1, 1) := by decide +kernel
theorem dX11_restore_12 : decode cX11_restore 12 = .ok (.iload_n 1, 1) := by decide +kernel
theorem dX11_restore_13 : decode cX11_restore 13 = .ok (.aload_n 0, 1) := by decide +kernel
theorem dX11_restore_14 : decode cX11_restore 14 = .ok (.getfield 64, 3) := by decide +kernel
theorem dX11_restore_17 : decode cX11_restore 17 = .ok (.if_icmp .ge 36, 3) := by decide +kernel
theorem dX11_restore_20 : decode cX11_restore 20 = .ok (.iload_n 1, 1) := by decide +kernel
theorem dX11_restore_21 : decode cX11_restore 21 = .ok (.aload_n 0, 1) := by decide +kernel
theorem dX11_restore_22 : decode cX11_restore 22 = .ok (.getfield 24, 3) := by decide +kernel
theorem dX11_restore_25 : decode cX11_restore 25 = .ok (.arraylength, 1) := by decide +kernel
theorem dX11_restore_26 : decode cX11_restore 26 = .ok (.if_icmp .ge 27, 3) := by decide +kernel
theorem dX11_restore_29 : decode cX11_restore 29 = .ok (.aload_n 0, 1) := by decide +kernel
theorem dX11_restore_30 : decode cX11_restore 30 = .ok (.getfield 24, 3) := by decide +kernel
theorem dX11_restore_33 : decode cX11_restore 33 = .ok (.iload_n 1, 1) := by decide +kernel
theorem dX11_restore_34 : decode cX11_restore 34 = .ok (.aaload, 1) := by decide +kernel
theorem dX11_restore_35 : decode cX11_restore 35 = .ok (.ifnull 18, 3) := by decide +kernel
theorem dX11_restore_38 : decode cX11_restore 38 = .ok (.aload_n 0, 1) := by decide +kernel
theorem dX11_restore_39 : decode cX11_restore 39 = .ok (.getfield 24, 3) := by decide +kernel
theorem dX11_restore_42 : decode cX11_restore 42 = .ok (.iload_n 1, 1) := by decide +kernel
theorem dX11_restore_43 : decode cX11_restore 43 = .ok (.aaload, 1) := by decide +kernel
theorem dX11_restore_44 : decode cX11_restore 44 = .ok (.invokevirtual 255, 3) := by decide +kernel
theorem dX11_restore_47 : decode cX11_restore 47 = .ok (.iinc 1 1, 3) := by decide +kernel
theorem dX11_restore_50 : decode cX11_restore 50 = .ok (.goto (-38), 3) := by decide +kernel
theorem dX11_restore_53 : decode cX11_restore 53 = .ok (.aload_n 0, 1) := by decide +kernel
theorem dX11_restore_54 : decode cX11_restore 54 = .ok (.getfield 38, 3) := by decide +kernel
theorem dX11_restore_57 : decode cX11_restore 57 = .ok (.invokevirtual 258, 3) := by decide +kernel
theorem dX11_restore_60 : decode cX11_restore 60 = .ok (.aload_n 0, 1) := by decide +kernel
theorem dX11_restore_61 : decode cX11_restore 61 = .ok (.getfield 103, 3) := by decide +kernel
theorem dX11_restore_64 : decode cX11_restore 64 = .ok (.ireturn, 1) := by decide +kernel
theorem dX11_count_0 : decode cX11_count 0 = .ok (.iload_n 1, 1) := by decide +kernel
theorem dX11_count_1 : decode cX11_count 1 = .ok (.tableswitch 87 0 6 #[43, 48, 53, 58, 66, 71, 79], 43) := by decide +kernel
theorem dX11_count_44 : decode cX11_count 44 = .ok (.aload_n 0, 1) := by decide +kernel
theorem dX11_count_45 : decode cX11_count 45 = .ok (.getfield 82, 3) := by decide +kernel
theorem dX11_count_48 : decode cX11_count 48 = .ok (.ireturn, 1) := by decide +kernel
theorem dX11_count_49 : decode cX11_count 49 = .ok (.aload_n 0, 1) := by decide +kernel
theorem dX11_count_50 : decode cX11_count 50 = .ok (.getfield 103, 3) := by decide +kernel
theorem dX11_count_53 : decode cX11_count 53 = .ok (.ireturn, 1) := by decide +kernel
theorem dX11_count_54 : decode cX11_count 54 = .ok (.aload_n 0, 1) := by decide +kernel
theorem dX11_count_55 : decode cX11_count 55 = .ok (.invokevirtual 259, 3) := by decide +kernel
theorem dX11_count_58 : decode cX11_count 58 = .ok (.ireturn, 1) := by decide +kernel
theorem dX11_count_59 : decode cX11_count 59 = .ok (.aload_n 0, 1) := by decide +kernel
theorem dX11_count_60 : decode cX11_count 60 = .ok (.getfield 38, 3) := by decide +kernel
theorem dX11_count_63 : decode cX11_count 63 = .ok (.getfield 188, 3) := by decide +kernel
theorem dX11_count_66 : decode cX11_count 66 = .ok (.ireturn, 1) := by decide +kernel
theorem dX11_count_67 : decode cX11_count 67 = .ok (.aload_n 0, 1) := by decide +kernel
theorem dX11_count_68 : decode cX11_count 68 = .ok (.invokevirtual 262, 3) := by decide +kernel
theorem dX11_count_71 : decode cX11_count 71 = .ok (.ireturn, 1) := by decide +kernel
theorem dX11_count_72 : decode cX11_count 72 = .ok (.aload_n 0, 1) := by decide +kernel
theorem dX11_count_73 : decode cX11_count 73 = .ok (.getfield 52, 3) := by decide +kernel
theorem dX11_count_76 : decode cX11_count 76 = .ok (.getfield 265, 3) := by decide +kernel
theorem dX11_count_79 : decode cX11_count 79 = .ok (.ireturn, 1) := by decide +kernel
theorem dX11_count_80 : decode cX11_count 80 = .ok (.aload_n 0, 1) := by decide +kernel
theorem dX11_count_81 : decode cX11_count 81 = .ok (.getfield 12, 3) := by decide +kernel
theorem dX11_count_84 : decode cX11_count 84 = .ok (.getfield 268, 3) := by decide +kernel
theorem dX11_count_87 : decode cX11_count 87 = .ok (.ireturn, 1) := by decide +kernel
theorem dX11_count_88 : decode cX11_count 88 = .ok (.bipush (-102), 2) := by decide +kernel
theorem dX11_count_90 : decode cX11_count 90 = .ok (.ireturn, 1) := by decide +kernel
theorem dX11_digest_0 : decode cX11_digest 0 = .ok (.aload_n 0, 1) := by decide +kernel
theorem dX11_digest_1 : decode cX11_digest 1 = .ok (.ldc2_w 269, 3) := by decide +kernel
theorem dX11_digest_4 : decode cX11_digest 4 = .ok (.invokevirtual 271, 3) := by decide +kernel
theorem dX11_digest_7 : decode cX11_digest 7 = .ok (.lstore_n 1, 1) := by decide +kernel
theorem dX11_digest_8 : decode cX11_digest 8 = .ok (.lload_n 1, 1) := by decide +kernel
theorem dX11_digest_9 : decode cX11_digest 9 = .ok (.aload_n 0, 1) := by decide +kernel
theorem dX11_digest_10 : decode cX11_digest 10 = .ok (.getfield 60, 3) := by decide +kernel
theorem dX11_digest_13 : decode cX11_digest 13 = .ok (.i2l, 1) := by decide +kernel
theorem dX11_digest_14 : decode cX11_digest 14 = .ok (.invokestatic 275, 3) := by decide +kernel
theorem dX11_digest_17 : decode cX11_digest 17 = .ok (.lstore_n 1, 1) := by decide +kernel
theorem dX11_digest_18 : decode cX11_digest 18 = .ok (.aload_n 0, 1) := by decide +kernel
theorem dX11_digest_19 : decode cX11_digest 19 = .ok (.lload_n 1, 1) := by decide +kernel
theorem dX11_digest_20 : decode cX11_digest 20 = .ok (.invokevirtual 279, 3) := by decide +kernel
theorem dX11_digest_23 : decode cX11_digest 23 = .ok (.lstore_n 1, 1) := by decide +kernel
theorem dX11_digest_24 : decode cX11_digest 24 = .ok (.aload_n 0, 1) := by decide +kernel
theorem dX11_digest_25 : decode cX11_digest 25 = .ok (.getfield 38, 3) := by decide +kernel
theorem dX11_digest_28 : decode cX11_digest 28 = .ok (.lload_n 1, 1) := by decide +kernel
theorem dX11_digest_29 : decode cX11_digest 29 = .ok (.invokevirtual 282, 3) := by decide +kernel
theorem dX11_digest_32 : decode cX11_digest 32 = .ok (.lstore_n 1, 1) := by decide +kernel
theorem dX11_digest_33 : decode cX11_digest 33 = .ok (.aload_n 0, 1) := by decide +kernel
theorem dX11_digest_34 : decode cX11_digest 34 = .ok (.getfield 38, 3) := by decide +kernel
theorem dX11_digest_37 : decode cX11_digest 37 = .ok (.aload_n 0, 1) := by decide +kernel
theorem dX11_digest_38 : decode cX11_digest 38 = .ok (.getfield 24, 3) := by decide +kernel
theorem dX11_digest_41 : decode cX11_digest 41 = .ok (.aload_n 0, 1) := by decide +kernel
theorem dX11_digest_42 : decode cX11_digest 42 = .ok (.getfield 60, 3) := by decide +kernel
theorem dX11_digest_45 : decode cX11_digest 45 = .ok (.invokevirtual 174, 3) := by decide +kernel
theorem dX11_digest_48 : decode cX11_digest 48 = .ok (.lload_n 1, 1) := by decide +kernel
theorem dX11_digest_49 : decode cX11_digest 49 = .ok (.aload_n 0, 1) := by decide +kernel
theorem dX11_digest_50 : decode cX11_digest 50 = .ok (.getfield 38, 3) := by decide +kernel
theorem dX11_digest_53 : decode cX11_digest 53 = .ok (.getfield 178, 3) := by decide +kernel
theorem dX11_digest_56 : decode cX11_digest 56 = .ok (.i2l, 1) := by decide +kernel
theorem dX11_digest_57 : decode cX11_digest 57 = .ok (.invokestatic 275, 3) := by decide +kernel
theorem dX11_digest_60 : decode cX11_digest 60 = .ok (.aload_n 0, 1) := by decide +kernel
theorem dX11_digest_61 : decode cX11_digest 61 = .ok (.getfield 38, 3) := by decide +kernel
theorem dX11_digest_64 : decode cX11_digest 64 = .ok (.getfield 181, 3) := by decide +kernel
theorem dX11_digest_67 : decode cX11_digest 67 = .ok (.i2l, 1) := by decide +kernel
theorem dX11_digest_68 : decode cX11_digest 68 = .ok (.invokestatic 275, 3) := by decide +kernel
theorem dX11_digest_71 : decode cX11_digest 71 = .ok (.lstore_n 1, 1) := by decide +kernel
theorem dX11_digest_72 : decode cX11_digest 72 = .ok (.aload_n 0, 1) := by decide +kernel
theorem dX11_digest_73 : decode cX11_digest 73 = .ok (.getfield 52, 3) := by decide +kernel
theorem dX11_digest_76 : decode cX11_digest 76 = .ok (.lload_n 1, 1) := by decide +kernel
theorem dX11_digest_77 : decode cX11_digest 77 = .ok (.invokevirtual 285, 3) := by decide +kernel
theorem dX11_digest_80 : decode cX11_digest 80 = .ok (.lstore_n 1, 1) := by decide +kernel
theorem dX11_digest_81 : decode cX11_digest 81 = .ok (.aload_n 0, 1) := by decide +kernel
theorem dX11_digest_82 : decode cX11_digest 82 = .ok (.lload_n 1, 1) := by decide +kernel
theorem dX11_digest_83 : decode cX11_digest 83 = .ok (.invokevirtual 286, 3) := by decide +kernel
theorem dX11_digest_86 : decode cX11_digest 86 = .ok (.lstore_n 1, 1) := by decide +kernel
theorem dX11_digest_87 : decode cX11_digest 87 = .ok (.aload_n 0, 1) := by decide +kernel
theorem dX11_digest_88 : decode cX11_digest 88 = .ok (.getfield 12, 3) := by decide +kernel
theorem dX11_digest_91 : decode cX11_digest 91 = .ok (.lload_n 1, 1) := by decide +kernel
theorem dX11_digest_92 : decode cX11_digest 92 = .ok (.invokevirtual 289, 3) := by decide +kernel
theorem dX11_digest_95 : decode cX11_digest 95 = .ok (.lstore_n 1, 1) := by decide +kernel
theorem dX11_digest_96 : decode cX11_digest 96 = .ok (.iconst 0, 1) := by decide +kernel
theorem dX11_digest_97 : decode cX11_digest 97 = .ok (.istore_n 3, 1) := by decide +kernel
theorem dX11_digest_98 : decode cX11_digest 98 = .ok (.iload_n 3, 1) := by decide +kernel
theorem dX11_digest_99 : decode cX11_digest 99 = .ok (.bipush 6, 2) := by decide +kernel
theorem dX11_digest_101 : decode cX11_digest 101 = .ok (.if_icmp .gt 20, 3) := by decide +kernel
theorem dX11_digest_104 : decode cX11_digest 104 = .ok (.lload_n 1, 1) := by decide +kernel
theorem dX11_digest_105 : decode cX11_digest 105 = .ok (.aload_n 0, 1) := by decide +kernel
theorem dX11_digest_106 : decode cX11_digest 106 = .ok (.iload_n 3, 1) := by decide +kernel
theorem dX11_digest_107 : decode cX11_digest 107 = .ok (.invokevirtual 290, 3) := by decide +kernel
theorem dX11_digest_110 : decode cX11_digest 110 = .ok (.i2l, 1) := by decide +kernel
theorem dX11_digest_111 : decode cX11_digest 111 = .ok (.invokestatic 275, 3) := by decide +kernel
theorem dX11_digest_114 : decode cX11_digest 114 = .ok (.lstore_n 1, 1) := by decide +kernel
theorem dX11_digest_115 : decode cX11_digest 115 = .ok (.iinc 3 1, 3) := by decide +kernel
theorem dX11_digest_118 : decode cX11_digest 118 = .ok (.goto (-20), 3) := by decide +kernel
theorem dX11_digest_121 : decode cX11_digest 121 = .ok (.lload_n 1, 1) := by decide +kernel
theorem dX11_digest_122 : decode cX11_digest 122 = .ok (.lreturn, 1) := by decide +kernel
theorem dX11_isOutside_0 : decode cX11_isOutside 0 = .ok (.iload_n 0, 1) := by decide +kernel
theorem dX11_isOutside_1 : decode cX11_isOutside 1 = .ok (.iload_n 1, 1) := by decide +kernel
theorem dX11_isOutside_2 : decode cX11_isOutside 2 = .ok (.if_icmp .lt 8, 3) := by decide +kernel
theorem dX11_isOutside_5 : decode cX11_isOutside 5 = .ok (.iload_n 0, 1) := by decide +kernel
theorem dX11_isOutside_6 : decode cX11_isOutside 6 = .ok (.iload_n 2, 1) := by decide +kernel
theorem dX11_isOutside_7 : decode cX11_isOutside 7 = .ok (.if_icmp .le 7, 3) := by decide +kernel
theorem dX11_isOutside_10 : decode cX11_isOutside 10 = .ok (.iconst 1, 1) := by decide +kernel
theorem dX11_isOutside_11 : decode cX11_isOutside 11 = .ok (.goto 4, 3) := by decide +kernel
theorem dX11_isOutside_14 : decode cX11_isOutside 14 = .ok (.iconst 0, 1) := by decide +kernel
theorem dX11_isOutside_15 : decode cX11_isOutside 15 = .ok (.ireturn, 1) := by decide +kernel
theorem dX11_schoolOf_0 : decode cX11_schoolOf 0 = .ok (.iload_n 1, 1) := by decide +kernel
theorem dX11_schoolOf_1 : decode cX11_schoolOf 1 = .ok (.iconst 0, 1) := by decide +kernel
theorem dX11_schoolOf_2 : decode cX11_schoolOf 2 = .ok (.aload_n 0, 1) := by decide +kernel
theorem dX11_schoolOf_3 : decode cX11_schoolOf 3 = .ok (.getfield 18, 3) := by decide +kernel
theorem dX11_schoolOf_6 : decode cX11_schoolOf 6 = .ok (.arraylength, 1) := by decide +kernel
theorem dX11_schoolOf_7 : decode cX11_schoolOf 7 = .ok (.iconst 1, 1) := by decide +kernel
theorem dX11_schoolOf_8 : decode cX11_schoolOf 8 = .ok (.isub, 1) := by decide +kernel
theorem dX11_schoolOf_9 : decode cX11_schoolOf 9 = .ok (.invokestatic 95, 3) := by decide +kernel
theorem dX11_schoolOf_12 : decode cX11_schoolOf 12 = .ok (.ifCond .eq 7, 3) := by decide +kernel
theorem dX11_schoolOf_15 : decode cX11_schoolOf 15 = .ok (.aconst_null, 1) := by decide +kernel
theorem dX11_schoolOf_16 : decode cX11_schoolOf 16 = .ok (.goto 9, 3) := by decide +kernel
theorem dX11_schoolOf_19 : decode cX11_schoolOf 19 = .ok (.aload_n 0, 1) := by decide +kernel
theorem dX11_schoolOf_20 : decode cX11_schoolOf 20 = .ok (.getfield 18, 3) := by decide +kernel
theorem dX11_schoolOf_23 : decode cX11_schoolOf 23 = .ok (.iload_n 1, 1) := by decide +kernel
theorem dX11_schoolOf_24 : decode cX11_schoolOf 24 = .ok (.aaload, 1) := by decide +kernel
theorem dX11_schoolOf_25 : decode cX11_schoolOf 25 = .ok (.areturn, 1) := by decide +kernel
theorem dX11_nutOf_0 : decode cX11_nutOf 0 = .ok (.iload_n 1, 1) := by decide +kernel
theorem dX11_nutOf_1 : decode cX11_nutOf 1 = .ok (.iconst 0, 1) := by decide +kernel
theorem dX11_nutOf_2 : decode cX11_nutOf 2 = .ok (.aload_n 0, 1) := by decide +kernel
theorem dX11_nutOf_3 : decode cX11_nutOf 3 = .ok (.getfield 24, 3) := by decide +kernel
theorem dX11_nutOf_6 : decode cX11_nutOf 6 = .ok (.arraylength, 1) := by decide +kernel
theorem dX11_nutOf_7 : decode cX11_nutOf 7 = .ok (.iconst 1, 1) := by decide +kernel
theorem dX11_nutOf_8 : decode cX11_nutOf 8 = .ok (.isub, 1) := by decide +kernel
theorem dX11_nutOf_9 : decode cX11_nutOf 9 = .ok (.invokestatic 95, 3) := by decide +kernel
theorem dX11_nutOf_12 : decode cX11_nutOf 12 = .ok (.ifCond .eq 7, 3) := by decide +kernel
theorem dX11_nutOf_15 : decode cX11_nutOf 15 = .ok (.aconst_null, 1) := by decide +kernel
theorem dX11_nutOf_16 : decode cX11_nutOf 16 = .ok (.goto 9, 3) := by decide +kernel
theorem dX11_nutOf_19 : decode cX11_nutOf 19 = .ok (.aload_n 0, 1) := by decide +kernel
theorem dX11_nutOf_20 : decode cX11_nutOf 20 = .ok (.getfield 24, 3) := by decide +kernel
theorem dX11_nutOf_23 : decode cX11_nutOf 23 = .ok (.iload_n 1, 1) := by decide +kernel
theorem dX11_nutOf_24 : decode cX11_nutOf 24 = .ok (.aaload, 1) := by decide +kernel
theorem dX11_nutOf_25 : decode cX11_nutOf 25 = .ok (.areturn, 1) := by decide +kernel
theorem dX11_newNut_0 : decode cX11_newNut 0 = .ok (.iload_n 0, 1) := by decide +kernel
theorem dX11_newNut_1 : decode cX11_newNut 1 = .ok (.tableswitch 71 1 4 #[31, 41, 51, 61], 31) := by decide +kernel
theorem dX11_newNut_32 : decode cX11_newNut 32 = .ok (.new 293, 3) := by decide +kernel
theorem dX11_newNut_35 : decode cX11_newNut 35 = .ok (.dup, 1) := by decide +kernel
theorem dX11_newNut_36 : decode cX11_newNut 36 = .ok (.aload_n 1, 1) := by decide +kernel
theorem dX11_newNut_37 : decode cX11_newNut 37 = .ok (.iload_n 2, 1) := by decide +kernel
theorem dX11_newNut_38 : decode cX11_newNut 38 = .ok (.invokespecial 295, 3) := by decide +kernel
theorem dX11_newNut_41 : decode cX11_newNut 41 = .ok (.areturn, 1) := by decide +kernel
theorem dX11_newNut_42 : decode cX11_newNut 42 = .ok (.new 298, 3) := by decide +kernel
theorem dX11_newNut_45 : decode cX11_newNut 45 = .ok (.dup, 1) := by decide +kernel
theorem dX11_newNut_46 : decode cX11_newNut 46 = .ok (.aload_n 1, 1) := by decide +kernel
theorem dX11_newNut_47 : decode cX11_newNut 47 = .ok (.iload_n 2, 1) := by decide +kernel
theorem dX11_newNut_48 : decode cX11_newNut 48 = .ok (.invokespecial 300, 3) := by decide +kernel
theorem dX11_newNut_51 : decode cX11_newNut 51 = .ok (.areturn, 1) := by decide +kernel
theorem dX11_newNut_52 : decode cX11_newNut 52 = .ok (.new 301, 3) := by decide +kernel
theorem dX11_newNut_55 : decode cX11_newNut 55 = .ok (.dup, 1) := by decide +kernel
theorem dX11_newNut_56 : decode cX11_newNut 56 = .ok (.aload_n 1, 1) := by decide +kernel
theorem dX11_newNut_57 : decode cX11_newNut 57 = .ok (.iload_n 2, 1) := by decide +kernel
theorem dX11_newNut_58 : decode cX11_newNut 58 = .ok (.invokespecial 303, 3) := by decide +kernel
theorem dX11_newNut_61 : decode cX11_newNut 61 = .ok (.areturn, 1) := by decide +kernel
theorem dX11_newNut_62 : decode cX11_newNut 62 = .ok (.new 304, 3) := by decide +kernel
theorem dX11_newNut_65 : decode cX11_newNut 65 = .ok (.dup, 1) := by decide +kernel
theorem dX11_newNut_66 : decode cX11_newNut 66 = .ok (.aload_n 1, 1) := by decide +kernel
theorem dX11_newNut_67 : decode cX11_newNut 67 = .ok (.iload_n 2, 1) := by decide +kernel
theorem dX11_newNut_68 : decode cX11_newNut 68 = .ok (.invokespecial 306, 3) := by decide +kernel
theorem dX11_newNut_71 : decode cX11_newNut 71 = .ok (.areturn, 1) := by decide +kernel
theorem dX11_newNut_72 : decode cX11_newNut 72 = .ok (.new 22, 3) := by decide +kernel
theorem dX11_newNut_75 : decode cX11_newNut 75 = .ok (.dup, 1) := by decide +kernel
theorem dX11_newNut_76 : decode cX11_newNut 76 = .ok (.aload_n 1, 1) := by decide +kernel
theorem dX11_newNut_77 : decode cX11_newNut 77 = .ok (.iload_n 2, 1) := by decide +kernel
theorem dX11_newNut_78 : decode cX11_newNut 78 = .ok (.invokespecial 307, 3) := by decide +kernel
theorem dX11_newNut_81 : decode cX11_newNut 81 = .ok (.areturn, 1) := by decide +kernel
theorem dX11_isOfKind_0 : decode cX11_isOfKind 0 = .ok (.iload_n 1, 1) := by decide +kernel
theorem dX11_isOfKind_1 : decode cX11_isOfKind 1 = .ok (.tableswitch 51 1 4 #[31, 36, 41, 46], 31) := by decide +kernel
theorem dX11_isOfKind_32 : decode cX11_isOfKind 32 = .ok (.aload_n 0, 1) := by decide +kernel
theorem dX11_isOfKind_33 : decode cX11_isOfKind 33 = .ok (.instanceof 293, 3) := by decide +kernel
theorem dX11_isOfKind_36 : decode cX11_isOfKind 36 = .ok (.ireturn, 1) := by decide +kernel
theorem dX11_isOfKind_37 : decode cX11_isOfKind 37 = .ok (.aload_n 0, 1) := by decide +kernel
theorem dX11_isOfKind_38 : decode cX11_isOfKind 38 = .ok (.instanceof 298, 3) := by decide +kernel
theorem dX11_isOfKind_41 : decode cX11_isOfKind 41 = .ok (.ireturn, 1) := by decide +kernel
theorem dX11_isOfKind_42 : decode cX11_isOfKind 42 = .ok (.aload_n 0, 1) := by decide +kernel
theorem dX11_isOfKind_43 : decode cX11_isOfKind 43 = .ok (.instanceof 301, 3) := by decide +kernel
theorem dX11_isOfKind_46 : decode cX11_isOfKind 46 = .ok (.ireturn, 1) := by decide +kernel
theorem dX11_isOfKind_47 : decode cX11_isOfKind 47 = .ok (.aload_n 0, 1) := by decide +kernel
theorem dX11_isOfKind_48 : decode cX11_isOfKind 48 = .ok (.instanceof 304, 3) := by decide +kernel
theorem dX11_isOfKind_51 : decode cX11_isOfKind 51 = .ok (.ireturn, 1) := by decide +kernel
theorem dX11_isOfKind_52 : decode cX11_isOfKind 52 = .ok (.iconst 1, 1) := by decide +kernel
theorem dX11_isOfKind_53 : decode cX11_isOfKind 53 = .ok (.ireturn, 1) := by decide +kernel
theorem dX11_brokenNuts_0 : decode cX11_brokenNuts 0 = .ok (.iconst 0, 1) := by decide +kernel
theorem dX11_brokenNuts_1 : decode cX11_brokenNuts 1 = .ok (.istore_n 1, 1) := by decide +kernel
theorem dX11_brokenNuts_2 : decode cX11_brokenNuts 2 = .ok (.iconst 0, 1) := by decide +kernel
theorem dX11_brokenNuts_3 : decode cX11_brokenNuts 3 = .ok (.istore_n 2, 1) := by decide +kernel
theorem dX11_brokenNuts_4 : decode cX11_brokenNuts 4 = .ok (.iload_n 2, 1) := by decide +kernel
theorem dX11_brokenNuts_5 : decode cX11_brokenNuts 5 = .ok (.aload_n 0, 1) := by decide +kernel
theorem dX11_brokenNuts_6 : decode cX11_brokenNuts 6 = .ok (.getfield 24, 3) := by decide +kernel
theorem dX11_brokenNuts_9 : decode cX11_brokenNuts 9 = .ok (.arraylength, 1) := by decide +kernel
theorem dX11_brokenNuts_10 : decode cX11_brokenNuts 10 = .ok (.if_icmp .ge 33, 3) := by decide +kernel
theorem dX11_brokenNuts_13 : decode cX11_brokenNuts 13 = .ok (.aload_n 0, 1) := by decide +kernel
theorem dX11_brokenNuts_14 : decode cX11_brokenNuts 14 = .ok (.getfield 24, 3) := by decide +kernel
theorem dX11_brokenNuts_17 : decode cX11_brokenNuts 17 = .ok (.iload_n 2, 1) := by decide +kernel
theorem dX11_brokenNuts_18 : decode cX11_brokenNuts 18 = .ok (.aaload, 1) := by decide +kernel
theorem dX11_brokenNuts_19 : decode cX11_brokenNuts 19 = .ok (.ifnull 24, 3) := by decide +kernel
theorem dX11_brokenNuts_22 : decode cX11_brokenNuts 22 = .ok (.aload_n 0, 1) := by decide +kernel
theorem dX11_brokenNuts_23 : decode cX11_brokenNuts 23 = .ok (.getfield 24, 3) := by decide +kernel
theorem dX11_brokenNuts_26 : decode cX11_brokenNuts 26 = .ok (.iload_n 2, 1) := by decide +kernel
theorem dX11_brokenNuts_27 : decode cX11_brokenNuts 27 = .ok (.aaload, 1) := by decide +kernel
theorem dX11_brokenNuts_28 : decode cX11_brokenNuts 28 = .ok (.getfield 127, 3) := by decide +kernel
theorem dX11_brokenNuts_31 : decode cX11_brokenNuts 31 = .ok (.ifCond .eq 6, 3) := by decide +kernel
theorem dX11_brokenNuts_34 : decode cX11_brokenNuts 34 = .ok (.iinc 1 1, 3) := by decide +kernel
theorem dX11_brokenNuts_37 : decode cX11_brokenNuts 37 = .ok (.iinc 2 1, 3) := by decide +kernel
theorem dX11_brokenNuts_40 : decode cX11_brokenNuts 40 = .ok (.goto (-36), 3) := by decide +kernel
theorem dX11_brokenNuts_43 : decode cX11_brokenNuts 43 = .ok (.iload_n 1, 1) := by decide +kernel
theorem dX11_brokenNuts_44 : decode cX11_brokenNuts 44 = .ok (.ireturn, 1) := by decide +kernel
theorem dX11_claimsMade_0 : decode cX11_claimsMade 0 = .ok (.iconst 0, 1) := by decide +kernel
theorem dX11_claimsMade_1 : decode cX11_claimsMade 1 = .ok (.istore_n 1, 1) := by decide +kernel
theorem dX11_claimsMade_2 : decode cX11_claimsMade 2 = .ok (.iconst 0, 1) := by decide +kernel
theorem dX11_claimsMade_3 : decode cX11_claimsMade 3 = .ok (.istore_n 2, 1) := by decide +kernel
theorem dX11_claimsMade_4 : decode cX11_claimsMade 4 = .ok (.iload_n 2, 1) := by decide +kernel
theorem dX11_claimsMade_5 : decode cX11_claimsMade 5 = .ok (.aload_n 0, 1) := by decide +kernel
theorem dX11_claimsMade_6 : decode cX11_claimsMade 6 = .ok (.getfield 24, 3) := by decide +kernel
theorem dX11_claimsMade_9 : decode cX11_claimsMade 9 = .ok (.arraylength, 1) := by decide +kernel
theorem dX11_claimsMade_10 : decode cX11_claimsMade 10 = .ok (.if_icmp .ge 34, 3) := by decide +kernel
theorem dX11_claimsMade_13 : decode cX11_claimsMade 13 = .ok (.aload_n 0, 1) := by decide +kernel
theorem dX11_claimsMade_14 : decode cX11_claimsMade 14 = .ok (.getfield 24, 3) := by decide +kernel
theorem dX11_claimsMade_17 : decode cX11_claimsMade 17 = .ok (.iload_n 2, 1) := by decide +kernel
theorem dX11_claimsMade_18 : decode cX11_claimsMade 18 = .ok (.aaload, 1) := by decide +kernel
theorem dX11_claimsMade_19 : decode cX11_claimsMade 19 = .ok (.ifnull 25, 3) := by decide +kernel
theorem dX11_claimsMade_22 : decode cX11_claimsMade 22 = .ok (.aload_n 0, 1) := by decide +kernel
theorem dX11_claimsMade_23 : decode cX11_claimsMade 23 = .ok (.getfield 24, 3) := by decide +kernel
theorem dX11_claimsMade_26 : decode cX11_claimsMade 26 = .ok (.iload_n 2, 1) := by decide +kernel
theorem dX11_claimsMade_27 : decode cX11_claimsMade 27 = .ok (.aaload, 1) := by decide +kernel
theorem dX11_claimsMade_28 : decode cX11_claimsMade 28 = .ok (.getfield 159, 3) := by decide +kernel
theorem dX11_claimsMade_31 : decode cX11_claimsMade 31 = .ok (.iconst (-1), 1) := by decide +kernel
theorem dX11_claimsMade_32 : decode cX11_claimsMade 32 = .ok (.if_icmp .eq 6, 3) := by decide +kernel
theorem dX11_claimsMade_35 : decode cX11_claimsMade 35 = .ok (.iinc 1 1, 3) := by decide +kernel
theorem dX11_claimsMade_38 : decode cX11_claimsMade 38 = .ok (.iinc 2 1, 3) := by decide +kernel
theorem dX11_claimsMade_41 : decode cX11_claimsMade 41 = .ok (.goto (-37), 3) := by decide +kernel
theorem dX11_claimsMade_44 : decode cX11_claimsMade 44 = .ok (.iload_n 1, 1) := by decide +kernel
theorem dX11_claimsMade_45 : decode cX11_claimsMade 45 = .ok (.ireturn, 1) := by decide +kernel
theorem dX11_takeSeats_0 : decode cX11_takeSeats 0 = .ok (.iload_n 1, 1) := by decide +kernel
theorem dX11_takeSeats_1 : decode cX11_takeSeats 1 = .ok (.iload_n 2, 1) := by decide +kernel
theorem dX11_takeSeats_2 : decode cX11_takeSeats 2 = .ok (.if_icmp .eq 31, 3) := by decide +kernel
theorem dX11_takeSeats_5 : decode cX11_takeSeats 5 = .ok (.iload_n 1, 1) := by decide +kernel
theorem dX11_takeSeats_6 : decode cX11_takeSeats 6 = .ok (.iload_n 3, 1) := by decide +kernel
theorem dX11_takeSeats_7 : decode cX11_takeSeats 7 = .ok (.if_icmp .eq 26, 3) := by decide +kernel
theorem dX11_takeSeats_10 : decode cX11_takeSeats 10 = .ok (.iload_n 1, 1) := by decide +kernel
theorem dX11_takeSeats_11 : decode cX11_takeSeats 11 = .ok (.iload 4, 2) := by decide +kernel
theorem dX11_takeSeats_13 : decode cX11_takeSeats 13 = .ok (.if_icmp .eq 20, 3) := by decide +kernel
theorem dX11_takeSeats_16 : decode cX11_takeSeats 16 = .ok (.iload_n 2, 1) := by decide +kernel
theorem dX11_takeSeats_17 : decode cX11_takeSeats 17 = .ok (.iload_n 3, 1) := by decide +kernel
theorem dX11_takeSeats_18 : decode cX11_takeSeats 18 = .ok (.if_icmp .eq 15, 3) := by decide +kernel
theorem dX11_takeSeats_21 : decode cX11_takeSeats 21 = .ok (.iload_n 2, 1) := by decide +kernel
theorem dX11_takeSeats_22 : decode cX11_takeSeats 22 = .ok (.iload 4, 2) := by decide +kernel
theorem dX11_takeSeats_24 : decode cX11_takeSeats 24 = .ok (.if_icmp .eq 9, 3) := by decide +kernel
theorem dX11_takeSeats_27 : decode cX11_takeSeats 27 = .ok (.iload_n 3, 1) := by decide +kernel
theorem dX11_takeSeats_28 : decode cX11_takeSeats 28 = .ok (.iload 4, 2) := by decide +kernel
theorem dX11_takeSeats_30 : decode cX11_takeSeats 30 = .ok (.if_icmp .ne 7, 3) := by decide +kernel
theorem dX11_takeSeats_33 : decode cX11_takeSeats 33 = .ok (.iconst 1, 1) := by decide +kernel
theorem dX11_takeSeats_34 : decode cX11_takeSeats 34 = .ok (.goto 4, 3) := by decide +kernel
theorem dX11_takeSeats_37 : decode cX11_takeSeats 37 = .ok (.iconst 0, 1) := by decide +kernel
theorem dX11_takeSeats_38 : decode cX11_takeSeats 38 = .ok (.istore 5, 2) := by decide +kernel
theorem dX11_takeSeats_40 : decode cX11_takeSeats 40 = .ok (.aload_n 0, 1) := by decide +kernel
theorem dX11_takeSeats_41 : decode cX11_takeSeats 41 = .ok (.iload_n 1, 1) := by decide +kernel
theorem dX11_takeSeats_42 : decode cX11_takeSeats 42 = .ok (.invokevirtual 115, 3) := by decide +kernel
theorem dX11_takeSeats_45 : decode cX11_takeSeats 45 = .ok (.astore 6, 2) := by decide +kernel
theorem dX11_takeSeats_47 : decode cX11_takeSeats 47 = .ok (.aload_n 0, 1) := by decide +kernel
theorem dX11_takeSeats_48 : decode cX11_takeSeats 48 = .ok (.iload_n 2, 1) := by decide +kernel
theorem dX11_takeSeats_49 : decode cX11_takeSeats 49 = .ok (.invokevirtual 115, 3) := by decide +kernel
theorem dX11_takeSeats_52 : decode cX11_takeSeats 52 = .ok (.astore 7, 2) := by decide +kernel
theorem dX11_takeSeats_54 : decode cX11_takeSeats 54 = .ok (.aload_n 0, 1) := by decide +kernel
theorem dX11_takeSeats_55 : decode cX11_takeSeats 55 = .ok (.iload_n 3, 1) := by decide +kernel
theorem dX11_takeSeats_56 : decode cX11_takeSeats 56 = .ok (.invokevirtual 115, 3) := by decide +kernel
theorem dX11_takeSeats_59 : decode cX11_takeSeats 59 = .ok (.astore 8, 2) := by decide +kernel
theorem dX11_takeSeats_61 : decode cX11_takeSeats 61 = .ok (.aload_n 0, 1) := by decide +kernel
theorem dX11_takeSeats_62 : decode cX11_takeSeats 62 = .ok (.iload 4, 2) := by decide +kernel
theorem dX11_takeSeats_64 : decode cX11_takeSeats 64 = .ok (.invokevirtual 115, 3) := by decide +kernel
theorem dX11_takeSeats_67 : decode cX11_takeSeats 67 = .ok (.astore 9, 2) := by decide +kernel
theorem dX11_takeSeats_69 : decode cX11_takeSeats 69 = .ok (.iload 5, 2) := by decide +kernel
theorem dX11_takeSeats_71 : decode cX11_takeSeats 71 = .ok (.ifCond .ne 23, 3) := by decide +kernel
theorem dX11_takeSeats_74 : decode cX11_takeSeats 74 = .ok (.aload 6, 2) := by decide +kernel
theorem dX11_takeSeats_76 : decode cX11_takeSeats 76 = .ok (.ifnull 18, 3) := by decide +kernel
theorem dX11_takeSeats_79 : decode cX11_takeSeats 79 = .ok (.aload 7, 2) := by decide +kernel
theorem dX11_takeSeats_81 : decode cX11_takeSeats 81 = .ok (.ifnull 13, 3) := by decide +kernel
theorem dX11_takeSeats_84 : decode cX11_takeSeats 84 = .ok (.aload 8, 2) := by decide +kernel
theorem dX11_takeSeats_86 : decode cX11_takeSeats 86 = .ok (.ifnull 8, 3) := by decide +kernel
theorem dX11_takeSeats_89 : decode cX11_takeSeats 89 = .ok (.aload 9, 2) := by decide +kernel
theorem dX11_takeSeats_91 : decode cX11_takeSeats 91 = .ok (.ifnonnull 5, 3) := by decide +kernel
theorem dX11_takeSeats_94 : decode cX11_takeSeats 94 = .ok (.iconst 0, 1) := by decide +kernel
theorem dX11_takeSeats_95 : decode cX11_takeSeats 95 = .ok (.ireturn, 1) := by decide +kernel
theorem dX11_takeSeats_96 : decode cX11_takeSeats 96 = .ok (.aload_n 0, 1) := by decide +kernel
theorem dX11_takeSeats_97 : decode cX11_takeSeats 97 = .ok (.getfield 56, 3) := by decide +kernel
theorem dX11_takeSeats_100 : decode cX11_takeSeats 100 = .ok (.iconst 0, 1) := by decide +kernel
theorem dX11_takeSeats_101 : decode cX11_takeSeats 101 = .ok (.aload 6, 2) := by decide +kernel
theorem dX11_takeSeats_103 : decode cX11_takeSeats 103 = .ok (.invokevirtual 308, 3) := by decide +kernel
theorem dX11_takeSeats_106 : decode cX11_takeSeats 106 = .ok (.iastore, 1) := by decide +kernel
theorem dX11_takeSeats_107 : decode cX11_takeSeats 107 = .ok (.aload_n 0, 1) := by decide +kernel
theorem dX11_takeSeats_108 : decode cX11_takeSeats 108 = .ok (.getfield 56, 3) := by decide +kernel
theorem dX11_takeSeats_111 : decode cX11_takeSeats 111 = .ok (.iconst 1, 1) := by decide +kernel
theorem dX11_takeSeats_112 : decode cX11_takeSeats 112 = .ok (.aload 7, 2) := by decide +kernel
theorem dX11_takeSeats_114 : decode cX11_takeSeats 114 = .ok (.invokevirtual 308, 3) := by decide +kernel
theorem dX11_takeSeats_117 : decode cX11_takeSeats 117 = .ok (.iastore, 1) := by decide +kernel
theorem dX11_takeSeats_118 : decode cX11_takeSeats 118 = .ok (.aload_n 0, 1) := by decide +kernel
theorem dX11_takeSeats_119 : decode cX11_takeSeats 119 = .ok (.getfield 56, 3) := by decide +kernel
theorem dX11_takeSeats_122 : decode cX11_takeSeats 122 = .ok (.iconst 2, 1) := by decide +kernel
theorem dX11_takeSeats_123 : decode cX11_takeSeats 123 = .ok (.aload 8, 2) := by decide +kernel
theorem dX11_takeSeats_125 : decode cX11_takeSeats 125 = .ok (.invokevirtual 308, 3) := by decide +kernel
theorem dX11_takeSeats_128 : decode cX11_takeSeats 128 = .ok (.iastore, 1) := by decide +kernel
theorem dX11_takeSeats_129 : decode cX11_takeSeats 129 = .ok (.aload_n 0, 1) := by decide +kernel
theorem dX11_takeSeats_130 : decode cX11_takeSeats 130 = .ok (.getfield 56, 3) := by decide +kernel
theorem dX11_takeSeats_133 : decode cX11_takeSeats 133 = .ok (.iconst 3, 1) := by decide +kernel
theorem dX11_takeSeats_134 : decode cX11_takeSeats 134 = .ok (.aload 9, 2) := by decide +kernel
theorem dX11_takeSeats_136 : decode cX11_takeSeats 136 = .ok (.invokevirtual 308, 3) := by decide +kernel
theorem dX11_takeSeats_139 : decode cX11_takeSeats 139 = .ok (.iastore, 1) := by decide +kernel
theorem dX11_takeSeats_140 : decode cX11_takeSeats 140 = .ok (.iconst 1, 1) := by decide +kernel
theorem dX11_takeSeats_141 : decode cX11_takeSeats 141 = .ok (.ireturn, 1) := by decide +kernel
theorem dX11_tenthsFor_0 : decode cX11_tenthsFor 0 = .ok (.iconst 5, 1) := by decide +kernel
theorem dX11_tenthsFor_1 : decode cX11_tenthsFor 1 = .ok (.aload_n 0, 1) := by decide +kernel
theorem dX11_tenthsFor_2 : decode cX11_tenthsFor 2 = .ok (.getfield 56, 3) := by decide +kernel
theorem dX11_tenthsFor_5 : decode cX11_tenthsFor 5 = .ok (.iload_n 1, 1) := by decide +kernel
theorem dX11_tenthsFor_6 : decode cX11_tenthsFor 6 = .ok (.iaload, 1) := by decide +kernel
theorem dX11_tenthsFor_7 : decode cX11_tenthsFor 7 = .ok (.iadd, 1) := by decide +kernel
theorem dX11_tenthsFor_8 : decode cX11_tenthsFor 8 = .ok (.aload_n 0, 1) := by decide +kernel
theorem dX11_tenthsFor_9 : decode cX11_tenthsFor 9 = .ok (.getfield 56, 3) := by decide +kernel
theorem dX11_tenthsFor_12 : decode cX11_tenthsFor 12 = .ok (.iload_n 2, 1) := by decide +kernel
theorem dX11_tenthsFor_13 : decode cX11_tenthsFor 13 = .ok (.iaload, 1) := by decide +kernel
theorem dX11_tenthsFor_14 : decode cX11_tenthsFor 14 = .ok (.isub, 1) := by decide +kernel
theorem dX11_tenthsFor_15 : decode cX11_tenthsFor 15 = .ok (.istore_n 3, 1) := by decide +kernel
theorem dX11_tenthsFor_16 : decode cX11_tenthsFor 16 = .ok (.iconst 1, 1) := by decide +kernel
theorem dX11_tenthsFor_17 : decode cX11_tenthsFor 17 = .ok (.bipush 9, 2) := by decide +kernel
theorem dX11_tenthsFor_19 : decode cX11_tenthsFor 19 = .ok (.iload_n 3, 1) := by decide +kernel
theorem dX11_tenthsFor_20 : decode cX11_tenthsFor 20 = .ok (.invokestatic 311, 3) := by decide +kernel
theorem dX11_tenthsFor_23 : decode cX11_tenthsFor 23 = .ok (.invokestatic 316, 3) := by decide +kernel
theorem dX11_tenthsFor_26 : decode cX11_tenthsFor 26 = .ok (.ireturn, 1) := by decide +kernel
theorem dX11_power_0 : decode cX11_power 0 = .ok (.lconst 1, 1) := by decide +kernel
theorem dX11_power_1 : decode cX11_power 1 = .ok (.lstore_n 3, 1) := by decide +kernel
theorem dX11_power_2 : decode cX11_power 2 = .ok (.iconst 0, 1) := by decide +kernel
theorem dX11_power_3 : decode cX11_power 3 = .ok (.istore 5, 2) := by decide +kernel
theorem dX11_power_5 : decode cX11_power 5 = .ok (.iload 5, 2) := by decide +kernel
theorem dX11_power_7 : decode cX11_power 7 = .ok (.iload_n 2, 1) := by decide +kernel
theorem dX11_power_8 : decode cX11_power 8 = .ok (.if_icmp .ge 13, 3) := by decide +kernel
theorem dX11_power_11 : decode cX11_power 11 = .ok (.lload_n 3, 1) := by decide +kernel
theorem dX11_power_12 : decode cX11_power 12 = .ok (.lload_n 0, 1) := by decide +kernel
theorem dX11_power_13 : decode cX11_power 13 = .ok (.lmul, 1) := by decide +kernel
theorem dX11_power_14 : decode cX11_power 14 = .ok (.lstore_n 3, 1) := by decide +kernel
theorem dX11_power_15 : decode cX11_power 15 = .ok (.iinc 5 1, 3) := by decide +kernel
theorem dX11_power_18 : decode cX11_power 18 = .ok (.goto (-13), 3) := by decide +kernel
theorem dX11_power_21 : decode cX11_power 21 = .ok (.lload_n 3, 1) := by decide +kernel
theorem dX11_power_22 : decode cX11_power 22 = .ok (.lreturn, 1) := by decide +kernel
theorem dX11_inLowestTerms_0 : decode cX11_inLowestTerms 0 = .ok (.lload_n 0, 1) := by decide +kernel
theorem dX11_inLowestTerms_1 : decode cX11_inLowestTerms 1 = .ok (.lload_n 2, 1) := by decide +kernel
theorem dX11_inLowestTerms_2 : decode cX11_inLowestTerms 2 = .ok (.invokestatic 319, 3) := by decide +kernel
theorem dX11_inLowestTerms_5 : decode cX11_inLowestTerms 5 = .ok (.lstore 5, 2) := by decide +kernel
theorem dX11_inLowestTerms_7 : decode cX11_inLowestTerms 7 = .ok (.lload 5, 2) := by decide +kernel
theorem dX11_inLowestTerms_9 : decode cX11_inLowestTerms 9 = .ok (.lconst 0, 1) := by decide +kernel
theorem dX11_inLowestTerms_10 : decode cX11_inLowestTerms 10 = .ok (.lcmp, 1) := by decide +kernel
theorem dX11_inLowestTerms_11 : decode cX11_inLowestTerms 11 = .ok (.ifCond .ne 5, 3) := by decide +kernel
theorem dX11_inLowestTerms_14 : decode cX11_inLowestTerms 14 = .ok (.lconst 0, 1) := by decide +kernel
theorem dX11_inLowestTerms_15 : decode cX11_inLowestTerms 15 = .ok (.lreturn, 1) := by decide +kernel
theorem dX11_inLowestTerms_16 : decode cX11_inLowestTerms 16 = .ok (.iload 4, 2) := by decide +kernel
theorem dX11_inLowestTerms_18 : decode cX11_inLowestTerms 18 = .ok (.ifCond .ne 7, 3) := by decide +kernel
theorem dX11_inLowestTerms_21 : decode cX11_inLowestTerms 21 = .ok (.lload_n 0, 1) := by decide +kernel
theorem dX11_inLowestTerms_22 : decode cX11_inLowestTerms 22 = .ok (.goto 4, 3) := by decide +kernel
theorem dX11_inLowestTerms_25 : decode cX11_inLowestTerms 25 = .ok (.lload_n 2, 1) := by decide +kernel
theorem dX11_inLowestTerms_26 : decode cX11_inLowestTerms 26 = .ok (.lload 5, 2) := by decide +kernel
theorem dX11_inLowestTerms_28 : decode cX11_inLowestTerms 28 = .ok (.ldiv, 1) := by decide +kernel
theorem dX11_inLowestTerms_29 : decode cX11_inLowestTerms 29 = .ok (.lreturn, 1) := by decide +kernel
