theorem dX0_init_0 : decode cX0_init 0 = .ok (.aload_n 0, 1) := by decide +kernel
theorem dX0_init_1 : decode cX0_init 1 = .ok (.aload_n 1, 1) := by decide +kernel
theorem dX0_init_2 : decode cX0_init 2 = .ok (.iload_n 2, 1) := by decide +kernel
theorem dX0_init_3 : decode cX0_init 3 = .ok (.invokespecial 3, 3) := by decide +kernel
theorem dX0_init_6 : decode cX0_init 6 = .ok (.return_, 1) := by decide +kernel
theorem dX0_kind_0 : decode cX0_kind 0 = .ok (.iconst 2, 1) := by decide +kernel
theorem dX0_kind_1 : decode cX0_kind 1 = .ok (.ireturn, 1) := by decide +kernel
theorem dX0_hard_0 : decode cX0_hard 0 = .ok (.aload_n 0, 1) := by decide +kernel
theorem dX0_hard_1 : decode cX0_hard 1 = .ok (.getfield 9, 3) := by decide +kernel
theorem dX0_hard_4 : decode cX0_hard 4 = .ok (.iconst 2, 1) := by decide +kernel
theorem dX0_hard_5 : decode cX0_hard 5 = .ok (.iadd, 1) := by decide +kernel
theorem dX0_hard_6 : decode cX0_hard 6 = .ok (.ireturn, 1) := by decide +kernel
theorem dX1_init_0 : decode cX1_init 0 = .ok (.aload_n 0, 1) := by decide +kernel
theorem dX1_init_1 : decode cX1_init 1 = .ok (.invokespecial 3, 3) := by decide +kernel
theorem dX1_init_4 : decode cX1_init 4 = .ok (.return_, 1) := by decide +kernel
theorem dX1_strikeOut_0 : decode cX1_strikeOut 0 = .ok (.aload_n 0, 1) := by decide +kernel
theorem dX1_strikeOut_1 : decode cX1_strikeOut 1 = .ok (.iconst (-1), 1) := by decide +kernel
theorem dX1_strikeOut_2 : decode cX1_strikeOut 2 = .ok (.putfield 9, 3) := by decide +kernel
theorem dX1_strikeOut_5 : decode cX1_strikeOut 5 = .ok (.aload_n 0, 1) := by decide +kernel
theorem dX1_strikeOut_6 : decode cX1_strikeOut 6 = .ok (.aload_n 1, 1) := by decide +kernel
theorem dX1_strikeOut_7 : decode cX1_strikeOut 7 = .ok (.getfield 15, 3) := by decide +kernel
theorem dX1_strikeOut_10 : decode cX1_strikeOut 10 = .ok (.putfield 20, 3) := by decide +kernel
theorem dX1_strikeOut_13 : decode cX1_strikeOut 13 = .ok (.aload_n 0, 1) := by decide +kernel
theorem dX1_strikeOut_14 : decode cX1_strikeOut 14 = .ok (.aload_n 2, 1) := by decide +kernel
theorem dX1_strikeOut_15 : decode cX1_strikeOut 15 = .ok (.getfield 15, 3) := by decide +kernel
theorem dX1_strikeOut_18 : decode cX1_strikeOut 18 = .ok (.putfield 23, 3) := by decide +kernel
theorem dX1_strikeOut_21 : decode cX1_strikeOut 21 = .ok (.aload_n 0, 1) := by decide +kernel
theorem dX1_strikeOut_22 : decode cX1_strikeOut 22 = .ok (.iload_n 3, 1) := by decide +kernel
theorem dX1_strikeOut_23 : decode cX1_strikeOut 23 = .ok (.putfield 26, 3) := by decide +kernel
theorem dX1_strikeOut_26 : decode cX1_strikeOut 26 = .ok (.aload_n 0, 1) := by decide +kernel
theorem dX1_strikeOut_27 : decode cX1_strikeOut 27 = .ok (.iconst 0, 1) := by decide +kernel
theorem dX1_strikeOut_28 : decode cX1_strikeOut 28 = .ok (.putfield 29, 3) := by decide +kernel
theorem dX1_strikeOut_31 : decode cX1_strikeOut 31 = .ok (.aload_n 0, 1) := by decide +kernel
theorem dX1_strikeOut_32 : decode cX1_strikeOut 32 = .ok (.iconst 0, 1) := by decide +kernel
theorem dX1_strikeOut_33 : decode cX1_strikeOut 33 = .ok (.putfield 32, 3) := by decide +kernel
theorem dX1_strikeOut_36 : decode cX1_strikeOut 36 = .ok (.iconst 1, 1) := by decide +kernel
theorem dX1_strikeOut_37 : decode cX1_strikeOut 37 = .ok (.istore 4, 2) := by decide +kernel
theorem dX1_strikeOut_39 : decode cX1_strikeOut 39 = .ok (.iconst 0, 1) := by decide +kernel
theorem dX1_strikeOut_40 : decode cX1_strikeOut 40 = .ok (.istore 5, 2) := by decide +kernel
theorem dX1_strikeOut_42 : decode cX1_strikeOut 42 = .ok (.iload 5, 2) := by decide +kernel
theorem dX1_strikeOut_44 : decode cX1_strikeOut 44 = .ok (.bipush 50, 2) := by decide +kernel
theorem dX1_strikeOut_46 : decode cX1_strikeOut 46 = .ok (.if_icmp .ge 117, 3) := by decide +kernel
theorem dX1_strikeOut_49 : decode cX1_strikeOut 49 = .ok (.aload_n 0, 1) := by decide +kernel
theorem dX1_strikeOut_50 : decode cX1_strikeOut 50 = .ok (.getfield 9, 3) := by decide +kernel
theorem dX1_strikeOut_53 : decode cX1_strikeOut 53 = .ok (.iconst (-1), 1) := by decide +kernel
theorem dX1_strikeOut_54 : decode cX1_strikeOut 54 = .ok (.if_icmp .ne 109, 3) := by decide +kernel
theorem dX1_strikeOut_57 : decode cX1_strikeOut 57 = .ok (.iload 4, 2) := by decide +kernel
theorem dX1_strikeOut_59 : decode cX1_strikeOut 59 = .ok (.ifCond .eq 7, 3) := by decide +kernel
theorem dX1_strikeOut_62 : decode cX1_strikeOut 62 = .ok (.aload_n 1, 1) := by decide +kernel
theorem dX1_strikeOut_63 : decode cX1_strikeOut 63 = .ok (.goto 4, 3) := by decide +kernel
theorem dX1_strikeOut_66 : decode cX1_strikeOut 66 = .ok (.aload_n 2, 1) := by decide +kernel
theorem dX1_strikeOut_67 : decode cX1_strikeOut 67 = .ok (.astore 6, 2) := by decide +kernel
theorem dX1_strikeOut_69 : decode cX1_strikeOut 69 = .ok (.iload 4, 2) := by decide +kernel
theorem dX1_strikeOut_71 : decode cX1_strikeOut 71 = .ok (.ifCond .eq 7, 3) := by decide +kernel
theorem dX1_strikeOut_74 : decode cX1_strikeOut 74 = .ok (.aload_n 2, 1) := by decide +kernel
theorem dX1_strikeOut_75 : decode cX1_strikeOut 75 = .ok (.goto 4, 3) := by decide +kernel
theorem dX1_strikeOut_78 : decode cX1_strikeOut 78 = .ok (.aload_n 1, 1) := by decide +kernel
theorem dX1_strikeOut_79 : decode cX1_strikeOut 79 = .ok (.astore 7, 2) := by decide +kernel
theorem dX1_strikeOut_81 : decode cX1_strikeOut 81 = .ok (.aload_n 0, 1) := by decide +kernel
theorem dX1_strikeOut_82 : decode cX1_strikeOut 82 = .ok (.dup, 1) := by decide +kernel
theorem dX1_strikeOut_83 : decode cX1_strikeOut 83 = .ok (.getfield 29, 3) := by decide +kernel
theorem dX1_strikeOut_86 : decode cX1_strikeOut 86 = .ok (.iconst 1, 1) := by decide +kernel
theorem dX1_strikeOut_87 : decode cX1_strikeOut 87 = .ok (.iadd, 1) := by decide +kernel
theorem dX1_strikeOut_88 : decode cX1_strikeOut 88 = .ok (.putfield 29, 3) := by decide +kernel
theorem dX1_strikeOut_91 : decode cX1_strikeOut 91 = .ok (.aload_n 0, 1) := by decide +kernel
theorem dX1_strikeOut_92 : decode cX1_strikeOut 92 = .ok (.bipush 10, 2) := by decide +kernel
theorem dX1_strikeOut_94 : decode cX1_strikeOut 94 = .ok (.invokevirtual 35, 3) := by decide +kernel
theorem dX1_strikeOut_97 : decode cX1_strikeOut 97 = .ok (.iconst 2, 1) := by decide +kernel
theorem dX1_strikeOut_98 : decode cX1_strikeOut 98 = .ok (.if_icmp .ge 37, 3) := by decide +kernel
theorem dX1_strikeOut_101 : decode cX1_strikeOut 101 = .ok (.aload_n 0, 1) := by decide +kernel
theorem dX1_strikeOut_102 : decode cX1_strikeOut 102 = .ok (.dup, 1) := by decide +kernel
theorem dX1_strikeOut_103 : decode cX1_strikeOut 103 = .ok (.getfield 32, 3) := by decide +kernel
theorem dX1_strikeOut_106 : decode cX1_strikeOut 106 = .ok (.iconst 1, 1) := by decide +kernel
theorem dX1_strikeOut_107 : decode cX1_strikeOut 107 = .ok (.iadd, 1) := by decide +kernel
theorem dX1_strikeOut_108 : decode cX1_strikeOut 108 = .ok (.putfield 32, 3) := by decide +kernel
theorem dX1_strikeOut_111 : decode cX1_strikeOut 111 = .ok (.aload 6, 2) := by decide +kernel
theorem dX1_strikeOut_113 : decode cX1_strikeOut 113 = .ok (.aload 7, 2) := by decide +kernel
theorem dX1_strikeOut_115 : decode cX1_strikeOut 115 = .ok (.invokestatic 39, 3) := by decide +kernel
theorem dX1_strikeOut_118 : decode cX1_strikeOut 118 = .ok (.aload_n 1, 1) := by decide +kernel
theorem dX1_strikeOut_119 : decode cX1_strikeOut 119 = .ok (.getfield 43, 3) := by decide +kernel
theorem dX1_strikeOut_122 : decode cX1_strikeOut 122 = .ok (.if_icmp .ne 7, 3) := by decide +kernel
theorem dX1_strikeOut_125 : decode cX1_strikeOut 125 = .ok (.iconst 1, 1) := by decide +kernel
theorem dX1_strikeOut_126 : decode cX1_strikeOut 126 = .ok (.goto 4, 3) := by decide +kernel
theorem dX1_strikeOut_129 : decode cX1_strikeOut 129 = .ok (.iconst 0, 1) := by decide +kernel
theorem dX1_strikeOut_130 : decode cX1_strikeOut 130 = .ok (.istore 4, 2) := by decide +kernel
theorem dX1_strikeOut_132 : decode cX1_strikeOut 132 = .ok (.goto 25, 3) := by decide +kernel
theorem dX1_strikeOut_135 : decode cX1_strikeOut 135 = .ok (.aload_n 0, 1) := by decide +kernel
theorem dX1_strikeOut_136 : decode cX1_strikeOut 136 = .ok (.aload 6, 2) := by decide +kernel
theorem dX1_strikeOut_138 : decode cX1_strikeOut 138 = .ok (.aload 7, 2) := by decide +kernel
theorem dX1_strikeOut_140 : decode cX1_strikeOut 140 = .ok (.iload 4, 2) := by decide +kernel
theorem dX1_strikeOut_142 : decode cX1_strikeOut 142 = .ok (.invokevirtual 46, 3) := by decide +kernel
theorem dX1_strikeOut_145 : decode cX1_strikeOut 145 = .ok (.iload 4, 2) := by decide +kernel
theorem dX1_strikeOut_147 : decode cX1_strikeOut 147 = .ok (.ifCond .ne 7, 3) := by decide +kernel
theorem dX1_strikeOut_150 : decode cX1_strikeOut 150 = .ok (.iconst 1, 1) := by decide +kernel
theorem dX1_strikeOut_151 : decode cX1_strikeOut 151 = .ok (.goto 4, 3) := by decide +kernel
theorem dX1_strikeOut_154 : decode cX1_strikeOut 154 = .ok (.iconst 0, 1) := by decide +kernel
theorem dX1_strikeOut_155 : decode cX1_strikeOut 155 = .ok (.istore 4, 2) := by decide +kernel
theorem dX1_strikeOut_157 : decode cX1_strikeOut 157 = .ok (.iinc 5 1, 3) := by decide +kernel
theorem dX1_strikeOut_160 : decode cX1_strikeOut 160 = .ok (.goto (-118), 3) := by decide +kernel
theorem dX1_strikeOut_163 : decode cX1_strikeOut 163 = .ok (.return_, 1) := by decide +kernel
theorem dX1_draw_0 : decode cX1_draw 0 = .ok (.aload_n 0, 1) := by decide +kernel
theorem dX1_draw_1 : decode cX1_draw 1 = .ok (.ldc 50, 2) := by decide +kernel
theorem dX1_draw_3 : decode cX1_draw 3 = .ok (.aload_n 0, 1) := by decide +kernel
theorem dX1_draw_4 : decode cX1_draw 4 = .ok (.getfield 26, 3) := by decide +kernel
theorem dX1_draw_7 : decode cX1_draw 7 = .ok (.imul, 1) := by decide +kernel
theorem dX1_draw_8 : decode cX1_draw 8 = .ok (.sipush 12345, 3) := by decide +kernel
theorem dX1_draw_11 : decode cX1_draw 11 = .ok (.iadd, 1) := by decide +kernel
theorem dX1_draw_12 : decode cX1_draw 12 = .ok (.ldc 53, 2) := by decide +kernel
theorem dX1_draw_14 : decode cX1_draw 14 = .ok (.iand, 1) := by decide +kernel
theorem dX1_draw_15 : decode cX1_draw 15 = .ok (.putfield 26, 3) := by decide +kernel
theorem dX1_draw_18 : decode cX1_draw 18 = .ok (.iload_n 1, 1) := by decide +kernel
theorem dX1_draw_19 : decode cX1_draw 19 = .ok (.ifCond .gt 7, 3) := by decide +kernel
theorem dX1_draw_22 : decode cX1_draw 22 = .ok (.iconst 0, 1) := by decide +kernel
theorem dX1_draw_23 : decode cX1_draw 23 = .ok (.goto 12, 3) := by decide +kernel
theorem dX1_draw_26 : decode cX1_draw 26 = .ok (.aload_n 0, 1) := by decide +kernel
theorem dX1_draw_27 : decode cX1_draw 27 = .ok (.getfield 26, 3) := by decide +kernel
theorem dX1_draw_30 : decode cX1_draw 30 = .ok (.ldc 54, 2) := by decide +kernel
theorem dX1_draw_32 : decode cX1_draw 32 = .ok (.idiv, 1) := by decide +kernel
theorem dX1_draw_33 : decode cX1_draw 33 = .ok (.iload_n 1, 1) := by decide +kernel
theorem dX1_draw_34 : decode cX1_draw 34 = .ok (.irem, 1) := by decide +kernel
theorem dX1_draw_35 : decode cX1_draw 35 = .ok (.ireturn, 1) := by decide +kernel
theorem dX1_nextStriker_0 : decode cX1_nextStriker 0 = .ok (.aload_n 0, 1) := by decide +kernel
theorem dX1_nextStriker_1 : decode cX1_nextStriker 1 = .ok (.getfield 55, 3) := by decide +kernel
theorem dX1_nextStriker_4 : decode cX1_nextStriker 4 = .ok (.getfield 59, 3) := by decide +kernel
theorem dX1_nextStriker_7 : decode cX1_nextStriker 7 = .ok (.istore_n 2, 1) := by decide +kernel
theorem dX1_nextStriker_8 : decode cX1_nextStriker 8 = .ok (.iload_n 2, 1) := by decide +kernel
theorem dX1_nextStriker_9 : decode cX1_nextStriker 9 = .ok (.bipush 116, 2) := by decide +kernel
theorem dX1_nextStriker_11 : decode cX1_nextStriker 11 = .ok (.if_icmp .ne 8, 3) := by decide +kernel
theorem dX1_nextStriker_14 : decode cX1_nextStriker 14 = .ok (.aload_n 0, 1) := by decide +kernel
theorem dX1_nextStriker_15 : decode cX1_nextStriker 15 = .ok (.getfield 43, 3) := by decide +kernel
theorem dX1_nextStriker_18 : decode cX1_nextStriker 18 = .ok (.ireturn, 1) := by decide +kernel
theorem dX1_nextStriker_19 : decode cX1_nextStriker 19 = .ok (.iload_n 2, 1) := by decide +kernel
theorem dX1_nextStriker_20 : decode cX1_nextStriker 20 = .ok (.bipush 111, 2) := by decide +kernel
theorem dX1_nextStriker_22 : decode cX1_nextStriker 22 = .ok (.if_icmp .ne 10, 3) := by decide +kernel
theorem dX1_nextStriker_25 : decode cX1_nextStriker 25 = .ok (.aload_n 1, 1) := by decide +kernel
theorem dX1_nextStriker_26 : decode cX1_nextStriker 26 = .ok (.getfield 43, 3) := by decide +kernel
theorem dX1_nextStriker_29 : decode cX1_nextStriker 29 = .ok (.goto 14, 3) := by decide +kernel
theorem dX1_nextStriker_32 : decode cX1_nextStriker 32 = .ok (.aload_n 0, 1) := by decide +kernel
theorem dX1_nextStriker_33 : decode cX1_nextStriker 33 = .ok (.getfield 43, 3) := by decide +kernel
theorem dX1_nextStriker_36 : decode cX1_nextStriker 36 = .ok (.aload_n 1, 1) := by decide +kernel
theorem dX1_nextStriker_37 : decode cX1_nextStriker 37 = .ok (.getfield 43, 3) := by decide +kernel
theorem dX1_nextStriker_40 : decode cX1_nextStriker 40 = .ok (.invokestatic 64, 3) := by decide +kernel
theorem dX1_nextStriker_43 : decode cX1_nextStriker 43 = .ok (.ireturn, 1) := by decide +kernel
theorem dX1_strike_0 : decode cX1_strike 0 = .ok (.iload_n 3, 1) := by decide +kernel
theorem dX1_strike_1 : decode cX1_strike 1 = .ok (.ifCond .eq 10, 3) := by decide +kernel
theorem dX1_strike_4 : decode cX1_strike 4 = .ok (.aload_n 0, 1) := by decide +kernel
theorem dX1_strike_5 : decode cX1_strike 5 = .ok (.getfield 23, 3) := by decide +kernel
theorem dX1_strike_8 : decode cX1_strike 8 = .ok (.goto 7, 3) := by decide +kernel
theorem dX1_strike_11 : decode cX1_strike 11 = .ok (.aload_n 0, 1) := by decide +kernel
theorem dX1_strike_12 : decode cX1_strike 12 = .ok (.getfield 20, 3) := by decide +kernel
theorem dX1_strike_15 : decode cX1_strike 15 = .ok (.istore 4, 2) := by decide +kernel
theorem dX1_strike_17 : decode cX1_strike 17 = .ok (.bipush 15, 2) := by decide +kernel
theorem dX1_strike_19 : decode cX1_strike 19 = .ok (.iconst 5, 1) := by decide +kernel
theorem dX1_strike_20 : decode cX1_strike 20 = .ok (.aload_n 1, 1) := by decide +kernel
theorem dX1_strike_21 : decode cX1_strike 21 = .ok (.invokevirtual 70, 3) := by decide +kernel
theorem dX1_strike_24 : decode cX1_strike 24 = .ok (.aload_n 2, 1) := by decide +kernel
theorem dX1_strike_25 : decode cX1_strike 25 = .ok (.invokevirtual 70, 3) := by decide +kernel
theorem dX1_strike_28 : decode cX1_strike 28 = .ok (.isub, 1) := by decide +kernel
theorem dX1_strike_29 : decode cX1_strike 29 = .ok (.imul, 1) := by decide +kernel
theorem dX1_strike_30 : decode cX1_strike 30 = .ok (.iadd, 1) := by decide +kernel
theorem dX1_strike_31 : decode cX1_strike 31 = .ok (.iconst 4, 1) := by decide +kernel
theorem dX1_strike_32 : decode cX1_strike 32 = .ok (.iload 4, 2) := by decide +kernel
theorem dX1_strike_34 : decode cX1_strike 34 = .ok (.imul, 1) := by decide +kernel
theorem dX1_strike_35 : decode cX1_strike 35 = .ok (.iadd, 1) := by decide +kernel
theorem dX1_strike_36 : decode cX1_strike 36 = .ok (.istore 5, 2) := by decide +kernel
theorem dX1_strike_38 : decode cX1_strike 38 = .ok (.aload_n 0, 1) := by decide +kernel
theorem dX1_strike_39 : decode cX1_strike 39 = .ok (.bipush 100, 2) := by decide +kernel
theorem dX1_strike_41 : decode cX1_strike 41 = .ok (.invokevirtual 35, 3) := by decide +kernel
theorem dX1_strike_44 : decode cX1_strike 44 = .ok (.iconst 1, 1) := by decide +kernel
theorem dX1_strike_45 : decode cX1_strike 45 = .ok (.bipush 95, 2) := by decide +kernel
theorem dX1_strike_47 : decode cX1_strike 47 = .ok (.iload 5, 2) := by decide +kernel
theorem dX1_strike_49 : decode cX1_strike 49 = .ok (.invokestatic 64, 3) := by decide +kernel
theorem dX1_strike_52 : decode cX1_strike 52 = .ok (.invokestatic 74, 3) := by decide +kernel
theorem dX1_strike_55 : decode cX1_strike 55 = .ok (.if_icmp .ge 14, 3) := by decide +kernel
theorem dX1_strike_58 : decode cX1_strike 58 = .ok (.aload_n 0, 1) := by decide +kernel
theorem dX1_strike_59 : decode cX1_strike 59 = .ok (.aload_n 1, 1) := by decide +kernel
theorem dX1_strike_60 : decode cX1_strike 60 = .ok (.getfield 43, 3) := by decide +kernel
theorem dX1_strike_63 : decode cX1_strike 63 = .ok (.putfield 9, 3) := by decide +kernel
theorem dX1_strike_66 : decode cX1_strike 66 = .ok (.goto 30, 3) := by decide +kernel
theorem dX1_strike_69 : decode cX1_strike 69 = .ok (.iload_n 3, 1) := by decide +kernel
theorem dX1_strike_70 : decode cX1_strike 70 = .ok (.ifCond .eq 16, 3) := by decide +kernel
theorem dX1_strike_73 : decode cX1_strike 73 = .ok (.aload_n 0, 1) := by decide +kernel
theorem dX1_strike_74 : decode cX1_strike 74 = .ok (.dup, 1) := by decide +kernel
theorem dX1_strike_75 : decode cX1_strike 75 = .ok (.getfield 23, 3) := by decide +kernel
theorem dX1_strike_78 : decode cX1_strike 78 = .ok (.iconst 1, 1) := by decide +kernel
theorem dX1_strike_79 : decode cX1_strike 79 = .ok (.iadd, 1) := by decide +kernel
theorem dX1_strike_80 : decode cX1_strike 80 = .ok (.putfield 23, 3) := by decide +kernel
theorem dX1_strike_83 : decode cX1_strike 83 = .ok (.goto 13, 3) := by decide +kernel
theorem dX1_strike_86 : decode cX1_strike 86 = .ok (.aload_n 0, 1) := by decide +kernel
theorem dX1_strike_87 : decode cX1_strike 87 = .ok (.dup, 1) := by decide +kernel
theorem dX1_strike_88 : decode cX1_strike 88 = .ok (.getfield 20, 3) := by decide +kernel
theorem dX1_strike_91 : decode cX1_strike 91 = .ok (.iconst 1, 1) := by decide +kernel
theorem dX1_strike_92 : decode cX1_strike 92 = .ok (.iadd, 1) := by decide +kernel
theorem dX1_strike_93 : decode cX1_strike 93 = .ok (.putfield 20, 3) := by decide +kernel
theorem dX1_strike_96 : decode cX1_strike 96 = .ok (.return_, 1) := by decide +kernel
theorem dX1_tell_0 : decode cX1_tell 0 = .ok (.iload_n 1, 1) := by decide +kernel
theorem dX1_tell_1 : decode cX1_tell 1 = .ok (.tableswitch 42 0 2 #[27, 32, 37], 27) := by decide +kernel
theorem dX1_tell_28 : decode cX1_tell 28 = .ok (.aload_n 0, 1) := by decide +kernel
theorem dX1_tell_29 : decode cX1_tell 29 = .ok (.getfield 9, 3) := by decide +kernel
theorem dX1_tell_32 : decode cX1_tell 32 = .ok (.ireturn, 1) := by decide +kernel
theorem dX1_tell_33 : decode cX1_tell 33 = .ok (.aload_n 0, 1) := by decide +kernel
theorem dX1_tell_34 : decode cX1_tell 34 = .ok (.getfield 29, 3) := by decide +kernel
theorem dX1_tell_37 : decode cX1_tell 37 = .ok (.ireturn, 1) := by decide +kernel
theorem dX1_tell_38 : decode cX1_tell 38 = .ok (.aload_n 0, 1) := by decide +kernel
theorem dX1_tell_39 : decode cX1_tell 39 = .ok (.getfield 32, 3) := by decide +kernel
theorem dX1_tell_42 : decode cX1_tell 42 = .ok (.ireturn, 1) := by decide +kernel
theorem dX1_tell_43 : decode cX1_tell 43 = .ok (.aload_n 0, 1) := by decide +kernel
theorem dX1_tell_44 : decode cX1_tell 44 = .ok (.getfield 26, 3) := by decide +kernel
theorem dX1_tell_47 : decode cX1_tell 47 = .ok (.ireturn, 1) := by decide +kernel
theorem dX2_init_0 : decode cX2_init 0 = .ok (.aload_n 0, 1) := by decide +kernel
theorem dX2_init_1 : decode cX2_init 1 = .ok (.invokespecial 3, 3) := by decide +kernel
theorem dX2_init_4 : decode cX2_init 4 = .ok (.aload_n 0, 1) := by decide +kernel
theorem dX2_init_5 : decode cX2_init 5 = .ok (.bipush 8, 2) := by decide +kernel
theorem dX2_init_7 : decode cX2_init 7 = .ok (.anewarray 9, 3) := by decide +kernel
theorem dX2_init_10 : decode cX2_init 10 = .ok (.putfield 11, 3) := by decide +kernel
theorem dX2_init_13 : decode cX2_init 13 = .ok (.aload_n 0, 1) := by decide +kernel
theorem dX2_init_14 : decode cX2_init 14 = .ok (.bipush 8, 2) := by decide +kernel
theorem dX2_init_16 : decode cX2_init 16 = .ok (.newarray .int, 2) := by decide +kernel
theorem dX2_init_18 : decode cX2_init 18 = .ok (.putfield 17, 3) := by decide +kernel
theorem dX2_init_21 : decode cX2_init 21 = .ok (.aload_n 0, 1) := by decide +kernel
theorem dX2_init_22 : decode cX2_init 22 = .ok (.bipush 8, 2) := by decide +kernel
theorem dX2_init_24 : decode cX2_init 24 = .ok (.newarray .int, 2) := by decide +kernel
theorem dX2_init_26 : decode cX2_init 26 = .ok (.putfield 21, 3) := by decide +kernel
theorem dX2_init_29 : decode cX2_init 29 = .ok (.return_, 1) := by decide +kernel
theorem dX2_add_0 : decode cX2_add 0 = .ok (.aload_n 0, 1) := by decide +kernel
theorem dX2_add_1 : decode cX2_add 1 = .ok (.getfield 24, 3) := by decide +kernel
theorem dX2_add_4 : decode cX2_add 4 = .ok (.aload_n 0, 1) := by decide +kernel
theorem dX2_add_5 : decode cX2_add 5 = .ok (.getfield 11, 3) := by decide +kernel
theorem dX2_add_8 : decode cX2_add 8 = .ok (.arraylength, 1) := by decide +kernel
theorem dX2_add_9 : decode cX2_add 9 = .ok (.if_icmp .lt 6, 3) := by decide +kernel
theorem dX2_add_12 : decode cX2_add 12 = .ok (.bipush (-104), 2) := by decide +kernel
theorem dX2_add_14 : decode cX2_add 14 = .ok (.ireturn, 1) := by decide +kernel
theorem dX2_add_15 : decode cX2_add 15 = .ok (.aload_n 0, 1) := by decide +kernel
theorem dX2_add_16 : decode cX2_add 16 = .ok (.getfield 11, 3) := by decide +kernel
theorem dX2_add_19 : decode cX2_add 19 = .ok (.aload_n 0, 1) := by decide +kernel
theorem dX2_add_20 : decode cX2_add 20 = .ok (.getfield 24, 3) := by decide +kernel
theorem dX2_add_23 : decode cX2_add 23 = .ok (.aload_n 1, 1) := by decide +kernel
theorem dX2_add_24 : decode cX2_add 24 = .ok (.aastore, 1) := by decide +kernel
theorem dX2_add_25 : decode cX2_add 25 = .ok (.aload_n 0, 1) := by decide +kernel
theorem dX2_add_26 : decode cX2_add 26 = .ok (.getfield 17, 3) := by decide +kernel
theorem dX2_add_29 : decode cX2_add 29 = .ok (.aload_n 0, 1) := by decide +kernel
theorem dX2_add_30 : decode cX2_add 30 = .ok (.getfield 24, 3) := by decide +kernel
theorem dX2_add_33 : decode cX2_add 33 = .ok (.iload_n 2, 1) := by decide +kernel
theorem dX2_add_34 : decode cX2_add 34 = .ok (.iastore, 1) := by decide +kernel
theorem dX2_add_35 : decode cX2_add 35 = .ok (.aload_n 0, 1) := by decide +kernel
theorem dX2_add_36 : decode cX2_add 36 = .ok (.getfield 21, 3) := by decide +kernel
theorem dX2_add_39 : decode cX2_add 39 = .ok (.aload_n 0, 1) := by decide +kernel
theorem dX2_add_40 : decode cX2_add 40 = .ok (.getfield 24, 3) := by decide +kernel
theorem dX2_add_43 : decode cX2_add 43 = .ok (.iload_n 3, 1) := by decide +kernel
theorem dX2_add_44 : decode cX2_add 44 = .ok (.iastore, 1) := by decide +kernel
theorem dX2_add_45 : decode cX2_add 45 = .ok (.aload_n 0, 1) := by decide +kernel
theorem dX2_add_46 : decode cX2_add 46 = .ok (.dup, 1) := by decide +kernel
theorem dX2_add_47 : decode cX2_add 47 = .ok (.getfield 24, 3) := by decide +kernel
theorem dX2_add_50 : decode cX2_add 50 = .ok (.iconst 1, 1) := by decide +kernel
theorem dX2_add_51 : decode cX2_add 51 = .ok (.iadd, 1) := by decide +kernel
theorem dX2_add_52 : decode cX2_add 52 = .ok (.putfield 24, 3) := by decide +kernel
theorem dX2_add_55 : decode cX2_add 55 = .ok (.aload_n 0, 1) := by decide +kernel
theorem dX2_add_56 : decode cX2_add 56 = .ok (.getfield 24, 3) := by decide +kernel
theorem dX2_add_59 : decode cX2_add 59 = .ok (.ireturn, 1) := by decide +kernel
theorem dX2_clear_0 : decode cX2_clear 0 = .ok (.aload_n 0, 1) := by decide +kernel
theorem dX2_clear_1 : decode cX2_clear 1 = .ok (.getfield 24, 3) := by decide +kernel
theorem dX2_clear_4 : decode cX2_clear 4 = .ok (.istore_n 1, 1) := by decide +kernel
theorem dX2_clear_5 : decode cX2_clear 5 = .ok (.aload_n 0, 1) := by decide +kernel
theorem dX2_clear_6 : decode cX2_clear 6 = .ok (.iconst 0, 1) := by decide +kernel
theorem dX2_clear_7 : decode cX2_clear 7 = .ok (.putfield 24, 3) := by decide +kernel
theorem dX2_clear_10 : decode cX2_clear 10 = .ok (.iload_n 1, 1) := by decide +kernel
theorem dX2_clear_11 : decode cX2_clear 11 = .ok (.ireturn, 1) := by decide +kernel
theorem dX2_hasSet_0 : decode cX2_hasSet 0 = .ok (.iload_n 1, 1) := by decide +kernel
theorem dX2_hasSet_1 : decode cX2_hasSet 1 = .ok (.ifCond .lt 17, 3) := by decide +kernel
theorem dX2_hasSet_4 : decode cX2_hasSet 4 = .ok (.iload_n 1, 1) := by decide +kernel
theorem dX2_hasSet_5 : decode cX2_hasSet 5 = .ok (.iconst 1, 1) := by decide +kernel
theorem dX2_hasSet_6 : decode cX2_hasSet 6 = .ok (.aload_n 0, 1) := by decide +kernel
theorem dX2_hasSet_7 : decode cX2_hasSet 7 = .ok (.getfield 24, 3) := by decide +kernel
theorem dX2_hasSet_10 : decode cX2_hasSet 10 = .ok (.ishl, 1) := by decide +kernel
theorem dX2_hasSet_11 : decode cX2_hasSet 11 = .ok (.if_icmp .ge 7, 3) := by decide +kernel
theorem dX2_hasSet_14 : decode cX2_hasSet 14 = .ok (.iconst 1, 1) := by decide +kernel
theorem dX2_hasSet_15 : decode cX2_hasSet 15 = .ok (.goto 4, 3) := by decide +kernel
theorem dX2_hasSet_18 : decode cX2_hasSet 18 = .ok (.iconst 0, 1) := by decide +kernel
theorem dX2_hasSet_19 : decode cX2_hasSet 19 = .ok (.ireturn, 1) := by decide +kernel
theorem dX2_worthAbove_0 : decode cX2_worthAbove 0 = .ok (.aload_n 1, 1) := by decide +kernel
theorem dX2_worthAbove_1 : decode cX2_worthAbove 1 = .ok (.getfield 28, 3) := by decide +kernel
theorem dX2_worthAbove_4 : decode cX2_worthAbove 4 = .ok (.istore 4, 2) := by decide +kernel
theorem dX2_worthAbove_6 : decode cX2_worthAbove 6 = .ok (.iconst 0, 1) := by decide +kernel
theorem dX2_worthAbove_7 : decode cX2_worthAbove 7 = .ok (.istore 5, 2) := by decide +kernel
theorem dX2_worthAbove_9 : decode cX2_worthAbove 9 = .ok (.lconst 1, 1) := by decide +kernel
theorem dX2_worthAbove_10 : decode cX2_worthAbove 10 = .ok (.lstore 6, 2) := by decide +kernel
theorem dX2_worthAbove_12 : decode cX2_worthAbove 12 = .ok (.iconst 0, 1) := by decide +kernel
theorem dX2_worthAbove_13 : decode cX2_worthAbove 13 = .ok (.istore 8, 2) := by decide +kernel
theorem dX2_worthAbove_15 : decode cX2_worthAbove 15 = .ok (.iload 8, 2) := by decide +kernel
theorem dX2_worthAbove_17 : decode cX2_worthAbove 17 = .ok (.aload_n 0, 1) := by decide +kernel
theorem dX2_worthAbove_18 : decode cX2_worthAbove 18 = .ok (.getfield 24, 3) := by decide +kernel
theorem dX2_worthAbove_21 : decode cX2_worthAbove 21 = .ok (.if_icmp .ge 77, 3) := by decide +kernel
theorem dX2_worthAbove_24 : decode cX2_worthAbove 24 = .ok (.aload_n 0, 1) := by decide +kernel
theorem dX2_worthAbove_25 : decode cX2_worthAbove 25 = .ok (.getfield 11, 3) := by decide +kernel
theorem dX2_worthAbove_28 : decode cX2_worthAbove 28 = .ok (.iload 8, 2) := by decide +kernel
theorem dX2_worthAbove_30 : decode cX2_worthAbove 30 = .ok (.aaload, 1) := by decide +kernel
theorem dX2_worthAbove_31 : decode cX2_worthAbove 31 = .ok (.ifnull 67, 3) := by decide +kernel
theorem dX2_worthAbove_34 : decode cX2_worthAbove 34 = .ok (.iload_n 2, 1) := by decide +kernel
theorem dX2_worthAbove_35 : decode cX2_worthAbove 35 = .ok (.iload 8, 2) := by decide +kernel
theorem dX2_worthAbove_37 : decode cX2_worthAbove 37 = .ok (.ishr, 1) := by decide +kernel
theorem dX2_worthAbove_38 : decode cX2_worthAbove 38 = .ok (.iconst 1, 1) := by decide +kernel
theorem dX2_worthAbove_39 : decode cX2_worthAbove 39 = .ok (.iand, 1) := by decide +kernel
theorem dX2_worthAbove_40 : decode cX2_worthAbove 40 = .ok (.ifCond .eq 52, 3) := by decide +kernel
theorem dX2_worthAbove_43 : decode cX2_worthAbove 43 = .ok (.lload 6, 2) := by decide +kernel
theorem dX2_worthAbove_45 : decode cX2_worthAbove 45 = .ok (.iconst 0, 1) := by decide +kernel
theorem dX2_worthAbove_46 : decode cX2_worthAbove 46 = .ok (.aload_n 0, 1) := by decide +kernel
theorem dX2_worthAbove_47 : decode cX2_worthAbove 47 = .ok (.getfield 21, 3) := by decide +kernel
theorem dX2_worthAbove_50 : decode cX2_worthAbove 50 = .ok (.iload 8, 2) := by decide +kernel
theorem dX2_worthAbove_52 : decode cX2_worthAbove 52 = .ok (.iaload, 1) := by decide +kernel
theorem dX2_worthAbove_53 : decode cX2_worthAbove 53 = .ok (.iload 5, 2) := by decide +kernel
theorem dX2_worthAbove_55 : decode cX2_worthAbove 55 = .ok (.isub, 1) := by decide +kernel
theorem dX2_worthAbove_56 : decode cX2_worthAbove 56 = .ok (.invokestatic 33, 3) := by decide +kernel
theorem dX2_worthAbove_59 : decode cX2_worthAbove 59 = .ok (.i2l, 1) := by decide +kernel
theorem dX2_worthAbove_60 : decode cX2_worthAbove 60 = .ok (.lmul, 1) := by decide +kernel
theorem dX2_worthAbove_61 : decode cX2_worthAbove 61 = .ok (.lstore 6, 2) := by decide +kernel
theorem dX2_worthAbove_63 : decode cX2_worthAbove 63 = .ok (.aload_n 1, 1) := by decide +kernel
theorem dX2_worthAbove_64 : decode cX2_worthAbove 64 = .ok (.getfield 39, 3) := by decide +kernel
theorem dX2_worthAbove_67 : decode cX2_worthAbove 67 = .ok (.aload_n 0, 1) := by decide +kernel
theorem dX2_worthAbove_68 : decode cX2_worthAbove 68 = .ok (.getfield 11, 3) := by decide +kernel
theorem dX2_worthAbove_71 : decode cX2_worthAbove 71 = .ok (.iload 8, 2) := by decide +kernel
theorem dX2_worthAbove_73 : decode cX2_worthAbove 73 = .ok (.aaload, 1) := by decide +kernel
theorem dX2_worthAbove_74 : decode cX2_worthAbove 74 = .ok (.iload 4, 2) := by decide +kernel
theorem dX2_worthAbove_76 : decode cX2_worthAbove 76 = .ok (.aload_n 0, 1) := by decide +kernel
theorem dX2_worthAbove_77 : decode cX2_worthAbove 77 = .ok (.getfield 17, 3) := by decide +kernel
theorem dX2_worthAbove_80 : decode cX2_worthAbove 80 = .ok (.iload 8, 2) := by decide +kernel
theorem dX2_worthAbove_82 : decode cX2_worthAbove 82 = .ok (.iaload, 1) := by decide +kernel
theorem dX2_worthAbove_83 : decode cX2_worthAbove 83 = .ok (.iload_n 3, 1) := by decide +kernel
theorem dX2_worthAbove_84 : decode cX2_worthAbove 84 = .ok (.invokevirtual 43, 3) := by decide +kernel
theorem dX2_worthAbove_87 : decode cX2_worthAbove 87 = .ok (.istore 4, 2) := by decide +kernel
theorem dX2_worthAbove_89 : decode cX2_worthAbove 89 = .ok (.iinc 5 1, 3) := by decide +kernel
theorem dX2_worthAbove_92 : decode cX2_worthAbove 92 = .ok (.iinc 8 1, 3) := by decide +kernel
theorem dX2_worthAbove_95 : decode cX2_worthAbove 95 = .ok (.goto (-80), 3) := by decide +kernel
theorem dX2_worthAbove_98 : decode cX2_worthAbove 98 = .ok (.iload 4, 2) := by decide +kernel
theorem dX2_worthAbove_100 : decode cX2_worthAbove 100 = .ok (.i2l, 1) := by decide +kernel
theorem dX2_worthAbove_101 : decode cX2_worthAbove 101 = .ok (.lload 6, 2) := by decide +kernel
theorem dX2_worthAbove_103 : decode cX2_worthAbove 103 = .ok (.lmul, 1) := by decide +kernel
theorem dX2_worthAbove_104 : decode cX2_worthAbove 104 = .ok (.lreturn, 1) := by decide +kernel
theorem dX2_bestSet_0 : decode cX2_bestSet 0 = .ok (.iconst 0, 1) := by decide +kernel
theorem dX2_bestSet_1 : decode cX2_bestSet 1 = .ok (.istore_n 3, 1) := by decide +kernel
theorem dX2_bestSet_2 : decode cX2_bestSet 2 = .ok (.ldc2_w 47, 3) := by decide +kernel
theorem dX2_bestSet_5 : decode cX2_bestSet 5 = .ok (.lstore 4, 2) := by decide +kernel
theorem dX2_bestSet_7 : decode cX2_bestSet 7 = .ok (.iconst 0, 1) := by decide +kernel
theorem dX2_bestSet_8 : decode cX2_bestSet 8 = .ok (.istore 6, 2) := by decide +kernel
theorem dX2_bestSet_10 : decode cX2_bestSet 10 = .ok (.iload 6, 2) := by decide +kernel
theorem dX2_bestSet_12 : decode cX2_bestSet 12 = .ok (.iconst 1, 1) := by decide +kernel
theorem dX2_bestSet_13 : decode cX2_bestSet 13 = .ok (.aload_n 0, 1) := by decide +kernel
theorem dX2_bestSet_14 : decode cX2_bestSet 14 = .ok (.getfield 24, 3) := by decide +kernel
theorem dX2_bestSet_17 : decode cX2_bestSet 17 = .ok (.ishl, 1) := by decide +kernel
theorem dX2_bestSet_18 : decode cX2_bestSet 18 = .ok (.if_icmp .ge 82, 3) := by decide +kernel
theorem dX2_bestSet_21 : decode cX2_bestSet 21 = .ok (.iload 6, 2) := by decide +kernel
theorem dX2_bestSet_23 : decode cX2_bestSet 23 = .ok (.invokestatic 49, 3) := by decide +kernel
theorem dX2_bestSet_26 : decode cX2_bestSet 26 = .ok (.istore 7, 2) := by decide +kernel
theorem dX2_bestSet_28 : decode cX2_bestSet 28 = .ok (.aload_n 0, 1) := by decide +kernel
theorem dX2_bestSet_29 : decode cX2_bestSet 29 = .ok (.aload_n 1, 1) := by decide +kernel
theorem dX2_bestSet_30 : decode cX2_bestSet 30 = .ok (.iload 6, 2) := by decide +kernel
theorem dX2_bestSet_32 : decode cX2_bestSet 32 = .ok (.iload_n 2, 1) := by decide +kernel
theorem dX2_bestSet_33 : decode cX2_bestSet 33 = .ok (.invokevirtual 55, 3) := by decide +kernel
theorem dX2_bestSet_36 : decode cX2_bestSet 36 = .ok (.ldc2_w 59, 3) := by decide +kernel
theorem dX2_bestSet_39 : decode cX2_bestSet 39 = .ok (.bipush 8, 2) := by decide +kernel
theorem dX2_bestSet_41 : decode cX2_bestSet 41 = .ok (.iload 7, 2) := by decide +kernel
theorem dX2_bestSet_43 : decode cX2_bestSet 43 = .ok (.isub, 1) := by decide +kernel
theorem dX2_bestSet_44 : decode cX2_bestSet 44 = .ok (.invokestatic 61, 3) := by decide +kernel
theorem dX2_bestSet_47 : decode cX2_bestSet 47 = .ok (.lmul, 1) := by decide +kernel
theorem dX2_bestSet_48 : decode cX2_bestSet 48 = .ok (.lstore 8, 2) := by decide +kernel
theorem dX2_bestSet_50 : decode cX2_bestSet 50 = .ok (.iload 7, 2) := by decide +kernel
theorem dX2_bestSet_52 : decode cX2_bestSet 52 = .ok (.iload_n 3, 1) := by decide +kernel
theorem dX2_bestSet_53 : decode cX2_bestSet 53 = .ok (.invokestatic 49, 3) := by decide +kernel
theorem dX2_bestSet_56 : decode cX2_bestSet 56 = .ok (.if_icmp .ge 7, 3) := by decide +kernel
theorem dX2_bestSet_59 : decode cX2_bestSet 59 = .ok (.iconst 1, 1) := by decide +kernel
theorem dX2_bestSet_60 : decode cX2_bestSet 60 = .ok (.goto 4, 3) := by decide +kernel
theorem dX2_bestSet_63 : decode cX2_bestSet 63 = .ok (.iconst 0, 1) := by decide +kernel
theorem dX2_bestSet_64 : decode cX2_bestSet 64 = .ok (.istore 10, 2) := by decide +kernel
theorem dX2_bestSet_66 : decode cX2_bestSet 66 = .ok (.lload 8, 2) := by decide +kernel
theorem dX2_bestSet_68 : decode cX2_bestSet 68 = .ok (.lload 4, 2) := by decide +kernel
theorem dX2_bestSet_70 : decode cX2_bestSet 70 = .ok (.lcmp, 1) := by decide +kernel
theorem dX2_bestSet_71 : decode cX2_bestSet 71 = .ok (.ifCond .gt 16, 3) := by decide +kernel
theorem dX2_bestSet_74 : decode cX2_bestSet 74 = .ok (.lload 8, 2) := by decide +kernel
theorem dX2_bestSet_76 : decode cX2_bestSet 76 = .ok (.lload 4, 2) := by decide +kernel
theorem dX2_bestSet_78 : decode cX2_bestSet 78 = .ok (.lcmp, 1) := by decide +kernel
theorem dX2_bestSet_79 : decode cX2_bestSet 79 = .ok (.ifCond .ne 15, 3) := by decide +kernel
theorem dX2_bestSet_82 : decode cX2_bestSet 82 = .ok (.iload 10, 2) := by decide +kernel
theorem dX2_bestSet_84 : decode cX2_bestSet 84 = .ok (.ifCond .eq 10, 3) := by decide +kernel
theorem dX2_bestSet_87 : decode cX2_bestSet 87 = .ok (.lload 8, 2) := by decide +kernel
theorem dX2_bestSet_89 : decode cX2_bestSet 89 = .ok (.lstore 4, 2) := by decide +kernel
theorem dX2_bestSet_91 : decode cX2_bestSet 91 = .ok (.iload 6, 2) := by decide +kernel
theorem dX2_bestSet_93 : decode cX2_bestSet 93 = .ok (.istore_n 3, 1) := by decide +kernel
theorem dX2_bestSet_94 : decode cX2_bestSet 94 = .ok (.iinc 6 1, 3) := by decide +kernel
theorem dX2_bestSet_97 : decode cX2_bestSet 97 = .ok (.goto (-87), 3) := by decide +kernel
theorem dX2_bestSet_100 : decode cX2_bestSet 100 = .ok (.iload_n 3, 1) := by decide +kernel
theorem dX2_bestSet_101 : decode cX2_bestSet 101 = .ok (.ireturn, 1) := by decide +kernel
theorem dX2_mixInto_0 : decode cX2_mixInto 0 = .ok (.lload_n 1, 1) := by decide +kernel
theorem dX2_mixInto_1 : decode cX2_mixInto 1 = .ok (.lstore_n 3, 1) := by decide +kernel
theorem dX2_mixInto_2 : decode cX2_mixInto 2 = .ok (.iconst 0, 1) := by decide +kernel
theorem dX2_mixInto_3 : decode cX2_mixInto 3 = .ok (.istore 5, 2) := by decide +kernel
theorem dX2_mixInto_5 : decode cX2_mixInto 5 = .ok (.iload 5, 2) := by decide +kernel
theorem dX2_mixInto_7 : decode cX2_mixInto 7 = .ok (.aload_n 0, 1) := by decide +kernel
theorem dX2_mixInto_8 : decode cX2_mixInto 8 = .ok (.getfield 24, 3) := by decide +kernel
theorem dX2_mixInto_11 : decode cX2_mixInto 11 = .ok (.if_icmp .ge 57, 3) := by decide +kernel
theorem dX2_mixInto_14 : decode cX2_mixInto 14 = .ok (.aload_n 0, 1) := by decide +kernel
theorem dX2_mixInto_15 : decode cX2_mixInto 15 = .ok (.getfield 11, 3) := by decide +kernel
theorem dX2_mixInto_18 : decode cX2_mixInto 18 = .ok (.iload 5, 2) := by decide +kernel
theorem dX2_mixInto_20 : decode cX2_mixInto 20 = .ok (.aaload, 1) := by decide +kernel
theorem dX2_mixInto_21 : decode cX2_mixInto 21 = .ok (.ifnull 47, 3) := by decide +kernel
theorem dX2_mixInto_24 : decode cX2_mixInto 24 = .ok (.lload_n 3, 1) := by decide +kernel
theorem dX2_mixInto_25 : decode cX2_mixInto 25 = .ok (.aload_n 0, 1) := by decide +kernel
theorem dX2_mixInto_26 : decode cX2_mixInto 26 = .ok (.getfield 11, 3) := by decide +kernel
theorem dX2_mixInto_29 : decode cX2_mixInto 29 = .ok (.iload 5, 2) := by decide +kernel
theorem dX2_mixInto_31 : decode cX2_mixInto 31 = .ok (.aaload, 1) := by decide +kernel
theorem dX2_mixInto_32 : decode cX2_mixInto 32 = .ok (.getfield 65, 3) := by decide +kernel
theorem dX2_mixInto_35 : decode cX2_mixInto 35 = .ok (.i2l, 1) := by decide +kernel
theorem dX2_mixInto_36 : decode cX2_mixInto 36 = .ok (.invokestatic 68, 3) := by decide +kernel
theorem dX2_mixInto_39 : decode cX2_mixInto 39 = .ok (.aload_n 0, 1) := by decide +kernel
theorem dX2_mixInto_40 : decode cX2_mixInto 40 = .ok (.getfield 17, 3) := by decide +kernel
theorem dX2_mixInto_43 : decode cX2_mixInto 43 = .ok (.iload 5, 2) := by decide +kernel
theorem dX2_mixInto_45 : decode cX2_mixInto 45 = .ok (.iaload, 1) := by decide +kernel
theorem dX2_mixInto_46 : decode cX2_mixInto 46 = .ok (.i2l, 1) := by decide +kernel
theorem dX2_mixInto_47 : decode cX2_mixInto 47 = .ok (.invokestatic 68, 3) := by decide +kernel
theorem dX2_mixInto_50 : decode cX2_mixInto 50 = .ok (.aload_n 0, 1) := by decide +kernel
theorem dX2_mixInto_51 : decode cX2_mixInto 51 = .ok (.getfield 21, 3) := by decide +kernel
theorem dX2_mixInto_54 : decode cX2_mixInto 54 = .ok (.iload 5, 2) := by decide +kernel
theorem dX2_mixInto_56 : decode cX2_mixInto 56 = .ok (.iaload, 1) := by decide +kernel
theorem dX2_mixInto_57 : decode cX2_mixInto 57 = .ok (.i2l, 1) := by decide +kernel
theorem dX2_mixInto_58 : decode cX2_mixInto 58 = .ok (.invokestatic 68, 3) := by decide +kernel
theorem dX2_mixInto_61 : decode cX2_mixInto 61 = .ok (.lstore_n 3, 1) := by decide +kernel
theorem dX2_mixInto_62 : decode cX2_mixInto 62 = .ok (.iinc 5 1, 3) := by decide +kernel
theorem dX2_mixInto_65 : decode cX2_mixInto 65 = .ok (.goto (-60), 3) := by decide +kernel
theorem dX2_mixInto_68 : decode cX2_mixInto 68 = .ok (.lload_n 3, 1) := by decide +kernel
theorem dX2_mixInto_69 : decode cX2_mixInto 69 = .ok (.lreturn, 1) := by decide +kernel
theorem dX3_init_0 : decode cX3_init 0 = .ok (.aload_n 0, 1) := by decide +kernel
theorem dX3_init_1 : decode cX3_init 1 = .ok (.invokespecial 3, 3) := by decide +kernel
theorem dX3_init_4 : decode cX3_init 4 = .ok (.aload_n 0, 1) := by decide +kernel
theorem dX3_init_5 : decode cX3_init 5 = .ok (.bipush 10, 2) := by decide +kernel
theorem dX3_init_7 : decode cX3_init 7 = .ok (.newarray .int, 2) := by decide +kernel
theorem dX3_init_9 : decode cX3_init 9 = .ok (.putfield 9, 3) := by decide +kernel
theorem dX3_init_12 : decode cX3_init 12 = .ok (.aload_n 0, 1) := by decide +kernel
theorem dX3_init_13 : decode cX3_init 13 = .ok (.bipush 10, 2) := by decide +kernel
theorem dX3_init_15 : decode cX3_init 15 = .ok (.newarray .int, 2) := by decide +kernel
theorem dX3_init_17 : decode cX3_init 17 = .ok (.putfield 15, 3) := by decide +kernel
theorem dX3_init_20 : decode cX3_init 20 = .ok (.aload_n 0, 1) := by decide +kernel
theorem dX3_init_21 : decode cX3_init 21 = .ok (.bipush 8, 2) := by decide +kernel
theorem dX3_init_23 : decode cX3_init 23 = .ok (.newarray .int, 2) := by decide +kernel
theorem dX3_init_25 : decode cX3_init 25 = .ok (.putfield 18, 3) := by decide +kernel
theorem dX3_init_28 : decode cX3_init 28 = .ok (.aload_n 0, 1) := by decide +kernel
theorem dX3_init_29 : decode cX3_init 29 = .ok (.bipush 8, 2) := by decide +kernel
theorem dX3_init_31 : decode cX3_init 31 = .ok (.newarray .int, 2) := by decide +kernel
theorem dX3_init_33 : decode cX3_init 33 = .ok (.putfield 21, 3) := by decide +kernel
theorem dX3_init_36 : decode cX3_init 36 = .ok (.return_, 1) := by decide +kernel
theorem dX3_add_0 : decode cX3_add 0 = .ok (.aload_n 0, 1) := by decide +kernel
theorem dX3_add_1 : decode cX3_add 1 = .ok (.getfield 24, 3) := by decide +kernel
theorem dX3_add_4 : decode cX3_add 4 = .ok (.aload_n 0, 1) := by decide +kernel
theorem dX3_add_5 : decode cX3_add 5 = .ok (.getfield 9, 3) := by decide +kernel
theorem dX3_add_8 : decode cX3_add 8 = .ok (.arraylength, 1) := by decide +kernel
theorem dX3_add_9 : decode cX3_add 9 = .ok (.if_icmp .lt 6, 3) := by decide +kernel
theorem dX3_add_12 : decode cX3_add 12 = .ok (.bipush (-104), 2) := by decide +kernel
theorem dX3_add_14 : decode cX3_add 14 = .ok (.ireturn, 1) := by decide +kernel
theorem dX3_add_15 : decode cX3_add 15 = .ok (.aload_n 0, 1) := by decide +kernel
theorem dX3_add_16 : decode cX3_add 16 = .ok (.getfield 9, 3) := by decide +kernel
theorem dX3_add_19 : decode cX3_add 19 = .ok (.aload_n 0, 1) := by decide +kernel
theorem dX3_add_20 : decode cX3_add 20 = .ok (.getfield 24, 3) := by decide +kernel
theorem dX3_add_23 : decode cX3_add 23 = .ok (.aload_n 1, 1) := by decide +kernel
theorem dX3_add_24 : decode cX3_add 24 = .ok (.getfield 28, 3) := by decide +kernel
theorem dX3_add_27 : decode cX3_add 27 = .ok (.iastore, 1) := by decide +kernel
theorem dX3_add_28 : decode cX3_add 28 = .ok (.aload_n 0, 1) := by decide +kernel
theorem dX3_add_29 : decode cX3_add 29 = .ok (.getfield 15, 3) := by decide +kernel
theorem dX3_add_32 : decode cX3_add 32 = .ok (.aload_n 0, 1) := by decide +kernel
theorem dX3_add_33 : decode cX3_add 33 = .ok (.getfield 24, 3) := by decide +kernel
theorem dX3_add_36 : decode cX3_add 36 = .ok (.aload_n 2, 1) := by decide +kernel
theorem dX3_add_37 : decode cX3_add 37 = .ok (.getfield 28, 3) := by decide +kernel
theorem dX3_add_40 : decode cX3_add 40 = .ok (.iastore, 1) := by decide +kernel
theorem dX3_add_41 : decode cX3_add 41 = .ok (.aload_n 0, 1) := by decide +kernel
theorem dX3_add_42 : decode cX3_add 42 = .ok (.dup, 1) := by decide +kernel
theorem dX3_add_43 : decode cX3_add 43 = .ok (.getfield 24, 3) := by decide +kernel
theorem dX3_add_46 : decode cX3_add 46 = .ok (.iconst 1, 1) := by decide +kernel
theorem dX3_add_47 : decode cX3_add 47 = .ok (.iadd, 1) := by decide +kernel
theorem dX3_add_48 : decode cX3_add 48 = .ok (.putfield 24, 3) := by decide +kernel
theorem dX3_add_51 : decode cX3_add 51 = .ok (.aload_n 0, 1) := by decide +kernel
theorem dX3_add_52 : decode cX3_add 52 = .ok (.getfield 24, 3) := by decide +kernel
theorem dX3_add_55 : decode cX3_add 55 = .ok (.ireturn, 1) := by decide +kernel
theorem dX3_keep_0 : decode cX3_keep 0 = .ok (.aload_n 0, 1) := by decide +kernel
theorem dX3_keep_1 : decode cX3_keep 1 = .ok (.aload_n 0, 1) := by decide +kernel
theorem dX3_keep_2 : decode cX3_keep 2 = .ok (.getfield 24, 3) := by decide +kernel
theorem dX3_keep_5 : decode cX3_keep 5 = .ok (.putfield 33, 3) := by decide +kernel
theorem dX3_keep_8 : decode cX3_keep 8 = .ok (.return_, 1) := by decide +kernel
theorem dX3_goBack_0 : decode cX3_goBack 0 = .ok (.aload_n 0, 1) := by decide +kernel
theorem dX3_goBack_1 : decode cX3_goBack 1 = .ok (.aload_n 0, 1) := by decide +kernel
theorem dX3_goBack_2 : decode cX3_goBack 2 = .ok (.getfield 33, 3) := by decide +kernel
theorem dX3_goBack_5 : decode cX3_goBack 5 = .ok (.putfield 24, 3) := by decide +kernel
theorem dX3_goBack_8 : decode cX3_goBack 8 = .ok (.return_, 1) := by decide +kernel
theorem dX3_hasSet_0 : decode cX3_hasSet 0 = .ok (.iload_n 1, 1) := by decide +kernel
theorem dX3_hasSet_1 : decode cX3_hasSet 1 = .ok (.ifCond .lt 17, 3) := by decide +kernel
theorem dX3_hasSet_4 : decode cX3_hasSet 4 = .ok (.iload_n 1, 1) := by decide +kernel
theorem dX3_hasSet_5 : decode cX3_hasSet 5 = .ok (.iconst 1, 1) := by decide +kernel
theorem dX3_hasSet_6 : decode cX3_hasSet 6 = .ok (.aload_n 0, 1) := by decide +kernel
theorem dX3_hasSet_7 : decode cX3_hasSet 7 = .ok (.getfield 24, 3) := by decide +kernel
theorem dX3_hasSet_10 : decode cX3_hasSet 10 = .ok (.ishl, 1) := by decide +kernel
theorem dX3_hasSet_11 : decode cX3_hasSet 11 = .ok (.if_icmp .ge 7, 3) := by decide +kernel
theorem dX3_hasSet_14 : decode cX3_hasSet 14 = .ok (.iconst 1, 1) := by decide +kernel
theorem dX3_hasSet_15 : decode cX3_hasSet 15 = .ok (.goto 4, 3) := by decide +kernel
theorem dX3_hasSet_18 : decode cX3_hasSet 18 = .ok (.iconst 0, 1) := by decide +kernel
theorem dX3_hasSet_19 : decode cX3_hasSet 19 = .ok (.ireturn, 1) := by decide +kernel
theorem dX3_follow_0 : decode cX3_follow 0 = .ok (.iconst 0, 1) := by decide +kernel
theorem dX3_follow_1 : decode cX3_follow 1 = .ok (.istore 4, 2) := by decide +kernel
theorem dX3_follow_3 : decode cX3_follow 3 = .ok (.iload 4, 2) := by decide +kernel
theorem dX3_follow_5 : decode cX3_follow 5 = .ok (.aload_n 2, 1) := by decide +kernel
theorem dX3_follow_6 : decode cX3_follow 6 = .ok (.arraylength, 1) := by decide +kernel
theorem dX3_follow_7 : decode cX3_follow 7 = .ok (.if_icmp .ge 30, 3) := by decide +kernel
theorem dX3_follow_10 : decode cX3_follow 10 = .ok (.aload_n 2, 1) := by decide +kernel
theorem dX3_follow_11 : decode cX3_follow 11 = .ok (.iload 4, 2) := by decide +kernel
theorem dX3_follow_13 : decode cX3_follow 13 = .ok (.aaload, 1) := by decide +kernel
theorem dX3_follow_14 : decode cX3_follow 14 = .ok (.ifnull 23, 3) := by decide +kernel
theorem dX3_follow_17 : decode cX3_follow 17 = .ok (.aload_n 0, 1) := by decide +kernel
theorem dX3_follow_18 : decode cX3_follow 18 = .ok (.getfield 18, 3) := by decide +kernel
theorem dX3_follow_21 : decode cX3_follow 21 = .ok (.iload 4, 2) := by decide +kernel
theorem dX3_follow_23 : decode cX3_follow 23 = .ok (.aload_n 2, 1) := by decide +kernel
theorem dX3_follow_24 : decode cX3_follow 24 = .ok (.iload 4, 2) := by decide +kernel
theorem dX3_follow_26 : decode cX3_follow 26 = .ok (.aaload, 1) := by decide +kernel
theorem dX3_follow_27 : decode cX3_follow 27 = .ok (.getfield 36, 3) := by decide +kernel
theorem dX3_follow_30 : decode cX3_follow 30 = .ok (.iastore, 1) := by decide +kernel
theorem dX3_follow_31 : decode cX3_follow 31 = .ok (.iinc 4 1, 3) := by decide +kernel
theorem dX3_follow_34 : decode cX3_follow 34 = .ok (.goto (-31), 3) := by decide +kernel
theorem dX3_follow_37 : decode cX3_follow 37 = .ok (.iconst 0, 1) := by decide +kernel
theorem dX3_follow_38 : decode cX3_follow 38 = .ok (.istore 4, 2) := by decide +kernel
theorem dX3_follow_40 : decode cX3_follow 40 = .ok (.iconst 0, 1) := by decide +kernel
theorem dX3_follow_41 : decode cX3_follow 41 = .ok (.istore 5, 2) := by decide +kernel
theorem dX3_follow_43 : decode cX3_follow 43 = .ok (.iload 5, 2) := by decide +kernel
theorem dX3_follow_45 : decode cX3_follow 45 = .ok (.aload_n 0, 1) := by decide +kernel
theorem dX3_follow_46 : decode cX3_follow 46 = .ok (.getfield 24, 3) := by decide +kernel
theorem dX3_follow_49 : decode cX3_follow 49 = .ok (.if_icmp .ge 87, 3) := by decide +kernel
theorem dX3_follow_52 : decode cX3_follow 52 = .ok (.iload_n 1, 1) := by decide +kernel
theorem dX3_follow_53 : decode cX3_follow 53 = .ok (.iload 5, 2) := by decide +kernel
theorem dX3_follow_55 : decode cX3_follow 55 = .ok (.ishr, 1) := by decide +kernel
theorem dX3_follow_56 : decode cX3_follow 56 = .ok (.iconst 1, 1) := by decide +kernel
theorem dX3_follow_57 : decode cX3_follow 57 = .ok (.iand, 1) := by decide +kernel
theorem dX3_follow_58 : decode cX3_follow 58 = .ok (.ifCond .eq 72, 3) := by decide +kernel
theorem dX3_follow_61 : decode cX3_follow 61 = .ok (.iload 4, 2) := by decide +kernel
theorem dX3_follow_63 : decode cX3_follow 63 = .ok (.aload_n 0, 1) := by decide +kernel
theorem dX3_follow_64 : decode cX3_follow 64 = .ok (.getfield 9, 3) := by decide +kernel
theorem dX3_follow_67 : decode cX3_follow 67 = .ok (.iload 5, 2) := by decide +kernel
theorem dX3_follow_69 : decode cX3_follow 69 = .ok (.iaload, 1) := by decide +kernel
theorem dX3_follow_70 : decode cX3_follow 70 = .ok (.ishr, 1) := by decide +kernel
theorem dX3_follow_71 : decode cX3_follow 71 = .ok (.iconst 1, 1) := by decide +kernel
theorem dX3_follow_72 : decode cX3_follow 72 = .ok (.iand, 1) := by decide +kernel
theorem dX3_follow_73 : decode cX3_follow 73 = .ok (.ifCond .ne 18, 3) := by decide +kernel
theorem dX3_follow_76 : decode cX3_follow 76 = .ok (.iload 4, 2) := by decide +kernel
theorem dX3_follow_78 : decode cX3_follow 78 = .ok (.aload_n 0, 1) := by decide +kernel
theorem dX3_follow_79 : decode cX3_follow 79 = .ok (.getfield 15, 3) := by decide +kernel
theorem dX3_follow_82 : decode cX3_follow 82 = .ok (.iload 5, 2) := by decide +kernel
theorem dX3_follow_84 : decode cX3_follow 84 = .ok (.iaload, 1) := by decide +kernel
theorem dX3_follow_85 : decode cX3_follow 85 = .ok (.ishr, 1) := by decide +kernel
theorem dX3_follow_86 : decode cX3_follow 86 = .ok (.iconst 1, 1) := by decide +kernel
theorem dX3_follow_87 : decode cX3_follow 87 = .ok (.iand, 1) := by decide +kernel
theorem dX3_follow_88 : decode cX3_follow 88 = .ok (.ifCond .eq 5, 3) := by decide +kernel
theorem dX3_follow_91 : decode cX3_follow 91 = .ok (.iconst 0, 1) := by decide +kernel
theorem dX3_follow_92 : decode cX3_follow 92 = .ok (.ireturn, 1) := by decide +kernel
theorem dX3_follow_93 : decode cX3_follow 93 = .ok (.aload_n 0, 1) := by decide +kernel
theorem dX3_follow_94 : decode cX3_follow 94 = .ok (.aload_n 2, 1) := by decide +kernel
theorem dX3_follow_95 : decode cX3_follow 95 = .ok (.aload_n 0, 1) := by decide +kernel
theorem dX3_follow_96 : decode cX3_follow 96 = .ok (.getfield 9, 3) := by decide +kernel
theorem dX3_follow_99 : decode cX3_follow 99 = .ok (.iload 5, 2) := by decide +kernel
theorem dX3_follow_101 : decode cX3_follow 101 = .ok (.iaload, 1) := by decide +kernel
theorem dX3_follow_102 : decode cX3_follow 102 = .ok (.aaload, 1) := by decide +kernel
theorem dX3_follow_103 : decode cX3_follow 103 = .ok (.aload_n 2, 1) := by decide +kernel
theorem dX3_follow_104 : decode cX3_follow 104 = .ok (.aload_n 0, 1) := by decide +kernel
theorem dX3_follow_105 : decode cX3_follow 105 = .ok (.getfield 15, 3) := by decide +kernel
theorem dX3_follow_108 : decode cX3_follow 108 = .ok (.iload 5, 2) := by decide +kernel
theorem dX3_follow_110 : decode cX3_follow 110 = .ok (.iaload, 1) := by decide +kernel
theorem dX3_follow_111 : decode cX3_follow 111 = .ok (.aaload, 1) := by decide +kernel
theorem dX3_follow_112 : decode cX3_follow 112 = .ok (.iload_n 3, 1) := by decide +kernel
theorem dX3_follow_113 : decode cX3_follow 113 = .ok (.invokevirtual 39, 3) := by decide +kernel
theorem dX3_follow_116 : decode cX3_follow 116 = .ok (.iload 4, 2) := by decide +kernel
theorem dX3_follow_118 : decode cX3_follow 118 = .ok (.iconst 1, 1) := by decide +kernel
theorem dX3_follow_119 : decode cX3_follow 119 = .ok (.aload_n 0, 1) := by decide +kernel
theorem dX3_follow_120 : decode cX3_follow 120 = .ok (.getfield 15, 3) := by decide +kernel
theorem dX3_follow_123 : decode cX3_follow 123 = .ok (.iload 5, 2) := by decide +kernel
theorem dX3_follow_125 : decode cX3_follow 125 = .ok (.iaload, 1) := by decide +kernel
theorem dX3_follow_126 : decode cX3_follow 126 = .ok (.ishl, 1) := by decide +kernel
theorem dX3_follow_127 : decode cX3_follow 127 = .ok (.ior, 1) := by decide +kernel
theorem dX3_follow_128 : decode cX3_follow 128 = .ok (.istore 4, 2) := by decide +kernel
theorem dX3_follow_130 : decode cX3_follow 130 = .ok (.iinc 5 1, 3) := by decide +kernel
theorem dX3_follow_133 : decode cX3_follow 133 = .ok (.goto (-90), 3) := by decide +kernel
theorem dX3_follow_136 : decode cX3_follow 136 = .ok (.iconst 1, 1) := by decide +kernel
theorem dX3_follow_137 : decode cX3_follow 137 = .ok (.ireturn, 1) := by decide +kernel
theorem dX3_countFight_0 : decode cX3_countFight 0 = .ok (.aload_n 1, 1) := by decide +kernel
theorem dX3_countFight_1 : decode cX3_countFight 1 = .ok (.ifnull 54, 3) := by decide +kernel
theorem dX3_countFight_4 : decode cX3_countFight 4 = .ok (.aload_n 2, 1) := by decide +kernel
theorem dX3_countFight_5 : decode cX3_countFight 5 = .ok (.ifnull 50, 3) := by decide +kernel
theorem dX3_countFight_8 : decode cX3_countFight 8 = .ok (.aload_n 0, 1) := by decide +kernel
theorem dX3_countFight_9 : decode cX3_countFight 9 = .ok (.getfield 18, 3) := by decide +kernel
theorem dX3_countFight_12 : decode cX3_countFight 12 = .ok (.aload_n 1, 1) := by decide +kernel
theorem dX3_countFight_13 : decode cX3_countFight 13 = .ok (.getfield 28, 3) := by decide +kernel
theorem dX3_countFight_16 : decode cX3_countFight 16 = .ok (.iaload, 1) := by decide +kernel
theorem dX3_countFight_17 : decode cX3_countFight 17 = .ok (.istore 4, 2) := by decide +kernel
theorem dX3_countFight_19 : decode cX3_countFight 19 = .ok (.aload_n 0, 1) := by decide +kernel
theorem dX3_countFight_20 : decode cX3_countFight 20 = .ok (.getfield 18, 3) := by decide +kernel
theorem dX3_countFight_23 : decode cX3_countFight 23 = .ok (.aload_n 2, 1) := by decide +kernel
theorem dX3_countFight_24 : decode cX3_countFight 24 = .ok (.getfield 28, 3) := by decide +kernel
theorem dX3_countFight_27 : decode cX3_countFight 27 = .ok (.iaload, 1) := by decide +kernel
theorem dX3_countFight_28 : decode cX3_countFight 28 = .ok (.istore 5, 2) := by decide +kernel
theorem dX3_countFight_30 : decode cX3_countFight 30 = .ok (.aload_n 0, 1) := by decide +kernel
theorem dX3_countFight_31 : decode cX3_countFight 31 = .ok (.getfield 18, 3) := by decide +kernel
theorem dX3_countFight_34 : decode cX3_countFight 34 = .ok (.aload_n 1, 1) := by decide +kernel
theorem dX3_countFight_35 : decode cX3_countFight 35 = .ok (.getfield 28, 3) := by decide +kernel
theorem dX3_countFight_38 : decode cX3_countFight 38 = .ok (.aload_n 1, 1) := by decide +kernel
theorem dX3_countFight_39 : decode cX3_countFight 39 = .ok (.getfield 43, 3) := by decide +kernel
theorem dX3_countFight_42 : decode cX3_countFight 42 = .ok (.aload_n 2, 1) := by decide +kernel
theorem dX3_countFight_43 : decode cX3_countFight 43 = .ok (.getfield 43, 3) := by decide +kernel
theorem dX3_countFight_46 : decode cX3_countFight 46 = .ok (.iload 4, 2) := by decide +kernel
theorem dX3_countFight_48 : decode cX3_countFight 48 = .ok (.iload 5, 2) := by decide +kernel
theorem dX3_countFight_50 : decode cX3_countFight 50 = .ok (.iload_n 3, 1) := by decide +kernel
theorem dX3_countFight_51 : decode cX3_countFight 51 = .ok (.invokevirtual 47, 3) := by decide +kernel
theorem dX3_countFight_54 : decode cX3_countFight 54 = .ok (.iastore, 1) := by decide +kernel
theorem dX3_countFight_55 : decode cX3_countFight 55 = .ok (.return_, 1) := by decide +kernel
theorem dX3_followedCount_0 : decode cX3_followedCount 0 = .ok (.aload_n 0, 1) := by decide +kernel
theorem dX3_followedCount_1 : decode cX3_followedCount 1 = .ok (.getfield 18, 3) := by decide +kernel
theorem dX3_followedCount_4 : decode cX3_followedCount 4 = .ok (.aload_n 1, 1) := by decide +kernel
theorem dX3_followedCount_5 : decode cX3_followedCount 5 = .ok (.getfield 28, 3) := by decide +kernel
theorem dX3_followedCount_8 : decode cX3_followedCount 8 = .ok (.iaload, 1) := by decide +kernel
theorem dX3_followedCount_9 : decode cX3_followedCount 9 = .ok (.ireturn, 1) := by decide +kernel
theorem dX3_liesOf_0 : decode cX3_liesOf 0 = .ok (.aload_n 0, 1) := by decide +kernel
theorem dX3_liesOf_1 : decode cX3_liesOf 1 = .ok (.getfield 24, 3) := by decide +kernel
theorem dX3_liesOf_4 : decode cX3_liesOf 4 = .ok (.iload_n 1, 1) := by decide +kernel
theorem dX3_liesOf_5 : decode cX3_liesOf 5 = .ok (.invokestatic 53, 3) := by decide +kernel
theorem dX3_liesOf_8 : decode cX3_liesOf 8 = .ok (.isub, 1) := by decide +kernel
theorem dX3_liesOf_9 : decode cX3_liesOf 9 = .ok (.istore_n 3, 1) := by decide +kernel
theorem dX3_liesOf_10 : decode cX3_liesOf 10 = .ok (.iconst 0, 1) := by decide +kernel
theorem dX3_liesOf_11 : decode cX3_liesOf 11 = .ok (.istore 4, 2) := by decide +kernel
theorem dX3_liesOf_13 : decode cX3_liesOf 13 = .ok (.iload 4, 2) := by decide +kernel
theorem dX3_liesOf_15 : decode cX3_liesOf 15 = .ok (.aload_n 2, 1) := by decide +kernel
theorem dX3_liesOf_16 : decode cX3_liesOf 16 = .ok (.arraylength, 1) := by decide +kernel
theorem dX3_liesOf_17 : decode cX3_liesOf 17 = .ok (.if_icmp .ge 47, 3) := by decide +kernel
theorem dX3_liesOf_20 : decode cX3_liesOf 20 = .ok (.aload_n 2, 1) := by decide +kernel
theorem dX3_liesOf_21 : decode cX3_liesOf 21 = .ok (.iload 4, 2) := by decide +kernel
theorem dX3_liesOf_23 : decode cX3_liesOf 23 = .ok (.aaload, 1) := by decide +kernel
theorem dX3_liesOf_24 : decode cX3_liesOf 24 = .ok (.ifnull 40, 3) := by decide +kernel
theorem dX3_liesOf_27 : decode cX3_liesOf 27 = .ok (.aload_n 2, 1) := by decide +kernel
theorem dX3_liesOf_28 : decode cX3_liesOf 28 = .ok (.iload 4, 2) := by decide +kernel
theorem dX3_liesOf_30 : decode cX3_liesOf 30 = .ok (.aaload, 1) := by decide +kernel
theorem dX3_liesOf_31 : decode cX3_liesOf 31 = .ok (.getfield 59, 3) := by decide +kernel
theorem dX3_liesOf_34 : decode cX3_liesOf 34 = .ok (.iconst (-1), 1) := by decide +kernel
theorem dX3_liesOf_35 : decode cX3_liesOf 35 = .ok (.if_icmp .eq 23, 3) := by decide +kernel
theorem dX3_liesOf_38 : decode cX3_liesOf 38 = .ok (.aload_n 2, 1) := by decide +kernel
theorem dX3_liesOf_39 : decode cX3_liesOf 39 = .ok (.iload 4, 2) := by decide +kernel
theorem dX3_liesOf_41 : decode cX3_liesOf 41 = .ok (.aaload, 1) := by decide +kernel
theorem dX3_liesOf_42 : decode cX3_liesOf 42 = .ok (.getfield 59, 3) := by decide +kernel
theorem dX3_liesOf_45 : decode cX3_liesOf 45 = .ok (.aload_n 0, 1) := by decide +kernel
theorem dX3_liesOf_46 : decode cX3_liesOf 46 = .ok (.getfield 18, 3) := by decide +kernel
theorem dX3_liesOf_49 : decode cX3_liesOf 49 = .ok (.iload 4, 2) := by decide +kernel
theorem dX3_liesOf_51 : decode cX3_liesOf 51 = .ok (.iaload, 1) := by decide +kernel
theorem dX3_liesOf_52 : decode cX3_liesOf 52 = .ok (.if_icmp .eq 6, 3) := by decide +kernel
theorem dX3_liesOf_55 : decode cX3_liesOf 55 = .ok (.iinc 3 1, 3) := by decide +kernel
theorem dX3_liesOf_58 : decode cX3_liesOf 58 = .ok (.iinc 4 1, 3) := by decide +kernel
theorem dX3_liesOf_61 : decode cX3_liesOf 61 = .ok (.goto (-48), 3) := by decide +kernel
theorem dX3_liesOf_64 : decode cX3_liesOf 64 = .ok (.iload_n 3, 1) := by decide +kernel
theorem dX3_liesOf_65 : decode cX3_liesOf 65 = .ok (.ireturn, 1) := by decide +kernel
theorem dX3_findFewestLies_0 : decode cX3_findFewestLies 0 = .ok (.aload_n 0, 1) := by decide +kernel
theorem dX3_findFewestLies_1 : decode cX3_findFewestLies 1 = .ok (.bipush 19, 2) := by decide +kernel
theorem dX3_findFewestLies_3 : decode cX3_findFewestLies 3 = .ok (.putfield 62, 3) := by decide +kernel
theorem dX3_findFewestLies_6 : decode cX3_findFewestLies 6 = .ok (.aload_n 0, 1) := by decide +kernel
theorem dX3_findFewestLies_7 : decode cX3_findFewestLies 7 = .ok (.iconst 0, 1) := by decide +kernel
theorem dX3_findFewestLies_8 : decode cX3_findFewestLies 8 = .ok (.putfield 65, 3) := by decide +kernel
theorem dX3_findFewestLies_11 : decode cX3_findFewestLies 11 = .ok (.iconst 0, 1) := by decide +kernel
theorem dX3_findFewestLies_12 : decode cX3_findFewestLies 12 = .ok (.istore_n 3, 1) := by decide +kernel
theorem dX3_findFewestLies_13 : decode cX3_findFewestLies 13 = .ok (.iload_n 3, 1) := by decide +kernel
theorem dX3_findFewestLies_14 : decode cX3_findFewestLies 14 = .ok (.iconst 1, 1) := by decide +kernel
theorem dX3_findFewestLies_15 : decode cX3_findFewestLies 15 = .ok (.aload_n 0, 1) := by decide +kernel
theorem dX3_findFewestLies_16 : decode cX3_findFewestLies 16 = .ok (.getfield 24, 3) := by decide +kernel
theorem dX3_findFewestLies_19 : decode cX3_findFewestLies 19 = .ok (.ishl, 1) := by decide +kernel
theorem dX3_findFewestLies_20 : decode cX3_findFewestLies 20 = .ok (.if_icmp .ge 82, 3) := by decide +kernel
theorem dX3_findFewestLies_23 : decode cX3_findFewestLies 23 = .ok (.aload_n 0, 1) := by decide +kernel
theorem dX3_findFewestLies_24 : decode cX3_findFewestLies 24 = .ok (.iload_n 3, 1) := by decide +kernel
theorem dX3_findFewestLies_25 : decode cX3_findFewestLies 25 = .ok (.aload_n 1, 1) := by decide +kernel
theorem dX3_findFewestLies_26 : decode cX3_findFewestLies 26 = .ok (.iload_n 2, 1) := by decide +kernel
theorem dX3_findFewestLies_27 : decode cX3_findFewestLies 27 = .ok (.invokevirtual 68, 3) := by decide +kernel
theorem dX3_findFewestLies_30 : decode cX3_findFewestLies 30 = .ok (.ifCond .eq 66, 3) := by decide +kernel
theorem dX3_findFewestLies_33 : decode cX3_findFewestLies 33 = .ok (.aload_n 0, 1) := by decide +kernel
theorem dX3_findFewestLies_34 : decode cX3_findFewestLies 34 = .ok (.iload_n 3, 1) := by decide +kernel
theorem dX3_findFewestLies_35 : decode cX3_findFewestLies 35 = .ok (.aload_n 1, 1) := by decide +kernel
theorem dX3_findFewestLies_36 : decode cX3_findFewestLies 36 = .ok (.invokevirtual 72, 3) := by decide +kernel
theorem dX3_findFewestLies_39 : decode cX3_findFewestLies 39 = .ok (.istore 4, 2) := by decide +kernel
theorem dX3_findFewestLies_41 : decode cX3_findFewestLies 41 = .ok (.iload_n 3, 1) := by decide +kernel
theorem dX3_findFewestLies_42 : decode cX3_findFewestLies 42 = .ok (.invokestatic 53, 3) := by decide +kernel
theorem dX3_findFewestLies_45 : decode cX3_findFewestLies 45 = .ok (.aload_n 0, 1) := by decide +kernel
theorem dX3_findFewestLies_46 : decode cX3_findFewestLies 46 = .ok (.getfield 65, 3) := by decide +kernel
theorem dX3_findFewestLies_49 : decode cX3_findFewestLies 49 = .ok (.invokestatic 53, 3) := by decide +kernel
theorem dX3_findFewestLies_52 : decode cX3_findFewestLies 52 = .ok (.if_icmp .le 7, 3) := by decide +kernel
theorem dX3_findFewestLies_55 : decode cX3_findFewestLies 55 = .ok (.iconst 1, 1) := by decide +kernel
theorem dX3_findFewestLies_56 : decode cX3_findFewestLies 56 = .ok (.goto 4, 3) := by decide +kernel
theorem dX3_findFewestLies_59 : decode cX3_findFewestLies 59 = .ok (.iconst 0, 1) := by decide +kernel
theorem dX3_findFewestLies_60 : decode cX3_findFewestLies 60 = .ok (.istore 5, 2) := by decide +kernel
theorem dX3_findFewestLies_62 : decode cX3_findFewestLies 62 = .ok (.iload 4, 2) := by decide +kernel
theorem dX3_findFewestLies_64 : decode cX3_findFewestLies 64 = .ok (.aload_n 0, 1) := by decide +kernel
theorem dX3_findFewestLies_65 : decode cX3_findFewestLies 65 = .ok (.getfield 62, 3) := by decide +kernel
theorem dX3_findFewestLies_68 : decode cX3_findFewestLies 68 = .ok (.if_icmp .lt 17, 3) := by decide +kernel
theorem dX3_findFewestLies_71 : decode cX3_findFewestLies 71 = .ok (.iload 4, 2) := by decide +kernel
theorem dX3_findFewestLies_73 : decode cX3_findFewestLies 73 = .ok (.aload_n 0, 1) := by decide +kernel
theorem dX3_findFewestLies_74 : decode cX3_findFewestLies 74 = .ok (.getfield 62, 3) := by decide +kernel
theorem dX3_findFewestLies_77 : decode cX3_findFewestLies 77 = .ok (.if_icmp .ne 19, 3) := by decide +kernel
theorem dX3_findFewestLies_80 : decode cX3_findFewestLies 80 = .ok (.iload 5, 2) := by decide +kernel
theorem dX3_findFewestLies_82 : decode cX3_findFewestLies 82 = .ok (.ifCond .eq 14, 3) := by decide +kernel
theorem dX3_findFewestLies_85 : decode cX3_findFewestLies 85 = .ok (.aload_n 0, 1) := by decide +kernel
theorem dX3_findFewestLies_86 : decode cX3_findFewestLies 86 = .ok (.iload 4, 2) := by decide +kernel
theorem dX3_findFewestLies_88 : decode cX3_findFewestLies 88 = .ok (.putfield 62, 3) := by decide +kernel
theorem dX3_findFewestLies_91 : decode cX3_findFewestLies 91 = .ok (.aload_n 0, 1) := by decide +kernel
theorem dX3_findFewestLies_92 : decode cX3_findFewestLies 92 = .ok (.iload_n 3, 1) := by decide +kernel
theorem dX3_findFewestLies_93 : decode cX3_findFewestLies 93 = .ok (.putfield 65, 3) := by decide +kernel
theorem dX3_findFewestLies_96 : decode cX3_findFewestLies 96 = .ok (.iinc 3 1, 3) := by decide +kernel
theorem dX3_findFewestLies_99 : decode cX3_findFewestLies 99 = .ok (.goto (-86), 3) := by decide +kernel
theorem dX3_findFewestLies_102 : decode cX3_findFewestLies 102 = .ok (.return_, 1) := by decide +kernel
theorem dX3_greatestCount_0 : decode cX3_greatestCount 0 = .ok (.iconst (-1), 1) := by decide +kernel
theorem dX3_greatestCount_1 : decode cX3_greatestCount 1 = .ok (.istore 5, 2) := by decide +kernel
theorem dX3_greatestCount_3 : decode cX3_greatestCount 3 = .ok (.iconst 0, 1) := by decide +kernel
theorem dX3_greatestCount_4 : decode cX3_greatestCount 4 = .ok (.istore 6, 2) := by decide +kernel
theorem dX3_greatestCount_6 : decode cX3_greatestCount 6 = .ok (.iload 6, 2) := by decide +kernel
theorem dX3_greatestCount_8 : decode cX3_greatestCount 8 = .ok (.iconst 1, 1) := by decide +kernel
theorem dX3_greatestCount_9 : decode cX3_greatestCount 9 = .ok (.aload_n 0, 1) := by decide +kernel
theorem dX3_greatestCount_10 : decode cX3_greatestCount 10 = .ok (.getfield 24, 3) := by decide +kernel
theorem dX3_greatestCount_13 : decode cX3_greatestCount 13 = .ok (.ishl, 1) := by decide +kernel
theorem dX3_greatestCount_14 : decode cX3_greatestCount 14 = .ok (.if_icmp .ge 44, 3) := by decide +kernel
theorem dX3_greatestCount_17 : decode cX3_greatestCount 17 = .ok (.aload_n 0, 1) := by decide +kernel
theorem dX3_greatestCount_18 : decode cX3_greatestCount 18 = .ok (.iload 6, 2) := by decide +kernel
theorem dX3_greatestCount_20 : decode cX3_greatestCount 20 = .ok (.aload_n 3, 1) := by decide +kernel
theorem dX3_greatestCount_21 : decode cX3_greatestCount 21 = .ok (.iload 4, 2) := by decide +kernel
theorem dX3_greatestCount_23 : decode cX3_greatestCount 23 = .ok (.invokevirtual 68, 3) := by decide +kernel
theorem dX3_greatestCount_26 : decode cX3_greatestCount 26 = .ok (.ifCond .eq 26, 3) := by decide +kernel
theorem dX3_greatestCount_29 : decode cX3_greatestCount 29 = .ok (.aload_n 0, 1) := by decide +kernel
theorem dX3_greatestCount_30 : decode cX3_greatestCount 30 = .ok (.iload 6, 2) := by decide +kernel
theorem dX3_greatestCount_32 : decode cX3_greatestCount 32 = .ok (.aload_n 3, 1) := by decide +kernel
theorem dX3_greatestCount_33 : decode cX3_greatestCount 33 = .ok (.invokevirtual 72, 3) := by decide +kernel
theorem dX3_greatestCount_36 : decode cX3_greatestCount 36 = .ok (.iload_n 2, 1) := by decide +kernel
theorem dX3_greatestCount_37 : decode cX3_greatestCount 37 = .ok (.if_icmp .gt 15, 3) := by decide +kernel
theorem dX3_greatestCount_40 : decode cX3_greatestCount 40 = .ok (.iload 5, 2) := by decide +kernel
theorem dX3_greatestCount_42 : decode cX3_greatestCount 42 = .ok (.aload_n 0, 1) := by decide +kernel
theorem dX3_greatestCount_43 : decode cX3_greatestCount 43 = .ok (.aload_n 1, 1) := by decide +kernel
theorem dX3_greatestCount_44 : decode cX3_greatestCount 44 = .ok (.invokevirtual 76, 3) := by decide +kernel
theorem dX3_greatestCount_47 : decode cX3_greatestCount 47 = .ok (.invokestatic 80, 3) := by decide +kernel
theorem dX3_greatestCount_50 : decode cX3_greatestCount 50 = .ok (.istore 5, 2) := by decide +kernel
theorem dX3_greatestCount_52 : decode cX3_greatestCount 52 = .ok (.iinc 6 1, 3) := by decide +kernel
theorem dX3_greatestCount_55 : decode cX3_greatestCount 55 = .ok (.goto (-49), 3) := by decide +kernel
theorem dX3_greatestCount_58 : decode cX3_greatestCount 58 = .ok (.iload 5, 2) := by decide +kernel
theorem dX3_greatestCount_60 : decode cX3_greatestCount 60 = .ok (.ireturn, 1) := by decide +kernel
theorem dX3_fewestWithout_0 : decode cX3_fewestWithout 0 = .ok (.iconst 0, 1) := by decide +kernel
theorem dX3_fewestWithout_1 : decode cX3_fewestWithout 1 = .ok (.istore 4, 2) := by decide +kernel
theorem dX3_fewestWithout_3 : decode cX3_fewestWithout 3 = .ok (.iconst 0, 1) := by decide +kernel
theorem dX3_fewestWithout_4 : decode cX3_fewestWithout 4 = .ok (.istore 5, 2) := by decide +kernel
theorem dX3_fewestWithout_6 : decode cX3_fewestWithout 6 = .ok (.iload 5, 2) := by decide +kernel
theorem dX3_fewestWithout_8 : decode cX3_fewestWithout 8 = .ok (.iconst 1, 1) := by decide +kernel
theorem dX3_fewestWithout_9 : decode cX3_fewestWithout 9 = .ok (.aload_n 0, 1) := by decide +kernel
theorem dX3_fewestWithout_10 : decode cX3_fewestWithout 10 = .ok (.getfield 24, 3) := by decide +kernel
theorem dX3_fewestWithout_13 : decode cX3_fewestWithout 13 = .ok (.ishl, 1) := by decide +kernel
theorem dX3_fewestWithout_14 : decode cX3_fewestWithout 14 = .ok (.if_icmp .ge 46, 3) := by decide +kernel
theorem dX3_fewestWithout_17 : decode cX3_fewestWithout 17 = .ok (.iload 5, 2) := by decide +kernel
theorem dX3_fewestWithout_19 : decode cX3_fewestWithout 19 = .ok (.iload_n 1, 1) := by decide +kernel
theorem dX3_fewestWithout_20 : decode cX3_fewestWithout 20 = .ok (.ishr, 1) := by decide +kernel
theorem dX3_fewestWithout_21 : decode cX3_fewestWithout 21 = .ok (.iconst 1, 1) := by decide +kernel
theorem dX3_fewestWithout_22 : decode cX3_fewestWithout 22 = .ok (.iand, 1) := by decide +kernel
theorem dX3_fewestWithout_23 : decode cX3_fewestWithout 23 = .ok (.ifCond .ne 31, 3) := by decide +kernel
theorem dX3_fewestWithout_26 : decode cX3_fewestWithout 26 = .ok (.aload_n 0, 1) := by decide +kernel
theorem dX3_fewestWithout_27 : decode cX3_fewestWithout 27 = .ok (.iload 5, 2) := by decide +kernel
theorem dX3_fewestWithout_29 : decode cX3_fewestWithout 29 = .ok (.aload_n 2, 1) := by decide +kernel
theorem dX3_fewestWithout_30 : decode cX3_fewestWithout 30 = .ok (.iload_n 3, 1) := by decide +kernel
theorem dX3_fewestWithout_31 : decode cX3_fewestWithout 31 = .ok (.invokevirtual 68, 3) := by decide +kernel
theorem dX3_fewestWithout_34 : decode cX3_fewestWithout 34 = .ok (.ifCond .eq 20, 3) := by decide +kernel
theorem dX3_fewestWithout_37 : decode cX3_fewestWithout 37 = .ok (.aload_n 0, 1) := by decide +kernel
theorem dX3_fewestWithout_38 : decode cX3_fewestWithout 38 = .ok (.iload 5, 2) := by decide +kernel
theorem dX3_fewestWithout_40 : decode cX3_fewestWithout 40 = .ok (.aload_n 2, 1) := by decide +kernel
theorem dX3_fewestWithout_41 : decode cX3_fewestWithout 41 = .ok (.invokevirtual 72, 3) := by decide +kernel
theorem dX3_fewestWithout_44 : decode cX3_fewestWithout 44 = .ok (.aload_n 0, 1) := by decide +kernel
theorem dX3_fewestWithout_45 : decode cX3_fewestWithout 45 = .ok (.getfield 62, 3) := by decide +kernel
theorem dX3_fewestWithout_48 : decode cX3_fewestWithout 48 = .ok (.if_icmp .ne 6, 3) := by decide +kernel
theorem dX3_fewestWithout_51 : decode cX3_fewestWithout 51 = .ok (.iinc 4 1, 3) := by decide +kernel
theorem dX3_fewestWithout_54 : decode cX3_fewestWithout 54 = .ok (.iinc 5 1, 3) := by decide +kernel
theorem dX3_fewestWithout_57 : decode cX3_fewestWithout 57 = .ok (.goto (-51), 3) := by decide +kernel
theorem dX3_fewestWithout_60 : decode cX3_fewestWithout 60 = .ok (.iload 4, 2) := by decide +kernel
theorem dX3_fewestWithout_62 : decode cX3_fewestWithout 62 = .ok (.ireturn, 1) := by decide +kernel
theorem dX3_learntOdds_0 : decode cX3_learntOdds 0 = .ok (.lconst 0, 1) := by decide +kernel
theorem dX3_learntOdds_1 : decode cX3_learntOdds 1 = .ok (.lstore 5, 2) := by decide +kernel
theorem dX3_learntOdds_3 : decode cX3_learntOdds 3 = .ok (.lconst 0, 1) := by decide +kernel
theorem dX3_learntOdds_4 : decode cX3_learntOdds 4 = .ok (.lstore 7, 2) := by decide +kernel
theorem dX3_learntOdds_6 : decode cX3_learntOdds 6 = .ok (.ldc2_w 86, 3) := by decide +kernel
theorem dX3_learntOdds_9 : decode cX3_learntOdds 9 = .ok (.iload_n 3, 1) := by decide +kernel
theorem dX3_learntOdds_10 : decode cX3_learntOdds 10 = .ok (.invokestatic 88, 3) := by decide +kernel
theorem dX3_learntOdds_13 : decode cX3_learntOdds 13 = .ok (.lstore 9, 2) := by decide +kernel
theorem dX3_learntOdds_15 : decode cX3_learntOdds 15 = .ok (.iconst 0, 1) := by decide +kernel
theorem dX3_learntOdds_16 : decode cX3_learntOdds 16 = .ok (.istore 11, 2) := by decide +kernel
theorem dX3_learntOdds_18 : decode cX3_learntOdds 18 = .ok (.iload 11, 2) := by decide +kernel
theorem dX3_learntOdds_20 : decode cX3_learntOdds 20 = .ok (.i2l, 1) := by decide +kernel
theorem dX3_learntOdds_21 : decode cX3_learntOdds 21 = .ok (.lload 9, 2) := by decide +kernel
theorem dX3_learntOdds_23 : decode cX3_learntOdds 23 = .ok (.lcmp, 1) := by decide +kernel
theorem dX3_learntOdds_24 : decode cX3_learntOdds 24 = .ok (.ifCond .ge 62, 3) := by decide +kernel
theorem dX3_learntOdds_27 : decode cX3_learntOdds 27 = .ok (.aload_n 0, 1) := by decide +kernel
theorem dX3_learntOdds_28 : decode cX3_learntOdds 28 = .ok (.iload 11, 2) := by decide +kernel
theorem dX3_learntOdds_30 : decode cX3_learntOdds 30 = .ok (.invokevirtual 92, 3) := by decide +kernel
theorem dX3_learntOdds_33 : decode cX3_learntOdds 33 = .ok (.aload_n 0, 1) := by decide +kernel
theorem dX3_learntOdds_34 : decode cX3_learntOdds 34 = .ok (.invokevirtual 96, 3) := by decide +kernel
theorem dX3_learntOdds_37 : decode cX3_learntOdds 37 = .ok (.lstore 12, 2) := by decide +kernel
theorem dX3_learntOdds_39 : decode cX3_learntOdds 39 = .ok (.lload 5, 2) := by decide +kernel
theorem dX3_learntOdds_41 : decode cX3_learntOdds 41 = .ok (.lload 12, 2) := by decide +kernel
theorem dX3_learntOdds_43 : decode cX3_learntOdds 43 = .ok (.iconst 5, 1) := by decide +kernel
theorem dX3_learntOdds_44 : decode cX3_learntOdds 44 = .ok (.aload_n 0, 1) := by decide +kernel
theorem dX3_learntOdds_45 : decode cX3_learntOdds 45 = .ok (.getfield 21, 3) := by decide +kernel
theorem dX3_learntOdds_48 : decode cX3_learntOdds 48 = .ok (.aload_n 1, 1) := by decide +kernel
theorem dX3_learntOdds_49 : decode cX3_learntOdds 49 = .ok (.getfield 28, 3) := by decide +kernel
theorem dX3_learntOdds_52 : decode cX3_learntOdds 52 = .ok (.iaload, 1) := by decide +kernel
theorem dX3_learntOdds_53 : decode cX3_learntOdds 53 = .ok (.iadd, 1) := by decide +kernel
theorem dX3_learntOdds_54 : decode cX3_learntOdds 54 = .ok (.aload_n 0, 1) := by decide +kernel
theorem dX3_learntOdds_55 : decode cX3_learntOdds 55 = .ok (.getfield 21, 3) := by decide +kernel
theorem dX3_learntOdds_58 : decode cX3_learntOdds 58 = .ok (.aload_n 2, 1) := by decide +kernel
theorem dX3_learntOdds_59 : decode cX3_learntOdds 59 = .ok (.getfield 28, 3) := by decide +kernel
theorem dX3_learntOdds_62 : decode cX3_learntOdds 62 = .ok (.iaload, 1) := by decide +kernel
theorem dX3_learntOdds_63 : decode cX3_learntOdds 63 = .ok (.isub, 1) := by decide +kernel
theorem dX3_learntOdds_64 : decode cX3_learntOdds 64 = .ok (.i2l, 1) := by decide +kernel
theorem dX3_learntOdds_65 : decode cX3_learntOdds 65 = .ok (.lmul, 1) := by decide +kernel
theorem dX3_learntOdds_66 : decode cX3_learntOdds 66 = .ok (.ladd, 1) := by decide +kernel
theorem dX3_learntOdds_67 : decode cX3_learntOdds 67 = .ok (.lstore 5, 2) := by decide +kernel
theorem dX3_learntOdds_69 : decode cX3_learntOdds 69 = .ok (.lload 7, 2) := by decide +kernel
theorem dX3_learntOdds_71 : decode cX3_learntOdds 71 = .ok (.lload 12, 2) := by decide +kernel
theorem dX3_learntOdds_73 : decode cX3_learntOdds 73 = .ok (.ldc2_w 100, 3) := by decide +kernel
theorem dX3_learntOdds_76 : decode cX3_learntOdds 76 = .ok (.lmul, 1) := by decide +kernel
theorem dX3_learntOdds_77 : decode cX3_learntOdds 77 = .ok (.ladd, 1) := by decide +kernel
theorem dX3_learntOdds_78 : decode cX3_learntOdds 78 = .ok (.lstore 7, 2) := by decide +kernel
theorem dX3_learntOdds_80 : decode cX3_learntOdds 80 = .ok (.iinc 11 1, 3) := by decide +kernel
theorem dX3_learntOdds_83 : decode cX3_learntOdds 83 = .ok (.goto (-65), 3) := by decide +kernel
theorem dX3_learntOdds_86 : decode cX3_learntOdds 86 = .ok (.lload 5, 2) := by decide +kernel
theorem dX3_learntOdds_88 : decode cX3_learntOdds 88 = .ok (.lload 7, 2) := by decide +kernel
theorem dX3_learntOdds_90 : decode cX3_learntOdds 90 = .ok (.iload 4, 2) := by decide +kernel
theorem dX3_learntOdds_92 : decode cX3_learntOdds 92 = .ok (.invokestatic 102, 3) := by decide +kernel
theorem dX3_learntOdds_95 : decode cX3_learntOdds 95 = .ok (.lreturn, 1) := by decide +kernel
theorem dX3_learntGrade_0 : decode cX3_learntGrade 0 = .ok (.lconst 0, 1) := by decide +kernel
theorem dX3_learntGrade_1 : decode cX3_learntGrade 1 = .ok (.lstore 5, 2) := by decide +kernel
theorem dX3_learntGrade_3 : decode cX3_learntGrade 3 = .ok (.lconst 0, 1) := by decide +kernel
theorem dX3_learntGrade_4 : decode cX3_learntGrade 4 = .ok (.lstore 7, 2) := by decide +kernel
theorem dX3_learntGrade_6 : decode cX3_learntGrade 6 = .ok (.ldc2_w 86, 3) := by decide +kernel
theorem dX3_learntGrade_9 : decode cX3_learntGrade 9 = .ok (.iload_n 3, 1) := by decide +kernel
theorem dX3_learntGrade_10 : decode cX3_learntGrade 10 = .ok (.invokestatic 88, 3) := by decide +kernel
theorem dX3_learntGrade_13 : decode cX3_learntGrade 13 = .ok (.lstore 9, 2) := by decide +kernel
theorem dX3_learntGrade_15 : decode cX3_learntGrade 15 = .ok (.iconst 0, 1) := by decide +kernel
theorem dX3_learntGrade_16 : decode cX3_learntGrade 16 = .ok (.istore 11, 2) := by decide +kernel
theorem dX3_learntGrade_18 : decode cX3_learntGrade 18 = .ok (.iload 11, 2) := by decide +kernel
theorem dX3_learntGrade_20 : decode cX3_learntGrade 20 = .ok (.i2l, 1) := by decide +kernel
theorem dX3_learntGrade_21 : decode cX3_learntGrade 21 = .ok (.lload 9, 2) := by decide +kernel
theorem dX3_learntGrade_23 : decode cX3_learntGrade 23 = .ok (.lcmp, 1) := by decide +kernel
theorem dX3_learntGrade_24 : decode cX3_learntGrade 24 = .ok (.ifCond .ge 52, 3) := by decide +kernel
theorem dX3_learntGrade_27 : decode cX3_learntGrade 27 = .ok (.aload_n 0, 1) := by decide +kernel
theorem dX3_learntGrade_28 : decode cX3_learntGrade 28 = .ok (.iload 11, 2) := by decide +kernel
theorem dX3_learntGrade_30 : decode cX3_learntGrade 30 = .ok (.invokevirtual 92, 3) := by decide +kernel
theorem dX3_learntGrade_33 : decode cX3_learntGrade 33 = .ok (.aload_n 0, 1) := by decide +kernel
theorem dX3_learntGrade_34 : decode cX3_learntGrade 34 = .ok (.invokevirtual 96, 3) := by decide +kernel
theorem dX3_learntGrade_37 : decode cX3_learntGrade 37 = .ok (.lstore 12, 2) := by decide +kernel
theorem dX3_learntGrade_39 : decode cX3_learntGrade 39 = .ok (.lload 5, 2) := by decide +kernel
theorem dX3_learntGrade_41 : decode cX3_learntGrade 41 = .ok (.aload_n 0, 1) := by decide +kernel
theorem dX3_learntGrade_42 : decode cX3_learntGrade 42 = .ok (.getfield 21, 3) := by decide +kernel
theorem dX3_learntGrade_45 : decode cX3_learntGrade 45 = .ok (.aload_n 1, 1) := by decide +kernel
theorem dX3_learntGrade_46 : decode cX3_learntGrade 46 = .ok (.getfield 28, 3) := by decide +kernel
theorem dX3_learntGrade_49 : decode cX3_learntGrade 49 = .ok (.iaload, 1) := by decide +kernel
theorem dX3_learntGrade_50 : decode cX3_learntGrade 50 = .ok (.iload_n 2, 1) := by decide +kernel
theorem dX3_learntGrade_51 : decode cX3_learntGrade 51 = .ok (.if_icmp .ne 8, 3) := by decide +kernel
theorem dX3_learntGrade_54 : decode cX3_learntGrade 54 = .ok (.lload 12, 2) := by decide +kernel
theorem dX3_learntGrade_56 : decode cX3_learntGrade 56 = .ok (.goto 4, 3) := by decide +kernel
theorem dX3_learntGrade_59 : decode cX3_learntGrade 59 = .ok (.lconst 0, 1) := by decide +kernel
theorem dX3_learntGrade_60 : decode cX3_learntGrade 60 = .ok (.ladd, 1) := by decide +kernel
theorem dX3_learntGrade_61 : decode cX3_learntGrade 61 = .ok (.lstore 5, 2) := by decide +kernel
theorem dX3_learntGrade_63 : decode cX3_learntGrade 63 = .ok (.lload 7, 2) := by decide +kernel
theorem dX3_learntGrade_65 : decode cX3_learntGrade 65 = .ok (.lload 12, 2) := by decide +kernel
theorem dX3_learntGrade_67 : decode cX3_learntGrade 67 = .ok (.ladd, 1) := by decide +kernel
theorem dX3_learntGrade_68 : decode cX3_learntGrade 68 = .ok (.lstore 7, 2) := by decide +kernel
theorem dX3_learntGrade_70 : decode cX3_learntGrade 70 = .ok (.iinc 11 1, 3) := by decide +kernel
theorem dX3_learntGrade_73 : decode cX3_learntGrade 73 = .ok (.goto (-55), 3) := by decide +kernel
theorem dX3_learntGrade_76 : decode cX3_learntGrade 76 = .ok (.lload 5, 2) := by decide +kernel
theorem dX3_learntGrade_78 : decode cX3_learntGrade 78 = .ok (.lload 7, 2) := by decide +kernel
theorem dX3_learntGrade_80 : decode cX3_learntGrade 80 = .ok (.iload 4, 2) := by decide +kernel
theorem dX3_learntGrade_82 : decode cX3_learntGrade 82 = .ok (.invokestatic 102, 3) := by decide +kernel
theorem dX3_learntGrade_85 : decode cX3_learntGrade 85 = .ok (.lreturn, 1) := by decide +kernel
theorem dX3_grade_0 : decode cX3_grade 0 = .ok (.iload_n 1, 1) := by decide +kernel
theorem dX3_grade_1 : decode cX3_grade 1 = .ok (.istore_n 2, 1) := by decide +kernel
theorem dX3_grade_2 : decode cX3_grade 2 = .ok (.iconst 0, 1) := by decide +kernel
theorem dX3_grade_3 : decode cX3_grade 3 = .ok (.istore_n 3, 1) := by decide +kernel
theorem dX3_grade_4 : decode cX3_grade 4 = .ok (.iload_n 3, 1) := by decide +kernel
theorem dX3_grade_5 : decode cX3_grade 5 = .ok (.aload_n 0, 1) := by decide +kernel
theorem dX3_grade_6 : decode cX3_grade 6 = .ok (.getfield 21, 3) := by decide +kernel
theorem dX3_grade_9 : decode cX3_grade 9 = .ok (.arraylength, 1) := by decide +kernel
theorem dX3_grade_10 : decode cX3_grade 10 = .ok (.if_icmp .ge 24, 3) := by decide +kernel
theorem dX3_grade_13 : decode cX3_grade 13 = .ok (.aload_n 0, 1) := by decide +kernel
theorem dX3_grade_14 : decode cX3_grade 14 = .ok (.getfield 21, 3) := by decide +kernel
theorem dX3_grade_17 : decode cX3_grade 17 = .ok (.iload_n 3, 1) := by decide +kernel
theorem dX3_grade_18 : decode cX3_grade 18 = .ok (.iconst 1, 1) := by decide +kernel
theorem dX3_grade_19 : decode cX3_grade 19 = .ok (.iload_n 2, 1) := by decide +kernel
theorem dX3_grade_20 : decode cX3_grade 20 = .ok (.iconst 3, 1) := by decide +kernel
theorem dX3_grade_21 : decode cX3_grade 21 = .ok (.irem, 1) := by decide +kernel
theorem dX3_grade_22 : decode cX3_grade 22 = .ok (.iadd, 1) := by decide +kernel
theorem dX3_grade_23 : decode cX3_grade 23 = .ok (.iastore, 1) := by decide +kernel
theorem dX3_grade_24 : decode cX3_grade 24 = .ok (.iload_n 2, 1) := by decide +kernel
theorem dX3_grade_25 : decode cX3_grade 25 = .ok (.iconst 3, 1) := by decide +kernel
theorem dX3_grade_26 : decode cX3_grade 26 = .ok (.idiv, 1) := by decide +kernel
theorem dX3_grade_27 : decode cX3_grade 27 = .ok (.istore_n 2, 1) := by decide +kernel
theorem dX3_grade_28 : decode cX3_grade 28 = .ok (.iinc 3 1, 3) := by decide +kernel
theorem dX3_grade_31 : decode cX3_grade 31 = .ok (.goto (-27), 3) := by decide +kernel
theorem dX3_grade_34 : decode cX3_grade 34 = .ok (.return_, 1) := by decide +kernel
theorem dX3_weightOfGrades_0 : decode cX3_weightOfGrades 0 = .ok (.lconst 1, 1) := by decide +kernel
theorem dX3_weightOfGrades_1 : decode cX3_weightOfGrades 1 = .ok (.lstore_n 1, 1) := by decide +kernel
theorem dX3_weightOfGrades_2 : decode cX3_weightOfGrades 2 = .ok (.iconst 0, 1) := by decide +kernel
theorem dX3_weightOfGrades_3 : decode cX3_weightOfGrades 3 = .ok (.istore_n 3, 1) := by decide +kernel
theorem dX3_weightOfGrades_4 : decode cX3_weightOfGrades 4 = .ok (.iload_n 3, 1) := by decide +kernel
theorem dX3_weightOfGrades_5 : decode cX3_weightOfGrades 5 = .ok (.aload_n 0, 1) := by decide +kernel
theorem dX3_weightOfGrades_6 : decode cX3_weightOfGrades 6 = .ok (.getfield 24, 3) := by decide +kernel
theorem dX3_weightOfGrades_9 : decode cX3_weightOfGrades 9 = .ok (.if_icmp .ge 38, 3) := by decide +kernel
theorem dX3_weightOfGrades_12 : decode cX3_weightOfGrades 12 = .ok (.lload_n 1, 1) := by decide +kernel
theorem dX3_weightOfGrades_13 : decode cX3_weightOfGrades 13 = .ok (.iconst 5, 1) := by decide +kernel
theorem dX3_weightOfGrades_14 : decode cX3_weightOfGrades 14 = .ok (.aload_n 0, 1) := by decide +kernel
theorem dX3_weightOfGrades_15 : decode cX3_weightOfGrades 15 = .ok (.getfield 21, 3) := by decide +kernel
theorem dX3_weightOfGrades_18 : decode cX3_weightOfGrades 18 = .ok (.aload_n 0, 1) := by decide +kernel
theorem dX3_weightOfGrades_19 : decode cX3_weightOfGrades 19 = .ok (.getfield 9, 3) := by decide +kernel
theorem dX3_weightOfGrades_22 : decode cX3_weightOfGrades 22 = .ok (.iload_n 3, 1) := by decide +kernel
theorem dX3_weightOfGrades_23 : decode cX3_weightOfGrades 23 = .ok (.iaload, 1) := by decide +kernel
theorem dX3_weightOfGrades_24 : decode cX3_weightOfGrades 24 = .ok (.iaload, 1) := by decide +kernel
theorem dX3_weightOfGrades_25 : decode cX3_weightOfGrades 25 = .ok (.iadd, 1) := by decide +kernel
theorem dX3_weightOfGrades_26 : decode cX3_weightOfGrades 26 = .ok (.aload_n 0, 1) := by decide +kernel
theorem dX3_weightOfGrades_27 : decode cX3_weightOfGrades 27 = .ok (.getfield 21, 3) := by decide +kernel
theorem dX3_weightOfGrades_30 : decode cX3_weightOfGrades 30 = .ok (.aload_n 0, 1) := by decide +kernel
theorem dX3_weightOfGrades_31 : decode cX3_weightOfGrades 31 = .ok (.getfield 15, 3) := by decide +kernel
theorem dX3_weightOfGrades_34 : decode cX3_weightOfGrades 34 = .ok (.iload_n 3, 1) := by decide +kernel
theorem dX3_weightOfGrades_35 : decode cX3_weightOfGrades 35 = .ok (.iaload, 1) := by decide +kernel
theorem dX3_weightOfGrades_36 : decode cX3_weightOfGrades 36 = .ok (.iaload, 1) := by decide +kernel
theorem dX3_weightOfGrades_37 : decode cX3_weightOfGrades 37 = .ok (.isub, 1) := by decide +kernel
theorem dX3_weightOfGrades_38 : decode cX3_weightOfGrades 38 = .ok (.i2l, 1) := by decide +kernel
theorem dX3_weightOfGrades_39 : decode cX3_weightOfGrades 39 = .ok (.lmul, 1) := by decide +kernel
theorem dX3_weightOfGrades_40 : decode cX3_weightOfGrades 40 = .ok (.lstore_n 1, 1) := by decide +kernel
theorem dX3_weightOfGrades_41 : decode cX3_weightOfGrades 41 = .ok (.iinc 3 1, 3) := by decide +kernel
theorem dX3_weightOfGrades_44 : decode cX3_weightOfGrades 44 = .ok (.goto (-40), 3) := by decide +kernel
theorem dX3_weightOfGrades_47 : decode cX3_weightOfGrades 47 = .ok (.lload_n 1, 1) := by decide +kernel
theorem dX3_weightOfGrades_48 : decode cX3_weightOfGrades 48 = .ok (.lreturn, 1) := by decide +kernel
theorem dX3_mixInto_0 : decode cX3_mixInto 0 = .ok (.lload_n 1, 1) := by decide +kernel
theorem dX3_mixInto_1 : decode cX3_mixInto 1 = .ok (.lstore_n 3, 1) := by decide +kernel
theorem dX3_mixInto_2 : decode cX3_mixInto 2 = .ok (.iconst 0, 1) := by decide +kernel
theorem dX3_mixInto_3 : decode cX3_mixInto 3 = .ok (.istore 5, 2) := by decide +kernel
theorem dX3_mixInto_5 : decode cX3_mixInto 5 = .ok (.iload 5, 2) := by decide +kernel
theorem dX3_mixInto_7 : decode cX3_mixInto 7 = .ok (.aload_n 0, 1) := by decide +kernel
theorem dX3_mixInto_8 : decode cX3_mixInto 8 = .ok (.getfield 24, 3) := by decide +kernel
theorem dX3_mixInto_11 : decode cX3_mixInto 11 = .ok (.if_icmp .ge 33, 3) := by decide +kernel
theorem dX3_mixInto_14 : decode cX3_mixInto 14 = .ok (.lload_n 3, 1) := by decide +kernel
theorem dX3_mixInto_15 : decode cX3_mixInto 15 = .ok (.aload_n 0, 1) := by decide +kernel
theorem dX3_mixInto_16 : decode cX3_mixInto 16 = .ok (.getfield 9, 3) := by decide +kernel
theorem dX3_mixInto_19 : decode cX3_mixInto 19 = .ok (.iload 5, 2) := by decide +kernel
theorem dX3_mixInto_21 : decode cX3_mixInto 21 = .ok (.iaload, 1) := by decide +kernel
theorem dX3_mixInto_22 : decode cX3_mixInto 22 = .ok (.i2l, 1) := by decide +kernel
theorem dX3_mixInto_23 : decode cX3_mixInto 23 = .ok (.invokestatic 106, 3) := by decide +kernel
theorem dX3_mixInto_26 : decode cX3_mixInto 26 = .ok (.aload_n 0, 1) := by decide +kernel
theorem dX3_mixInto_27 : decode cX3_mixInto 27 = .ok (.getfield 15, 3) := by decide +kernel
theorem dX3_mixInto_30 : decode cX3_mixInto 30 = .ok (.iload 5, 2) := by decide +kernel
theorem dX3_mixInto_32 : decode cX3_mixInto 32 = .ok (.iaload, 1) := by decide +kernel
theorem dX3_mixInto_33 : decode cX3_mixInto 33 = .ok (.i2l, 1) := by decide +kernel
theorem dX3_mixInto_34 : decode cX3_mixInto 34 = .ok (.invokestatic 106, 3) := by decide +kernel
theorem dX3_mixInto_37 : decode cX3_mixInto 37 = .ok (.lstore_n 3, 1) := by decide +kernel
theorem dX3_mixInto_38 : decode cX3_mixInto 38 = .ok (.iinc 5 1, 3) := by decide +kernel
theorem dX3_mixInto_41 : decode cX3_mixInto 41 = .ok (.goto (-36), 3) := by decide +kernel
theorem dX3_mixInto_44 : decode cX3_mixInto 44 = .ok (.lload_n 3, 1) := by decide +kernel
theorem dX3_mixInto_45 : decode cX3_mixInto 45 = .ok (.lreturn, 1) := by decide +kernel
theorem dX4_init_0 : decode cX4_init 0 = .ok (.aload_n 0, 1) := by decide +kernel
theorem dX4_init_1 : decode cX4_init 1 = .ok (.invokespecial 3, 3) := by decide +kernel
theorem dX4_init_4 : decode cX4_init 4 = .ok (.aload_n 0, 1) := by decide +kernel
theorem dX4_init_5 : decode cX4_init 5 = .ok (.iconst (-1), 1) := by decide +kernel
theorem dX4_init_6 : decode cX4_init 6 = .ok (.putfield 9, 3) := by decide +kernel
theorem dX4_init_9 : decode cX4_init 9 = .ok (.aload_n 0, 1) := by decide +kernel
theorem dX4_init_10 : decode cX4_init 10 = .ok (.aload_n 1, 1) := by decide +kernel
theorem dX4_init_11 : decode cX4_init 11 = .ok (.putfield 15, 3) := by decide +kernel
theorem dX4_init_14 : decode cX4_init 14 = .ok (.aload_n 0, 1) := by decide +kernel
theorem dX4_init_15 : decode cX4_init 15 = .ok (.iload_n 2, 1) := by decide +kernel
theorem dX4_init_16 : decode cX4_init 16 = .ok (.putfield 19, 3) := by decide +kernel
theorem dX4_init_19 : decode cX4_init 19 = .ok (.return_, 1) := by decide +kernel
theorem dX4_begins_0 : decode cX4_begins 0 = .ok (.aload_n 0, 1) := by decide +kernel
theorem dX4_begins_1 : decode cX4_begins 1 = .ok (.iload_n 1, 1) := by decide +kernel
theorem dX4_begins_2 : decode cX4_begins 2 = .ok (.putfield 22, 3) := by decide +kernel
theorem dX4_begins_5 : decode cX4_begins 5 = .ok (.aload_n 0, 1) := by decide +kernel
theorem dX4_begins_6 : decode cX4_begins 6 = .ok (.iload_n 2, 1) := by decide +kernel
theorem dX4_begins_7 : decode cX4_begins 7 = .ok (.putfield 25, 3) := by decide +kernel
theorem dX4_begins_10 : decode cX4_begins 10 = .ok (.aload_n 0, 1) := by decide +kernel
theorem dX4_begins_11 : decode cX4_begins 11 = .ok (.iload_n 2, 1) := by decide +kernel
theorem dX4_begins_12 : decode cX4_begins 12 = .ok (.putfield 28, 3) := by decide +kernel
theorem dX4_begins_15 : decode cX4_begins 15 = .ok (.aload_n 0, 1) := by decide +kernel
theorem dX4_begins_16 : decode cX4_begins 16 = .ok (.iload_n 3, 1) := by decide +kernel
theorem dX4_begins_17 : decode cX4_begins 17 = .ok (.putfield 31, 3) := by decide +kernel
theorem dX4_begins_20 : decode cX4_begins 20 = .ok (.return_, 1) := by decide +kernel
theorem dX4_kind_0 : decode cX4_kind 0 = .ok (.iconst 0, 1) := by decide +kernel
theorem dX4_kind_1 : decode cX4_kind 1 = .ok (.ireturn, 1) := by decide +kernel
theorem dX4_hard_0 : decode cX4_hard 0 = .ok (.aload_n 0, 1) := by decide +kernel
theorem dX4_hard_1 : decode cX4_hard 1 = .ok (.getfield 19, 3) := by decide +kernel
theorem dX4_hard_4 : decode cX4_hard 4 = .ok (.ireturn, 1) := by decide +kernel
theorem dX4_tell_0 : decode cX4_tell 0 = .ok (.iload_n 1, 1) := by decide +kernel
theorem dX4_tell_1 : decode cX4_tell 1 = .ok (.tableswitch 81 0 6 #[43, 48, 56, 61, 66, 71, 76], 43) := by decide +kernel
theorem dX4_tell_44 : decode cX4_tell 44 = .ok (.aload_n 0, 1) := by decide +kernel
theorem dX4_tell_45 : decode cX4_tell 45 = .ok (.invokevirtual 34, 3) := by decide +kernel
theorem dX4_tell_48 : decode cX4_tell 48 = .ok (.ireturn, 1) := by decide +kernel
theorem dX4_tell_49 : decode cX4_tell 49 = .ok (.aload_n 0, 1) := by decide +kernel
theorem dX4_tell_50 : decode cX4_tell 50 = .ok (.getfield 15, 3) := by decide +kernel
theorem dX4_tell_53 : decode cX4_tell 53 = .ok (.getfield 38, 3) := by decide +kernel
theorem dX4_tell_56 : decode cX4_tell 56 = .ok (.ireturn, 1) := by decide +kernel
theorem dX4_tell_57 : decode cX4_tell 57 = .ok (.aload_n 0, 1) := by decide +kernel
theorem dX4_tell_58 : decode cX4_tell 58 = .ok (.getfield 19, 3) := by decide +kernel
theorem dX4_tell_61 : decode cX4_tell 61 = .ok (.ireturn, 1) := by decide +kernel
theorem dX4_tell_62 : decode cX4_tell 62 = .ok (.aload_n 0, 1) := by decide +kernel
theorem dX4_tell_63 : decode cX4_tell 63 = .ok (.invokevirtual 41, 3) := by decide +kernel
theorem dX4_tell_66 : decode cX4_tell 66 = .ok (.ireturn, 1) := by decide +kernel
theorem dX4_tell_67 : decode cX4_tell 67 = .ok (.aload_n 0, 1) := by decide +kernel
theorem dX4_tell_68 : decode cX4_tell 68 = .ok (.getfield 28, 3) := by decide +kernel
theorem dX4_tell_71 : decode cX4_tell 71 = .ok (.ireturn, 1) := by decide +kernel
theorem dX4_tell_72 : decode cX4_tell 72 = .ok (.aload_n 0, 1) := by decide +kernel
theorem dX4_tell_73 : decode cX4_tell 73 = .ok (.getfield 31, 3) := by decide +kernel
theorem dX4_tell_76 : decode cX4_tell 76 = .ok (.ireturn, 1) := by decide +kernel
theorem dX4_tell_77 : decode cX4_tell 77 = .ok (.aload_n 0, 1) := by decide +kernel
theorem dX4_tell_78 : decode cX4_tell 78 = .ok (.getfield 44, 3) := by decide +kernel
theorem dX4_tell_81 : decode cX4_tell 81 = .ok (.ireturn, 1) := by decide +kernel
theorem dX4_tell_82 : decode cX4_tell 82 = .ok (.aload_n 0, 1) := by decide +kernel
theorem dX4_tell_83 : decode cX4_tell 83 = .ok (.getfield 47, 3) := by decide +kernel
theorem dX4_tell_86 : decode cX4_tell 86 = .ok (.ifCond .eq 7, 3) := by decide +kernel
theorem dX4_tell_89 : decode cX4_tell 89 = .ok (.iconst 1, 1) := by decide +kernel
theorem dX4_tell_90 : decode cX4_tell 90 = .ok (.goto 4, 3) := by decide +kernel
theorem dX4_tell_93 : decode cX4_tell 93 = .ok (.iconst 0, 1) := by decide +kernel
theorem dX4_tell_94 : decode cX4_tell 94 = .ok (.ireturn, 1) := by decide +kernel
theorem dX4_breaks_0 : decode cX4_breaks 0 = .ok (.aload_n 0, 1) := by decide +kernel
theorem dX4_breaks_1 : decode cX4_breaks 1 = .ok (.aload_n 0, 1) := by decide +kernel
theorem dX4_breaks_2 : decode cX4_breaks 2 = .ok (.getfield 15, 3) := by decide +kernel
theorem dX4_breaks_5 : decode cX4_breaks 5 = .ok (.aload_n 1, 1) := by decide +kernel
theorem dX4_breaks_6 : decode cX4_breaks 6 = .ok (.getfield 15, 3) := by decide +kernel
theorem dX4_breaks_9 : decode cX4_breaks 9 = .ok (.aload_n 0, 1) := by decide +kernel
theorem dX4_breaks_10 : decode cX4_breaks 10 = .ok (.getfield 28, 3) := by decide +kernel
theorem dX4_breaks_13 : decode cX4_breaks 13 = .ok (.aload_n 1, 1) := by decide +kernel
theorem dX4_breaks_14 : decode cX4_breaks 14 = .ok (.getfield 28, 3) := by decide +kernel
theorem dX4_breaks_17 : decode cX4_breaks 17 = .ok (.iload_n 2, 1) := by decide +kernel
theorem dX4_breaks_18 : decode cX4_breaks 18 = .ok (.invokevirtual 51, 3) := by decide +kernel
theorem dX4_breaks_21 : decode cX4_breaks 21 = .ok (.putfield 28, 3) := by decide +kernel
theorem dX4_breaks_24 : decode cX4_breaks 24 = .ok (.aload_n 1, 1) := by decide +kernel
theorem dX4_breaks_25 : decode cX4_breaks 25 = .ok (.iconst 1, 1) := by decide +kernel
theorem dX4_breaks_26 : decode cX4_breaks 26 = .ok (.putfield 47, 3) := by decide +kernel
theorem dX4_breaks_29 : decode cX4_breaks 29 = .ok (.aload_n 0, 1) := by decide +kernel
theorem dX4_breaks_30 : decode cX4_breaks 30 = .ok (.getfield 28, 3) := by decide +kernel
theorem dX4_breaks_33 : decode cX4_breaks 33 = .ok (.ireturn, 1) := by decide +kernel
theorem dX4_keep_0 : decode cX4_keep 0 = .ok (.aload_n 0, 1) := by decide +kernel
theorem dX4_keep_1 : decode cX4_keep 1 = .ok (.aload_n 0, 1) := by decide +kernel
theorem dX4_keep_2 : decode cX4_keep 2 = .ok (.getfield 28, 3) := by decide +kernel
theorem dX4_keep_5 : decode cX4_keep 5 = .ok (.putfield 55, 3) := by decide +kernel
theorem dX4_keep_8 : decode cX4_keep 8 = .ok (.aload_n 0, 1) := by decide +kernel
theorem dX4_keep_9 : decode cX4_keep 9 = .ok (.aload_n 0, 1) := by decide +kernel
theorem dX4_keep_10 : decode cX4_keep 10 = .ok (.getfield 44, 3) := by decide +kernel
theorem dX4_keep_13 : decode cX4_keep 13 = .ok (.putfield 58, 3) := by decide +kernel
theorem dX4_keep_16 : decode cX4_keep 16 = .ok (.aload_n 0, 1) := by decide +kernel
theorem dX4_keep_17 : decode cX4_keep 17 = .ok (.aload_n 0, 1) := by decide +kernel
theorem dX4_keep_18 : decode cX4_keep 18 = .ok (.getfield 47, 3) := by decide +kernel
theorem dX4_keep_21 : decode cX4_keep 21 = .ok (.putfield 61, 3) := by decide +kernel
theorem dX4_keep_24 : decode cX4_keep 24 = .ok (.aload_n 0, 1) := by decide +kernel
theorem dX4_keep_25 : decode cX4_keep 25 = .ok (.aload_n 0, 1) := by decide +kernel
theorem dX4_keep_26 : decode cX4_keep 26 = .ok (.getfield 9, 3) := by decide +kernel
theorem dX4_keep_29 : decode cX4_keep 29 = .ok (.putfield 64, 3) := by decide +kernel
theorem dX4_keep_32 : decode cX4_keep 32 = .ok (.return_, 1) := by decide +kernel
theorem dX4_goBack_0 : decode cX4_goBack 0 = .ok (.aload_n 0, 1) := by decide +kernel
theorem dX4_goBack_1 : decode cX4_goBack 1 = .ok (.aload_n 0, 1) := by decide +kernel
theorem dX4_goBack_2 : decode cX4_goBack 2 = .ok (.getfield 55, 3) := by decide +kernel
theorem dX4_goBack_5 : decode cX4_goBack 5 = .ok (.putfield 28, 3) := by decide +kernel
theorem dX4_goBack_8 : decode cX4_goBack 8 = .ok (.aload_n 0, 1) := by decide +kernel
theorem dX4_goBack_9 : decode cX4_goBack 9 = .ok (.aload_n 0, 1) := by decide +kernel
theorem dX4_goBack_10 : decode cX4_goBack 10 = .ok (.getfield 58, 3) := by decide +kernel
theorem dX4_goBack_13 : decode cX4_goBack 13 = .ok (.putfield 44, 3) := by decide +kernel
theorem dX4_goBack_16 : decode cX4_goBack 16 = .ok (.aload_n 0, 1) := by decide +kernel
theorem dX4_goBack_17 : decode cX4_goBack 17 = .ok (.aload_n 0, 1) := by decide +kernel
theorem dX4_goBack_18 : decode cX4_goBack 18 = .ok (.getfield 61, 3) := by decide +kernel
theorem dX4_goBack_21 : decode cX4_goBack 21 = .ok (.putfield 47, 3) := by decide +kernel
theorem dX4_goBack_24 : decode cX4_goBack 24 = .ok (.aload_n 0, 1) := by decide +kernel
theorem dX4_goBack_25 : decode cX4_goBack 25 = .ok (.aload_n 0, 1) := by decide +kernel
theorem dX4_goBack_26 : decode cX4_goBack 26 = .ok (.getfield 64, 3) := by decide +kernel
theorem dX4_goBack_29 : decode cX4_goBack 29 = .ok (.putfield 9, 3) := by decide +kernel
theorem dX4_goBack_32 : decode cX4_goBack 32 = .ok (.return_, 1) := by decide +kernel
theorem dX5_init_0 : decode cX5_init 0 = .ok (.aload_n 0, 1) := by decide +kernel
theorem dX5_init_1 : decode cX5_init 1 = .ok (.aload_n 1, 1) := by decide +kernel
theorem dX5_init_2 : decode cX5_init 2 = .ok (.iload_n 2, 1) := by decide +kernel
theorem dX5_init_3 : decode cX5_init 3 = .ok (.invokespecial 3, 3) := by decide +kernel
theorem dX5_init_6 : decode cX5_init 6 = .ok (.return_, 1) := by decide +kernel
theorem dX5_kind_0 : decode cX5_kind 0 = .ok (.iconst 1, 1) := by decide +kernel
theorem dX5_kind_1 : decode cX5_kind 1 = .ok (.ireturn, 1) := by decide +kernel
theorem dX5_hard_0 : decode cX5_hard 0 = .ok (.aload_n 0, 1) := by decide +kernel
theorem dX5_hard_1 : decode cX5_hard 1 = .ok (.getfield 9, 3) := by decide +kernel
theorem dX5_hard_4 : decode cX5_hard 4 = .ok (.iconst 1, 1) := by decide +kernel
theorem dX5_hard_5 : decode cX5_hard 5 = .ok (.iadd, 1) := by decide +kernel
theorem dX5_hard_6 : decode cX5_hard 6 = .ok (.ireturn, 1) := by decide +kernel
theorem dX6_init_0 : decode cX6_init 0 = .ok (.aload_n 0, 1) := by decide +kernel
theorem dX6_init_1 : decode cX6_init 1 = .ok (.invokespecial 3, 3) := by decide +kernel
theorem dX6_init_4 : decode cX6_init 4 = .ok (.aload_n 0, 1) := by decide +kernel
theorem dX6_init_5 : decode cX6_init 5 = .ok (.bipush 20, 2) := by decide +kernel
theorem dX6_init_7 : decode cX6_init 7 = .ok (.newarray .int, 2) := by decide +kernel
theorem dX6_init_9 : decode cX6_init 9 = .ok (.putfield 9, 3) := by decide +kernel
theorem dX6_init_12 : decode cX6_init 12 = .ok (.aload_n 0, 1) := by decide +kernel
theorem dX6_init_13 : decode cX6_init 13 = .ok (.new 15, 3) := by decide +kernel
theorem dX6_init_16 : decode cX6_init 16 = .ok (.dup, 1) := by decide +kernel
theorem dX6_init_17 : decode cX6_init 17 = .ok (.invokespecial 17, 3) := by decide +kernel
theorem dX6_init_20 : decode cX6_init 20 = .ok (.putfield 18, 3) := by decide +kernel
theorem dX6_init_23 : decode cX6_init 23 = .ok (.return_, 1) := by decide +kernel
theorem dX6_write_0 : decode cX6_write 0 = .ok (.lload_n 1, 1) := by decide +kernel
theorem dX6_write_1 : decode cX6_write 1 = .ok (.invokestatic 22, 3) := by decide +kernel
theorem dX6_write_4 : decode cX6_write 4 = .ok (.istore_n 3, 1) := by decide +kernel
theorem dX6_write_5 : decode cX6_write 5 = .ok (.iload_n 3, 1) := by decide +kernel
theorem dX6_write_6 : decode cX6_write 6 = .ok (.ifCond .ge 6, 3) := by decide +kernel
theorem dX6_write_9 : decode cX6_write 9 = .ok (.bipush (-102), 2) := by decide +kernel
theorem dX6_write_11 : decode cX6_write 11 = .ok (.ireturn, 1) := by decide +kernel
theorem dX6_write_12 : decode cX6_write 12 = .ok (.aload_n 0, 1) := by decide +kernel
theorem dX6_write_13 : decode cX6_write 13 = .ok (.getfield 26, 3) := by decide +kernel
theorem dX6_write_16 : decode cX6_write 16 = .ok (.iload_n 3, 1) := by decide +kernel
theorem dX6_write_17 : decode cX6_write 17 = .ok (.iadd, 1) := by decide +kernel
theorem dX6_write_18 : decode cX6_write 18 = .ok (.aload_n 0, 1) := by decide +kernel
theorem dX6_write_19 : decode cX6_write 19 = .ok (.getfield 9, 3) := by decide +kernel
theorem dX6_write_22 : decode cX6_write 22 = .ok (.arraylength, 1) := by decide +kernel
theorem dX6_write_23 : decode cX6_write 23 = .ok (.if_icmp .le 6, 3) := by decide +kernel
theorem dX6_write_26 : decode cX6_write 26 = .ok (.bipush (-104), 2) := by decide +kernel
theorem dX6_write_28 : decode cX6_write 28 = .ok (.ireturn, 1) := by decide +kernel
theorem dX6_write_29 : decode cX6_write 29 = .ok (.iconst 0, 1) := by decide +kernel
theorem dX6_write_30 : decode cX6_write 30 = .ok (.istore 4, 2) := by decide +kernel
theorem dX6_write_32 : decode cX6_write 32 = .ok (.iload 4, 2) := by decide +kernel
theorem dX6_write_34 : decode cX6_write 34 = .ok (.iload_n 3, 1) := by decide +kernel
theorem dX6_write_35 : decode cX6_write 35 = .ok (.if_icmp .ge 27, 3) := by decide +kernel
theorem dX6_write_38 : decode cX6_write 38 = .ok (.aload_n 0, 1) := by decide +kernel
theorem dX6_write_39 : decode cX6_write 39 = .ok (.getfield 9, 3) := by decide +kernel
theorem dX6_write_42 : decode cX6_write 42 = .ok (.aload_n 0, 1) := by decide +kernel
theorem dX6_write_43 : decode cX6_write 43 = .ok (.getfield 26, 3) := by decide +kernel
theorem dX6_write_46 : decode cX6_write 46 = .ok (.iload 4, 2) := by decide +kernel
theorem dX6_write_48 : decode cX6_write 48 = .ok (.iadd, 1) := by decide +kernel
theorem dX6_write_49 : decode cX6_write 49 = .ok (.lload_n 1, 1) := by decide +kernel
theorem dX6_write_50 : decode cX6_write 50 = .ok (.iload 4, 2) := by decide +kernel
theorem dX6_write_52 : decode cX6_write 52 = .ok (.invokestatic 30, 3) := by decide +kernel
theorem dX6_write_55 : decode cX6_write 55 = .ok (.iastore, 1) := by decide +kernel
theorem dX6_write_56 : decode cX6_write 56 = .ok (.iinc 4 1, 3) := by decide +kernel
theorem dX6_write_59 : decode cX6_write 59 = .ok (.goto (-27), 3) := by decide +kernel
theorem dX6_write_62 : decode cX6_write 62 = .ok (.aload_n 0, 1) := by decide +kernel
theorem dX6_write_63 : decode cX6_write 63 = .ok (.dup, 1) := by decide +kernel
theorem dX6_write_64 : decode cX6_write 64 = .ok (.getfield 26, 3) := by decide +kernel
theorem dX6_write_67 : decode cX6_write 67 = .ok (.iload_n 3, 1) := by decide +kernel
theorem dX6_write_68 : decode cX6_write 68 = .ok (.iadd, 1) := by decide +kernel
theorem dX6_write_69 : decode cX6_write 69 = .ok (.putfield 26, 3) := by decide +kernel
theorem dX6_write_72 : decode cX6_write 72 = .ok (.aload_n 0, 1) := by decide +kernel
theorem dX6_write_73 : decode cX6_write 73 = .ok (.getfield 26, 3) := by decide +kernel
theorem dX6_write_76 : decode cX6_write 76 = .ok (.ireturn, 1) := by decide +kernel
theorem dX6_byteOf_0 : decode cX6_byteOf 0 = .ok (.lload_n 0, 1) := by decide +kernel
theorem dX6_byteOf_1 : decode cX6_byteOf 1 = .ok (.bipush 8, 2) := by decide +kernel
theorem dX6_byteOf_3 : decode cX6_byteOf 3 = .ok (.iload_n 2, 1) := by decide +kernel
theorem dX6_byteOf_4 : decode cX6_byteOf 4 = .ok (.imul, 1) := by decide +kernel
theorem dX6_byteOf_5 : decode cX6_byteOf 5 = .ok (.lushr, 1) := by decide +kernel
theorem dX6_byteOf_6 : decode cX6_byteOf 6 = .ok (.l2i, 1) := by decide +kernel
theorem dX6_byteOf_7 : decode cX6_byteOf 7 = .ok (.sipush 255, 3) := by decide +kernel
theorem dX6_byteOf_10 : decode cX6_byteOf 10 = .ok (.iand, 1) := by decide +kernel
theorem dX6_byteOf_11 : decode cX6_byteOf 11 = .ok (.ireturn, 1) := by decide +kernel
theorem dX6_lettersIn_0 : decode cX6_lettersIn 0 = .ok (.iconst 0, 1) := by decide +kernel
theorem dX6_lettersIn_1 : decode cX6_lettersIn 1 = .ok (.istore_n 2, 1) := by decide +kernel
theorem dX6_lettersIn_2 : decode cX6_lettersIn 2 = .ok (.iconst 0, 1) := by decide +kernel
theorem dX6_lettersIn_3 : decode cX6_lettersIn 3 = .ok (.istore_n 3, 1) := by decide +kernel
theorem dX6_lettersIn_4 : decode cX6_lettersIn 4 = .ok (.iload_n 3, 1) := by decide +kernel
theorem dX6_lettersIn_5 : decode cX6_lettersIn 5 = .ok (.bipush 8, 2) := by decide +kernel
theorem dX6_lettersIn_7 : decode cX6_lettersIn 7 = .ok (.if_icmp .ge 55, 3) := by decide +kernel
theorem dX6_lettersIn_10 : decode cX6_lettersIn 10 = .ok (.lload_n 0, 1) := by decide +kernel
theorem dX6_lettersIn_11 : decode cX6_lettersIn 11 = .ok (.iload_n 3, 1) := by decide +kernel
theorem dX6_lettersIn_12 : decode cX6_lettersIn 12 = .ok (.invokestatic 30, 3) := by decide +kernel
theorem dX6_lettersIn_15 : decode cX6_lettersIn 15 = .ok (.istore 4, 2) := by decide +kernel
theorem dX6_lettersIn_17 : decode cX6_lettersIn 17 = .ok (.iload_n 2, 1) := by decide +kernel
theorem dX6_lettersIn_18 : decode cX6_lettersIn 18 = .ok (.iload_n 3, 1) := by decide +kernel
theorem dX6_lettersIn_19 : decode cX6_lettersIn 19 = .ok (.if_icmp .ge 7, 3) := by decide +kernel
theorem dX6_lettersIn_22 : decode cX6_lettersIn 22 = .ok (.iconst 1, 1) := by decide +kernel
theorem dX6_lettersIn_23 : decode cX6_lettersIn 23 = .ok (.goto 4, 3) := by decide +kernel
theorem dX6_lettersIn_26 : decode cX6_lettersIn 26 = .ok (.iconst 0, 1) := by decide +kernel
theorem dX6_lettersIn_27 : decode cX6_lettersIn 27 = .ok (.istore 5, 2) := by decide +kernel
theorem dX6_lettersIn_29 : decode cX6_lettersIn 29 = .ok (.iload 4, 2) := by decide +kernel
theorem dX6_lettersIn_31 : decode cX6_lettersIn 31 = .ok (.bipush 126, 2) := by decide +kernel
theorem dX6_lettersIn_33 : decode cX6_lettersIn 33 = .ok (.if_icmp .gt 13, 3) := by decide +kernel
theorem dX6_lettersIn_36 : decode cX6_lettersIn 36 = .ok (.iload 4, 2) := by decide +kernel
theorem dX6_lettersIn_38 : decode cX6_lettersIn 38 = .ok (.ifCond .eq 10, 3) := by decide +kernel
theorem dX6_lettersIn_41 : decode cX6_lettersIn 41 = .ok (.iload 5, 2) := by decide +kernel
theorem dX6_lettersIn_43 : decode cX6_lettersIn 43 = .ok (.ifCond .eq 5, 3) := by decide +kernel
theorem dX6_lettersIn_46 : decode cX6_lettersIn 46 = .ok (.iconst (-1), 1) := by decide +kernel
theorem dX6_lettersIn_47 : decode cX6_lettersIn 47 = .ok (.ireturn, 1) := by decide +kernel
theorem dX6_lettersIn_48 : decode cX6_lettersIn 48 = .ok (.iload 4, 2) := by decide +kernel
theorem dX6_lettersIn_50 : decode cX6_lettersIn 50 = .ok (.ifCond .eq 6, 3) := by decide +kernel
theorem dX6_lettersIn_53 : decode cX6_lettersIn 53 = .ok (.iinc 2 1, 3) := by decide +kernel
theorem dX6_lettersIn_56 : decode cX6_lettersIn 56 = .ok (.iinc 3 1, 3) := by decide +kernel
theorem dX6_lettersIn_59 : decode cX6_lettersIn 59 = .ok (.goto (-55), 3) := by decide +kernel
theorem dX6_lettersIn_62 : decode cX6_lettersIn 62 = .ok (.iload_n 2, 1) := by decide +kernel
theorem dX6_lettersIn_63 : decode cX6_lettersIn 63 = .ok (.ireturn, 1) := by decide +kernel
theorem dX6_clear_0 : decode cX6_clear 0 = .ok (.aload_n 0, 1) := by decide +kernel
theorem dX6_clear_1 : decode cX6_clear 1 = .ok (.getfield 26, 3) := by decide +kernel
theorem dX6_clear_4 : decode cX6_clear 4 = .ok (.istore_n 1, 1) := by decide +kernel
theorem dX6_clear_5 : decode cX6_clear 5 = .ok (.aload_n 0, 1) := by decide +kernel
theorem dX6_clear_6 : decode cX6_clear 6 = .ok (.iconst 0, 1) := by decide +kernel
theorem dX6_clear_7 : decode cX6_clear 7 = .ok (.putfield 26, 3) := by decide +kernel
theorem dX6_clear_10 : decode cX6_clear 10 = .ok (.iload_n 1, 1) := by decide +kernel
theorem dX6_clear_11 : decode cX6_clear 11 = .ok (.ireturn, 1) := by decide +kernel
theorem dX6_firstFault_0 : decode cX6_firstFault 0 = .ok (.aload_n 0, 1) := by decide +kernel
theorem dX6_firstFault_1 : decode cX6_firstFault 1 = .ok (.iconst 0, 1) := by decide +kernel
theorem dX6_firstFault_2 : decode cX6_firstFault 2 = .ok (.putfield 34, 3) := by decide +kernel
theorem dX6_firstFault_5 : decode cX6_firstFault 5 = .ok (.aload_n 0, 1) := by decide +kernel
theorem dX6_firstFault_6 : decode cX6_firstFault 6 = .ok (.iconst 0, 1) := by decide +kernel
theorem dX6_firstFault_7 : decode cX6_firstFault 7 = .ok (.putfield 37, 3) := by decide +kernel
theorem dX6_firstFault_10 : decode cX6_firstFault 10 = .ok (.aload_n 0, 1) := by decide +kernel
theorem dX6_firstFault_11 : decode cX6_firstFault 11 = .ok (.getfield 18, 3) := by decide +kernel
theorem dX6_firstFault_14 : decode cX6_firstFault 14 = .ok (.invokevirtual 40, 3) := by decide +kernel
theorem dX6_firstFault_17 : decode cX6_firstFault 17 = .ok (.iconst 0, 1) := by decide +kernel
theorem dX6_firstFault_18 : decode cX6_firstFault 18 = .ok (.istore_n 1, 1) := by decide +kernel
theorem dX6_firstFault_19 : decode cX6_firstFault 19 = .ok (.iload_n 1, 1) := by decide +kernel
theorem dX6_firstFault_20 : decode cX6_firstFault 20 = .ok (.aload_n 0, 1) := by decide +kernel
theorem dX6_firstFault_21 : decode cX6_firstFault 21 = .ok (.getfield 26, 3) := by decide +kernel
theorem dX6_firstFault_24 : decode cX6_firstFault 24 = .ok (.if_icmp .ge 33, 3) := by decide +kernel
theorem dX6_firstFault_27 : decode cX6_firstFault 27 = .ok (.iload_n 1, 1) := by decide +kernel
theorem dX6_firstFault_28 : decode cX6_firstFault 28 = .ok (.aload_n 0, 1) := by decide +kernel
theorem dX6_firstFault_29 : decode cX6_firstFault 29 = .ok (.getfield 9, 3) := by decide +kernel
theorem dX6_firstFault_32 : decode cX6_firstFault 32 = .ok (.arraylength, 1) := by decide +kernel
theorem dX6_firstFault_33 : decode cX6_firstFault 33 = .ok (.if_icmp .ge 24, 3) := by decide +kernel
theorem dX6_firstFault_36 : decode cX6_firstFault 36 = .ok (.aload_n 0, 1) := by decide +kernel
theorem dX6_firstFault_37 : decode cX6_firstFault 37 = .ok (.aload_n 0, 1) := by decide +kernel
theorem dX6_firstFault_38 : decode cX6_firstFault 38 = .ok (.getfield 9, 3) := by decide +kernel
theorem dX6_firstFault_41 : decode cX6_firstFault 41 = .ok (.iload_n 1, 1) := by decide +kernel
theorem dX6_firstFault_42 : decode cX6_firstFault 42 = .ok (.iaload, 1) := by decide +kernel
theorem dX6_firstFault_43 : decode cX6_firstFault 43 = .ok (.invokevirtual 43, 3) := by decide +kernel
theorem dX6_firstFault_46 : decode cX6_firstFault 46 = .ok (.ifCond .ne 5, 3) := by decide +kernel
theorem dX6_firstFault_49 : decode cX6_firstFault 49 = .ok (.iload_n 1, 1) := by decide +kernel
theorem dX6_firstFault_50 : decode cX6_firstFault 50 = .ok (.ireturn, 1) := by decide +kernel
theorem dX6_firstFault_51 : decode cX6_firstFault 51 = .ok (.iinc 1 1, 3) := by decide +kernel
theorem dX6_firstFault_54 : decode cX6_firstFault 54 = .ok (.goto (-35), 3) := by decide +kernel
theorem dX6_firstFault_57 : decode cX6_firstFault 57 = .ok (.aload_n 0, 1) := by decide +kernel
theorem dX6_firstFault_58 : decode cX6_firstFault 58 = .ok (.getfield 26, 3) := by decide +kernel
theorem dX6_firstFault_61 : decode cX6_firstFault 61 = .ok (.ireturn, 1) := by decide +kernel
theorem dX6_isSchool_0 : decode cX6_isSchool 0 = .ok (.aload_n 0, 1) := by decide +kernel
theorem dX6_isSchool_1 : decode cX6_isSchool 1 = .ok (.invokevirtual 47, 3) := by decide +kernel
theorem dX6_isSchool_4 : decode cX6_isSchool 4 = .ok (.aload_n 0, 1) := by decide +kernel
theorem dX6_isSchool_5 : decode cX6_isSchool 5 = .ok (.getfield 26, 3) := by decide +kernel
theorem dX6_isSchool_8 : decode cX6_isSchool 8 = .ok (.if_icmp .ne 15, 3) := by decide +kernel
theorem dX6_isSchool_11 : decode cX6_isSchool 11 = .ok (.aload_n 0, 1) := by decide +kernel
theorem dX6_isSchool_12 : decode cX6_isSchool 12 = .ok (.getfield 34, 3) := by decide +kernel
theorem dX6_isSchool_15 : decode cX6_isSchool 15 = .ok (.iconst 4, 1) := by decide +kernel
theorem dX6_isSchool_16 : decode cX6_isSchool 16 = .ok (.if_icmp .ne 7, 3) := by decide +kernel
theorem dX6_isSchool_19 : decode cX6_isSchool 19 = .ok (.iconst 1, 1) := by decide +kernel
theorem dX6_isSchool_20 : decode cX6_isSchool 20 = .ok (.goto 4, 3) := by decide +kernel
theorem dX6_isSchool_23 : decode cX6_isSchool 23 = .ok (.iconst 0, 1) := by decide +kernel
theorem dX6_isSchool_24 : decode cX6_isSchool 24 = .ok (.ireturn, 1) := by decide +kernel
theorem dX6_takeSchool_0 : decode cX6_takeSchool 0 = .ok (.aload_n 0, 1) := by decide +kernel
theorem dX6_takeSchool_1 : decode cX6_takeSchool 1 = .ok (.getfield 18, 3) := by decide +kernel
theorem dX6_takeSchool_4 : decode cX6_takeSchool 4 = .ok (.astore_n 2, 1) := by decide +kernel
theorem dX6_takeSchool_5 : decode cX6_takeSchool 5 = .ok (.aload_n 2, 1) := by decide +kernel
theorem dX6_takeSchool_6 : decode cX6_takeSchool 6 = .ok (.iload_n 1, 1) := by decide +kernel
theorem dX6_takeSchool_7 : decode cX6_takeSchool 7 = .ok (.putfield 51, 3) := by decide +kernel
theorem dX6_takeSchool_10 : decode cX6_takeSchool 10 = .ok (.aload_n 0, 1) := by decide +kernel
theorem dX6_takeSchool_11 : decode cX6_takeSchool 11 = .ok (.new 15, 3) := by decide +kernel
theorem dX6_takeSchool_14 : decode cX6_takeSchool 14 = .ok (.dup, 1) := by decide +kernel
theorem dX6_takeSchool_15 : decode cX6_takeSchool 15 = .ok (.invokespecial 17, 3) := by decide +kernel
theorem dX6_takeSchool_18 : decode cX6_takeSchool 18 = .ok (.putfield 18, 3) := by decide +kernel
theorem dX6_takeSchool_21 : decode cX6_takeSchool 21 = .ok (.aload_n 0, 1) := by decide +kernel
theorem dX6_takeSchool_22 : decode cX6_takeSchool 22 = .ok (.iconst 0, 1) := by decide +kernel
theorem dX6_takeSchool_23 : decode cX6_takeSchool 23 = .ok (.putfield 26, 3) := by decide +kernel
theorem dX6_takeSchool_26 : decode cX6_takeSchool 26 = .ok (.aload_n 2, 1) := by decide +kernel
theorem dX6_takeSchool_27 : decode cX6_takeSchool 27 = .ok (.areturn, 1) := by decide +kernel
theorem dX6_reads_0 : decode cX6_reads 0 = .ok (.aload_n 0, 1) := by decide +kernel
theorem dX6_reads_1 : decode cX6_reads 1 = .ok (.getfield 34, 3) := by decide +kernel
theorem dX6_reads_4 : decode cX6_reads 4 = .ok (.tableswitch 79 0 3 #[32, 38, 59, 65], 32) := by decide +kernel
theorem dX6_reads_36 : decode cX6_reads 36 = .ok (.aload_n 0, 1) := by decide +kernel
theorem dX6_reads_37 : decode cX6_reads 37 = .ok (.iload_n 1, 1) := by decide +kernel
theorem dX6_reads_38 : decode cX6_reads 38 = .ok (.invokevirtual 54, 3) := by decide +kernel
theorem dX6_reads_41 : decode cX6_reads 41 = .ok (.ireturn, 1) := by decide +kernel
theorem dX6_reads_42 : decode cX6_reads 42 = .ok (.iload_n 1, 1) := by decide +kernel
theorem dX6_reads_43 : decode cX6_reads 43 = .ok (.invokestatic 57, 3) := by decide +kernel
theorem dX6_reads_46 : decode cX6_reads 46 = .ok (.ifCond .eq 11, 3) := by decide +kernel
theorem dX6_reads_49 : decode cX6_reads 49 = .ok (.aload_n 0, 1) := by decide +kernel
theorem dX6_reads_50 : decode cX6_reads 50 = .ok (.iload_n 1, 1) := by decide +kernel
theorem dX6_reads_51 : decode cX6_reads 51 = .ok (.invokevirtual 60, 3) := by decide +kernel
theorem dX6_reads_54 : decode cX6_reads 54 = .ok (.goto 8, 3) := by decide +kernel
theorem dX6_reads_57 : decode cX6_reads 57 = .ok (.aload_n 0, 1) := by decide +kernel
theorem dX6_reads_58 : decode cX6_reads 58 = .ok (.iload_n 1, 1) := by decide +kernel
theorem dX6_reads_59 : decode cX6_reads 59 = .ok (.invokevirtual 63, 3) := by decide +kernel
theorem dX6_reads_62 : decode cX6_reads 62 = .ok (.ireturn, 1) := by decide +kernel
theorem dX6_reads_63 : decode cX6_reads 63 = .ok (.aload_n 0, 1) := by decide +kernel
theorem dX6_reads_64 : decode cX6_reads 64 = .ok (.iload_n 1, 1) := by decide +kernel
theorem dX6_reads_65 : decode cX6_reads 65 = .ok (.invokevirtual 63, 3) := by decide +kernel
theorem dX6_reads_68 : decode cX6_reads 68 = .ok (.ireturn, 1) := by decide +kernel
theorem dX6_reads_69 : decode cX6_reads 69 = .ok (.aload_n 0, 1) := by decide +kernel
theorem dX6_reads_70 : decode cX6_reads 70 = .ok (.iconst 4, 1) := by decide +kernel
theorem dX6_reads_71 : decode cX6_reads 71 = .ok (.putfield 34, 3) := by decide +kernel
theorem dX6_reads_74 : decode cX6_reads 74 = .ok (.aload_n 0, 1) := by decide +kernel
theorem dX6_reads_75 : decode cX6_reads 75 = .ok (.getfield 18, 3) := by decide +kernel
theorem dX6_reads_78 : decode cX6_reads 78 = .ok (.iload_n 1, 1) := by decide +kernel
theorem dX6_reads_79 : decode cX6_reads 79 = .ok (.invokevirtual 66, 3) := by decide +kernel
theorem dX6_reads_82 : decode cX6_reads 82 = .ok (.ireturn, 1) := by decide +kernel
theorem dX6_reads_83 : decode cX6_reads 83 = .ok (.iconst 0, 1) := by decide +kernel
theorem dX6_reads_84 : decode cX6_reads 84 = .ok (.ireturn, 1) := by decide +kernel
theorem dX6_isDigit_0 : decode cX6_isDigit 0 = .ok (.iload_n 0, 1) := by decide +kernel
theorem dX6_isDigit_1 : decode cX6_isDigit 1 = .ok (.bipush 48, 2) := by decide +kernel
theorem dX6_isDigit_3 : decode cX6_isDigit 3 = .ok (.if_icmp .lt 13, 3) := by decide +kernel
theorem dX6_isDigit_6 : decode cX6_isDigit 6 = .ok (.iload_n 0, 1) := by decide +kernel
theorem dX6_isDigit_7 : decode cX6_isDigit 7 = .ok (.bipush 57, 2) := by decide +kernel
theorem dX6_isDigit_9 : decode cX6_isDigit 9 = .ok (.if_icmp .gt 7, 3) := by decide +kernel
theorem dX6_isDigit_12 : decode cX6_isDigit 12 = .ok (.iconst 1, 1) := by decide +kernel
theorem dX6_isDigit_13 : decode cX6_isDigit 13 = .ok (.goto 4, 3) := by decide +kernel
theorem dX6_isDigit_16 : decode cX6_isDigit 16 = .ok (.iconst 0, 1) := by decide +kernel
theorem dX6_isDigit_17 : decode cX6_isDigit 17 = .ok (.ireturn, 1) := by decide +kernel
theorem dX6_readsTerm_0 : decode cX6_readsTerm 0 = .ok (.aload_n 0, 1) := by decide +kernel
theorem dX6_readsTerm_1 : decode cX6_readsTerm 1 = .ok (.dup, 1) := by decide +kernel
theorem dX6_readsTerm_2 : decode cX6_readsTerm 2 = .ok (.getfield 37, 3) := by decide +kernel
theorem dX6_readsTerm_5 : decode cX6_readsTerm 5 = .ok (.iconst 1, 1) := by decide +kernel
theorem dX6_readsTerm_6 : decode cX6_readsTerm 6 = .ok (.iadd, 1) := by decide +kernel
theorem dX6_readsTerm_7 : decode cX6_readsTerm 7 = .ok (.putfield 37, 3) := by decide +kernel
theorem dX6_readsTerm_10 : decode cX6_readsTerm 10 = .ok (.iload_n 1, 1) := by decide +kernel
theorem dX6_readsTerm_11 : decode cX6_readsTerm 11 = .ok (.invokestatic 57, 3) := by decide +kernel
theorem dX6_readsTerm_14 : decode cX6_readsTerm 14 = .ok (.ifCond .ne 17, 3) := by decide +kernel
theorem dX6_readsTerm_17 : decode cX6_readsTerm 17 = .ok (.aload_n 0, 1) := by decide +kernel
theorem dX6_readsTerm_18 : decode cX6_readsTerm 18 = .ok (.iconst 2, 1) := by decide +kernel
theorem dX6_readsTerm_19 : decode cX6_readsTerm 19 = .ok (.putfield 34, 3) := by decide +kernel
theorem dX6_readsTerm_22 : decode cX6_readsTerm 22 = .ok (.aload_n 0, 1) := by decide +kernel
theorem dX6_readsTerm_23 : decode cX6_readsTerm 23 = .ok (.getfield 18, 3) := by decide +kernel
theorem dX6_readsTerm_26 : decode cX6_readsTerm 26 = .ok (.iload_n 1, 1) := by decide +kernel
theorem dX6_readsTerm_27 : decode cX6_readsTerm 27 = .ok (.invokevirtual 69, 3) := by decide +kernel
theorem dX6_readsTerm_30 : decode cX6_readsTerm 30 = .ok (.ireturn, 1) := by decide +kernel
theorem dX6_readsTerm_31 : decode cX6_readsTerm 31 = .ok (.aload_n 0, 1) := by decide +kernel
theorem dX6_readsTerm_32 : decode cX6_readsTerm 32 = .ok (.iload_n 1, 1) := by decide +kernel
theorem dX6_readsTerm_33 : decode cX6_readsTerm 33 = .ok (.bipush 48, 2) := by decide +kernel
theorem dX6_readsTerm_35 : decode cX6_readsTerm 35 = .ok (.isub, 1) := by decide +kernel
theorem dX6_readsTerm_36 : decode cX6_readsTerm 36 = .ok (.putfield 72, 3) := by decide +kernel
theorem dX6_readsTerm_39 : decode cX6_readsTerm 39 = .ok (.aload_n 0, 1) := by decide +kernel
theorem dX6_readsTerm_40 : decode cX6_readsTerm 40 = .ok (.getfield 18, 3) := by decide +kernel
theorem dX6_readsTerm_43 : decode cX6_readsTerm 43 = .ok (.aload_n 0, 1) := by decide +kernel
theorem dX6_readsTerm_44 : decode cX6_readsTerm 44 = .ok (.getfield 72, 3) := by decide +kernel
theorem dX6_readsTerm_47 : decode cX6_readsTerm 47 = .ok (.invokevirtual 75, 3) := by decide +kernel
theorem dX6_readsTerm_50 : decode cX6_readsTerm 50 = .ok (.aload_n 0, 1) := by decide +kernel
theorem dX6_readsTerm_51 : decode cX6_readsTerm 51 = .ok (.aload_n 0, 1) := by decide +kernel
theorem dX6_readsTerm_52 : decode cX6_readsTerm 52 = .ok (.getfield 72, 3) := by decide +kernel
theorem dX6_readsTerm_55 : decode cX6_readsTerm 55 = .ok (.ifCond .ne 7, 3) := by decide +kernel
theorem dX6_readsTerm_58 : decode cX6_readsTerm 58 = .ok (.iconst 2, 1) := by decide +kernel
theorem dX6_readsTerm_59 : decode cX6_readsTerm 59 = .ok (.goto 4, 3) := by decide +kernel
theorem dX6_readsTerm_62 : decode cX6_readsTerm 62 = .ok (.iconst 1, 1) := by decide +kernel
theorem dX6_readsTerm_63 : decode cX6_readsTerm 63 = .ok (.putfield 34, 3) := by decide +kernel
theorem dX6_readsTerm_66 : decode cX6_readsTerm 66 = .ok (.iconst 1, 1) := by decide +kernel
theorem dX6_readsTerm_67 : decode cX6_readsTerm 67 = .ok (.ireturn, 1) := by decide +kernel
theorem dX6_readsSecondDigit_0 : decode cX6_readsSecondDigit 0 = .ok (.aload_n 0, 1) := by decide +kernel
theorem dX6_readsSecondDigit_1 : decode cX6_readsSecondDigit 1 = .ok (.getfield 18, 3) := by decide +kernel
theorem dX6_readsSecondDigit_4 : decode cX6_readsSecondDigit 4 = .ok (.bipush 9, 2) := by decide +kernel
theorem dX6_readsSecondDigit_6 : decode cX6_readsSecondDigit 6 = .ok (.aload_n 0, 1) := by decide +kernel
theorem dX6_readsSecondDigit_7 : decode cX6_readsSecondDigit 7 = .ok (.getfield 72, 3) := by decide +kernel
theorem dX6_readsSecondDigit_10 : decode cX6_readsSecondDigit 10 = .ok (.imul, 1) := by decide +kernel
theorem dX6_readsSecondDigit_11 : decode cX6_readsSecondDigit 11 = .ok (.iload_n 1, 1) := by decide +kernel
theorem dX6_readsSecondDigit_12 : decode cX6_readsSecondDigit 12 = .ok (.iadd, 1) := by decide +kernel
theorem dX6_readsSecondDigit_13 : decode cX6_readsSecondDigit 13 = .ok (.bipush 48, 2) := by decide +kernel
theorem dX6_readsSecondDigit_15 : decode cX6_readsSecondDigit 15 = .ok (.isub, 1) := by decide +kernel
theorem dX6_readsSecondDigit_16 : decode cX6_readsSecondDigit 16 = .ok (.invokevirtual 75, 3) := by decide +kernel
theorem dX6_readsSecondDigit_19 : decode cX6_readsSecondDigit 19 = .ok (.aload_n 0, 1) := by decide +kernel
theorem dX6_readsSecondDigit_20 : decode cX6_readsSecondDigit 20 = .ok (.iconst 2, 1) := by decide +kernel
theorem dX6_readsSecondDigit_21 : decode cX6_readsSecondDigit 21 = .ok (.putfield 34, 3) := by decide +kernel
theorem dX6_readsSecondDigit_24 : decode cX6_readsSecondDigit 24 = .ok (.iconst 1, 1) := by decide +kernel
theorem dX6_readsSecondDigit_25 : decode cX6_readsSecondDigit 25 = .ok (.ireturn, 1) := by decide +kernel
theorem dX6_readsSign_0 : decode cX6_readsSign 0 = .ok (.iload_n 1, 1) := by decide +kernel
theorem dX6_readsSign_1 : decode cX6_readsSign 1 = .ok (.bipush 43, 2) := by decide +kernel
theorem dX6_readsSign_3 : decode cX6_readsSign 3 = .ok (.if_icmp .ne 18, 3) := by decide +kernel
theorem dX6_readsSign_6 : decode cX6_readsSign 6 = .ok (.aload_n 0, 1) := by decide +kernel
theorem dX6_readsSign_7 : decode cX6_readsSign 7 = .ok (.getfield 37, 3) := by decide +kernel
theorem dX6_readsSign_10 : decode cX6_readsSign 10 = .ok (.iconst 4, 1) := by decide +kernel
theorem dX6_readsSign_11 : decode cX6_readsSign 11 = .ok (.if_icmp .ge 10, 3) := by decide +kernel
theorem dX6_readsSign_14 : decode cX6_readsSign 14 = .ok (.aload_n 0, 1) := by decide +kernel
theorem dX6_readsSign_15 : decode cX6_readsSign 15 = .ok (.iconst 0, 1) := by decide +kernel
theorem dX6_readsSign_16 : decode cX6_readsSign 16 = .ok (.putfield 34, 3) := by decide +kernel
theorem dX6_readsSign_19 : decode cX6_readsSign 19 = .ok (.iconst 1, 1) := by decide +kernel
theorem dX6_readsSign_20 : decode cX6_readsSign 20 = .ok (.ireturn, 1) := by decide +kernel
theorem dX6_readsSign_21 : decode cX6_readsSign 21 = .ok (.aload_n 0, 1) := by decide +kernel
theorem dX6_readsSign_22 : decode cX6_readsSign 22 = .ok (.iconst 3, 1) := by decide +kernel
theorem dX6_readsSign_23 : decode cX6_readsSign 23 = .ok (.putfield 34, 3) := by decide +kernel
theorem dX6_readsSign_26 : decode cX6_readsSign 26 = .ok (.iload_n 1, 1) := by decide +kernel
theorem dX6_readsSign_27 : decode cX6_readsSign 27 = .ok (.bipush 59, 2) := by decide +kernel
theorem dX6_readsSign_29 : decode cX6_readsSign 29 = .ok (.if_icmp .ne 7, 3) := by decide +kernel
theorem dX6_readsSign_32 : decode cX6_readsSign 32 = .ok (.iconst 1, 1) := by decide +kernel
theorem dX6_readsSign_33 : decode cX6_readsSign 33 = .ok (.goto 4, 3) := by decide +kernel
theorem dX6_readsSign_36 : decode cX6_readsSign 36 = .ok (.iconst 0, 1) := by decide +kernel
theorem dX6_readsSign_37 : decode cX6_readsSign 37 = .ok (.ireturn, 1) := by decide +kernel
theorem dX6_mixInto_0 : decode cX6_mixInto 0 = .ok (.lload_n 1, 1) := by decide +kernel
theorem dX6_mixInto_1 : decode cX6_mixInto 1 = .ok (.lstore_n 3, 1) := by decide +kernel
theorem dX6_mixInto_2 : decode cX6_mixInto 2 = .ok (.iconst 0, 1) := by decide +kernel
theorem dX6_mixInto_3 : decode cX6_mixInto 3 = .ok (.istore 5, 2) := by decide +kernel
theorem dX6_mixInto_5 : decode cX6_mixInto 5 = .ok (.iload 5, 2) := by decide +kernel
theorem dX6_mixInto_7 : decode cX6_mixInto 7 = .ok (.aload_n 0, 1) := by decide +kernel
theorem dX6_mixInto_8 : decode cX6_mixInto 8 = .ok (.getfield 26, 3) := by decide +kernel
theorem dX6_mixInto_11 : decode cX6_mixInto 11 = .ok (.if_icmp .ge 32, 3) := by decide +kernel
theorem dX6_mixInto_14 : decode cX6_mixInto 14 = .ok (.iload 5, 2) := by decide +kernel
theorem dX6_mixInto_16 : decode cX6_mixInto 16 = .ok (.aload_n 0, 1) := by decide +kernel
theorem dX6_mixInto_17 : decode cX6_mixInto 17 = .ok (.getfield 9, 3) := by decide +kernel
theorem dX6_mixInto_20 : decode cX6_mixInto 20 = .ok (.arraylength, 1) := by decide +kernel
theorem dX6_mixInto_21 : decode cX6_mixInto 21 = .ok (.if_icmp .ge 22, 3) := by decide +kernel
theorem dX6_mixInto_24 : decode cX6_mixInto 24 = .ok (.lload_n 3, 1) := by decide +kernel
theorem dX6_mixInto_25 : decode cX6_mixInto 25 = .ok (.aload_n 0, 1) := by decide +kernel
theorem dX6_mixInto_26 : decode cX6_mixInto 26 = .ok (.getfield 9, 3) := by decide +kernel
theorem dX6_mixInto_29 : decode cX6_mixInto 29 = .ok (.iload 5, 2) := by decide +kernel
theorem dX6_mixInto_31 : decode cX6_mixInto 31 = .ok (.iaload, 1) := by decide +kernel
theorem dX6_mixInto_32 : decode cX6_mixInto 32 = .ok (.i2l, 1) := by decide +kernel
theorem dX6_mixInto_33 : decode cX6_mixInto 33 = .ok (.invokestatic 79, 3) := by decide +kernel
theorem dX6_mixInto_36 : decode cX6_mixInto 36 = .ok (.lstore_n 3, 1) := by decide +kernel
theorem dX6_mixInto_37 : decode cX6_mixInto 37 = .ok (.iinc 5 1, 3) := by decide +kernel
theorem dX6_mixInto_40 : decode cX6_mixInto 40 = .ok (.goto (-35), 3) := by decide +kernel
theorem dX6_mixInto_43 : decode cX6_mixInto 43 = .ok (.lload_n 3, 1) := by decide +kernel
theorem dX6_mixInto_44 : decode cX6_mixInto 44 = .ok (.lreturn, 1) := by decide +kernel
theorem dX7_init_0 : decode cX7_init 0 = .ok (.aload_n 0, 1) := by decide +kernel
theorem dX7_init_1 : decode cX7_init 1 = .ok (.aload_n 1, 1) := by decide +kernel
theorem dX7_init_2 : decode cX7_init 2 = .ok (.iload_n 2, 1) := by decide +kernel
theorem dX7_init_3 : decode cX7_init 3 = .ok (.invokespecial 3, 3) := by decide +kernel
theorem dX7_init_6 : decode cX7_init 6 = .ok (.return_, 1) := by decide +kernel
theorem dX7_kind_0 : decode cX7_kind 0 = .ok (.iconst 4, 1) := by decide +kernel
theorem dX7_kind_1 : decode cX7_kind 1 = .ok (.ireturn, 1) := by decide +kernel
theorem dX7_hard_0 : decode cX7_hard 0 = .ok (.iconst 0, 1) := by decide +kernel
theorem dX7_hard_1 : decode cX7_hard 1 = .ok (.ireturn, 1) := by decide +kernel
theorem dX8_init_0 : decode cX8_init 0 = .ok (.aload_n 0, 1) := by decide +kernel
theorem dX8_init_1 : decode cX8_init 1 = .ok (.aload_n 1, 1) := by decide +kernel
theorem dX8_init_2 : decode cX8_init 2 = .ok (.iload_n 2, 1) := by decide +kernel
theorem dX8_init_3 : decode cX8_init 3 = .ok (.invokespecial 3, 3) := by decide +kernel
theorem dX8_init_6 : decode cX8_init 6 = .ok (.return_, 1) := by decide +kernel
theorem dX8_kind_0 : decode cX8_kind 0 = .ok (.iconst 3, 1) := by decide +kernel
theorem dX8_kind_1 : decode cX8_kind 1 = .ok (.ireturn, 1) := by decide +kernel
theorem dX8_hard_0 : decode cX8_hard 0 = .ok (.aload_n 0, 1) := by decide +kernel
theorem dX8_hard_1 : decode cX8_hard 1 = .ok (.getfield 9, 3) := by decide +kernel
theorem dX8_hard_4 : decode cX8_hard 4 = .ok (.iconst 3, 1) := by decide +kernel
theorem dX8_hard_5 : decode cX8_hard 5 = .ok (.iadd, 1) := by decide +kernel
theorem dX8_hard_6 : decode cX8_hard 6 = .ok (.ireturn, 1) := by decide +kernel
theorem dX9_init_0 : decode cX9_init 0 = .ok (.aload_n 0, 1) := by decide +kernel
theorem dX9_init_1 : decode cX9_init 1 = .ok (.invokespecial 3, 3) := by decide +kernel
theorem dX9_init_4 : decode cX9_init 4 = .ok (.aload_n 0, 1) := by decide +kernel
theorem dX9_init_5 : decode cX9_init 5 = .ok (.bipush 6, 2) := by decide +kernel
theorem dX9_init_7 : decode cX9_init 7 = .ok (.anewarray 9, 3) := by decide +kernel
theorem dX9_init_10 : decode cX9_init 10 = .ok (.putfield 11, 3) := by decide +kernel
theorem dX9_init_13 : decode cX9_init 13 = .ok (.aload_n 0, 1) := by decide +kernel
theorem dX9_init_14 : decode cX9_init 14 = .ok (.sipush 192, 3) := by decide +kernel
theorem dX9_init_17 : decode cX9_init 17 = .ok (.newarray .long, 2) := by decide +kernel
theorem dX9_init_19 : decode cX9_init 19 = .ok (.putfield 17, 3) := by decide +kernel
theorem dX9_init_22 : decode cX9_init 22 = .ok (.return_, 1) := by decide +kernel
theorem dX9_gather_0 : decode cX9_gather 0 = .ok (.aload_n 0, 1) := by decide +kernel
theorem dX9_gather_1 : decode cX9_gather 1 = .ok (.iconst 0, 1) := by decide +kernel
theorem dX9_gather_2 : decode cX9_gather 2 = .ok (.putfield 21, 3) := by decide +kernel
theorem dX9_gather_5 : decode cX9_gather 5 = .ok (.iconst 0, 1) := by decide +kernel
theorem dX9_gather_6 : decode cX9_gather 6 = .ok (.istore 4, 2) := by decide +kernel
theorem dX9_gather_8 : decode cX9_gather 8 = .ok (.iload 4, 2) := by decide +kernel
theorem dX9_gather_10 : decode cX9_gather 10 = .ok (.aload_n 1, 1) := by decide +kernel
theorem dX9_gather_11 : decode cX9_gather 11 = .ok (.arraylength, 1) := by decide +kernel
theorem dX9_gather_12 : decode cX9_gather 12 = .ok (.if_icmp .ge 49, 3) := by decide +kernel
theorem dX9_gather_15 : decode cX9_gather 15 = .ok (.aload_n 0, 1) := by decide +kernel
theorem dX9_gather_16 : decode cX9_gather 16 = .ok (.getfield 21, 3) := by decide +kernel
theorem dX9_gather_19 : decode cX9_gather 19 = .ok (.iconst 5, 1) := by decide +kernel
theorem dX9_gather_20 : decode cX9_gather 20 = .ok (.if_icmp .ge 41, 3) := by decide +kernel
theorem dX9_gather_23 : decode cX9_gather 23 = .ok (.iload_n 2, 1) := by decide +kernel
theorem dX9_gather_24 : decode cX9_gather 24 = .ok (.iload 4, 2) := by decide +kernel
theorem dX9_gather_26 : decode cX9_gather 26 = .ok (.ishr, 1) := by decide +kernel
theorem dX9_gather_27 : decode cX9_gather 27 = .ok (.iconst 1, 1) := by decide +kernel
theorem dX9_gather_28 : decode cX9_gather 28 = .ok (.iand, 1) := by decide +kernel
theorem dX9_gather_29 : decode cX9_gather 29 = .ok (.ifCond .eq 26, 3) := by decide +kernel
theorem dX9_gather_32 : decode cX9_gather 32 = .ok (.aload_n 0, 1) := by decide +kernel
theorem dX9_gather_33 : decode cX9_gather 33 = .ok (.getfield 11, 3) := by decide +kernel
theorem dX9_gather_36 : decode cX9_gather 36 = .ok (.aload_n 0, 1) := by decide +kernel
theorem dX9_gather_37 : decode cX9_gather 37 = .ok (.getfield 21, 3) := by decide +kernel
theorem dX9_gather_40 : decode cX9_gather 40 = .ok (.aload_n 1, 1) := by decide +kernel
theorem dX9_gather_41 : decode cX9_gather 41 = .ok (.iload 4, 2) := by decide +kernel
theorem dX9_gather_43 : decode cX9_gather 43 = .ok (.aaload, 1) := by decide +kernel
theorem dX9_gather_44 : decode cX9_gather 44 = .ok (.aastore, 1) := by decide +kernel
theorem dX9_gather_45 : decode cX9_gather 45 = .ok (.aload_n 0, 1) := by decide +kernel
theorem dX9_gather_46 : decode cX9_gather 46 = .ok (.dup, 1) := by decide +kernel
theorem dX9_gather_47 : decode cX9_gather 47 = .ok (.getfield 21, 3) := by decide +kernel
theorem dX9_gather_50 : decode cX9_gather 50 = .ok (.iconst 1, 1) := by decide +kernel
theorem dX9_gather_51 : decode cX9_gather 51 = .ok (.iadd, 1) := by decide +kernel
theorem dX9_gather_52 : decode cX9_gather 52 = .ok (.putfield 21, 3) := by decide +kernel
theorem dX9_gather_55 : decode cX9_gather 55 = .ok (.iinc 4 1, 3) := by decide +kernel
theorem dX9_gather_58 : decode cX9_gather 58 = .ok (.goto (-50), 3) := by decide +kernel
theorem dX9_gather_61 : decode cX9_gather 61 = .ok (.aload_n 0, 1) := by decide +kernel
theorem dX9_gather_62 : decode cX9_gather 62 = .ok (.getfield 11, 3) := by decide +kernel
theorem dX9_gather_65 : decode cX9_gather 65 = .ok (.aload_n 0, 1) := by decide +kernel
theorem dX9_gather_66 : decode cX9_gather 66 = .ok (.getfield 21, 3) := by decide +kernel
theorem dX9_gather_69 : decode cX9_gather 69 = .ok (.aload_n 3, 1) := by decide +kernel
theorem dX9_gather_70 : decode cX9_gather 70 = .ok (.aastore, 1) := by decide +kernel
theorem dX9_gather_71 : decode cX9_gather 71 = .ok (.return_, 1) := by decide +kernel
theorem dX9_allCounts_0 : decode cX9_allCounts 0 = .ok (.iconst 0, 1) := by decide +kernel
theorem dX9_allCounts_1 : decode cX9_allCounts 1 = .ok (.istore_n 2, 1) := by decide +kernel
theorem dX9_allCounts_2 : decode cX9_allCounts 2 = .ok (.iload_n 2, 1) := by decide +kernel
theorem dX9_allCounts_3 : decode cX9_allCounts 3 = .ok (.iconst 1, 1) := by decide +kernel
theorem dX9_allCounts_4 : decode cX9_allCounts 4 = .ok (.aload_n 0, 1) := by decide +kernel
theorem dX9_allCounts_5 : decode cX9_allCounts 5 = .ok (.getfield 21, 3) := by decide +kernel
theorem dX9_allCounts_8 : decode cX9_allCounts 8 = .ok (.ishl, 1) := by decide +kernel
theorem dX9_allCounts_9 : decode cX9_allCounts 9 = .ok (.if_icmp .ge 67, 3) := by decide +kernel
theorem dX9_allCounts_12 : decode cX9_allCounts 12 = .ok (.iconst 0, 1) := by decide +kernel
theorem dX9_allCounts_13 : decode cX9_allCounts 13 = .ok (.istore_n 3, 1) := by decide +kernel
theorem dX9_allCounts_14 : decode cX9_allCounts 14 = .ok (.iload_n 3, 1) := by decide +kernel
theorem dX9_allCounts_15 : decode cX9_allCounts 15 = .ok (.aload_n 0, 1) := by decide +kernel
theorem dX9_allCounts_16 : decode cX9_allCounts 16 = .ok (.getfield 21, 3) := by decide +kernel
theorem dX9_allCounts_19 : decode cX9_allCounts 19 = .ok (.if_icmp .gt 51, 3) := by decide +kernel
theorem dX9_allCounts_22 : decode cX9_allCounts 22 = .ok (.iload_n 2, 1) := by decide +kernel
theorem dX9_allCounts_23 : decode cX9_allCounts 23 = .ok (.iload_n 3, 1) := by decide +kernel
theorem dX9_allCounts_24 : decode cX9_allCounts 24 = .ok (.ishr, 1) := by decide +kernel
theorem dX9_allCounts_25 : decode cX9_allCounts 25 = .ok (.iconst 1, 1) := by decide +kernel
theorem dX9_allCounts_26 : decode cX9_allCounts 26 = .ok (.iand, 1) := by decide +kernel
theorem dX9_allCounts_27 : decode cX9_allCounts 27 = .ok (.ifCond .ne 37, 3) := by decide +kernel
theorem dX9_allCounts_30 : decode cX9_allCounts 30 = .ok (.aload_n 0, 1) := by decide +kernel
theorem dX9_allCounts_31 : decode cX9_allCounts 31 = .ok (.getfield 17, 3) := by decide +kernel
theorem dX9_allCounts_34 : decode cX9_allCounts 34 = .ok (.iload_n 3, 1) := by decide +kernel
theorem dX9_allCounts_35 : decode cX9_allCounts 35 = .ok (.bipush 32, 2) := by decide +kernel
theorem dX9_allCounts_37 : decode cX9_allCounts 37 = .ok (.imul, 1) := by decide +kernel
theorem dX9_allCounts_38 : decode cX9_allCounts 38 = .ok (.iload_n 2, 1) := by decide +kernel
theorem dX9_allCounts_39 : decode cX9_allCounts 39 = .ok (.iadd, 1) := by decide +kernel
theorem dX9_allCounts_40 : decode cX9_allCounts 40 = .ok (.iload_n 2, 1) := by decide +kernel
theorem dX9_allCounts_41 : decode cX9_allCounts 41 = .ok (.ifCond .ne 15, 3) := by decide +kernel
theorem dX9_allCounts_44 : decode cX9_allCounts 44 = .ok (.aload_n 0, 1) := by decide +kernel
theorem dX9_allCounts_45 : decode cX9_allCounts 45 = .ok (.getfield 11, 3) := by decide +kernel
theorem dX9_allCounts_48 : decode cX9_allCounts 48 = .ok (.iload_n 3, 1) := by decide +kernel
theorem dX9_allCounts_49 : decode cX9_allCounts 49 = .ok (.aaload, 1) := by decide +kernel
theorem dX9_allCounts_50 : decode cX9_allCounts 50 = .ok (.invokestatic 25, 3) := by decide +kernel
theorem dX9_allCounts_53 : decode cX9_allCounts 53 = .ok (.goto 10, 3) := by decide +kernel
theorem dX9_allCounts_56 : decode cX9_allCounts 56 = .ok (.aload_n 0, 1) := by decide +kernel
theorem dX9_allCounts_57 : decode cX9_allCounts 57 = .ok (.iload_n 3, 1) := by decide +kernel
theorem dX9_allCounts_58 : decode cX9_allCounts 58 = .ok (.iload_n 2, 1) := by decide +kernel
theorem dX9_allCounts_59 : decode cX9_allCounts 59 = .ok (.iload_n 1, 1) := by decide +kernel
theorem dX9_allCounts_60 : decode cX9_allCounts 60 = .ok (.invokevirtual 29, 3) := by decide +kernel
theorem dX9_allCounts_63 : decode cX9_allCounts 63 = .ok (.lastore, 1) := by decide +kernel
theorem dX9_allCounts_64 : decode cX9_allCounts 64 = .ok (.iinc 3 1, 3) := by decide +kernel
theorem dX9_allCounts_67 : decode cX9_allCounts 67 = .ok (.goto (-53), 3) := by decide +kernel
theorem dX9_allCounts_70 : decode cX9_allCounts 70 = .ok (.iinc 2 1, 3) := by decide +kernel
theorem dX9_allCounts_73 : decode cX9_allCounts 73 = .ok (.goto (-71), 3) := by decide +kernel
theorem dX9_allCounts_76 : decode cX9_allCounts 76 = .ok (.aload_n 0, 1) := by decide +kernel
theorem dX9_allCounts_77 : decode cX9_allCounts 77 = .ok (.getfield 17, 3) := by decide +kernel
theorem dX9_allCounts_80 : decode cX9_allCounts 80 = .ok (.aload_n 0, 1) := by decide +kernel
theorem dX9_allCounts_81 : decode cX9_allCounts 81 = .ok (.getfield 21, 3) := by decide +kernel
theorem dX9_allCounts_84 : decode cX9_allCounts 84 = .ok (.bipush 32, 2) := by decide +kernel
theorem dX9_allCounts_86 : decode cX9_allCounts 86 = .ok (.imul, 1) := by decide +kernel
theorem dX9_allCounts_87 : decode cX9_allCounts 87 = .ok (.iconst 1, 1) := by decide +kernel
theorem dX9_allCounts_88 : decode cX9_allCounts 88 = .ok (.aload_n 0, 1) := by decide +kernel
theorem dX9_allCounts_89 : decode cX9_allCounts 89 = .ok (.getfield 21, 3) := by decide +kernel
theorem dX9_allCounts_92 : decode cX9_allCounts 92 = .ok (.ishl, 1) := by decide +kernel
theorem dX9_allCounts_93 : decode cX9_allCounts 93 = .ok (.iadd, 1) := by decide +kernel
theorem dX9_allCounts_94 : decode cX9_allCounts 94 = .ok (.iconst 1, 1) := by decide +kernel
theorem dX9_allCounts_95 : decode cX9_allCounts 95 = .ok (.isub, 1) := by decide +kernel
theorem dX9_allCounts_96 : decode cX9_allCounts 96 = .ok (.laload, 1) := by decide +kernel
theorem dX9_allCounts_97 : decode cX9_allCounts 97 = .ok (.lreturn, 1) := by decide +kernel
theorem dX9_firstCount_0 : decode cX9_firstCount 0 = .ok (.aload_n 0, 1) := by decide +kernel
theorem dX9_firstCount_1 : decode cX9_firstCount 1 = .ok (.ifnonnull 7, 3) := by decide +kernel
theorem dX9_firstCount_4 : decode cX9_firstCount 4 = .ok (.lconst 0, 1) := by decide +kernel
theorem dX9_firstCount_5 : decode cX9_firstCount 5 = .ok (.goto 14, 3) := by decide +kernel
theorem dX9_firstCount_8 : decode cX9_firstCount 8 = .ok (.lconst 1, 1) := by decide +kernel
theorem dX9_firstCount_9 : decode cX9_firstCount 9 = .ok (.bipush 62, 2) := by decide +kernel
theorem dX9_firstCount_11 : decode cX9_firstCount 11 = .ok (.aload_n 0, 1) := by decide +kernel
theorem dX9_firstCount_12 : decode cX9_firstCount 12 = .ok (.getfield 33, 3) := by decide +kernel
theorem dX9_firstCount_15 : decode cX9_firstCount 15 = .ok (.invokestatic 36, 3) := by decide +kernel
theorem dX9_firstCount_18 : decode cX9_firstCount 18 = .ok (.lshl, 1) := by decide +kernel
theorem dX9_firstCount_19 : decode cX9_firstCount 19 = .ok (.lreturn, 1) := by decide +kernel
theorem dX9_countsOver_0 : decode cX9_countsOver 0 = .ok (.lconst 0, 1) := by decide +kernel
theorem dX9_countsOver_1 : decode cX9_countsOver 1 = .ok (.lstore 4, 2) := by decide +kernel
theorem dX9_countsOver_3 : decode cX9_countsOver 3 = .ok (.iconst 0, 1) := by decide +kernel
theorem dX9_countsOver_4 : decode cX9_countsOver 4 = .ok (.istore 6, 2) := by decide +kernel
theorem dX9_countsOver_6 : decode cX9_countsOver 6 = .ok (.iload 6, 2) := by decide +kernel
theorem dX9_countsOver_8 : decode cX9_countsOver 8 = .ok (.aload_n 0, 1) := by decide +kernel
theorem dX9_countsOver_9 : decode cX9_countsOver 9 = .ok (.getfield 21, 3) := by decide +kernel
theorem dX9_countsOver_12 : decode cX9_countsOver 12 = .ok (.if_icmp .ge 111, 3) := by decide +kernel
theorem dX9_countsOver_15 : decode cX9_countsOver 15 = .ok (.iload_n 2, 1) := by decide +kernel
theorem dX9_countsOver_16 : decode cX9_countsOver 16 = .ok (.iconst 1, 1) := by decide +kernel
theorem dX9_countsOver_17 : decode cX9_countsOver 17 = .ok (.iload 6, 2) := by decide +kernel
theorem dX9_countsOver_19 : decode cX9_countsOver 19 = .ok (.ishl, 1) := by decide +kernel
theorem dX9_countsOver_20 : decode cX9_countsOver 20 = .ok (.iconst (-1), 1) := by decide +kernel
theorem dX9_countsOver_21 : decode cX9_countsOver 21 = .ok (.ixor, 1) := by decide +kernel
theorem dX9_countsOver_22 : decode cX9_countsOver 22 = .ok (.iand, 1) := by decide +kernel
theorem dX9_countsOver_23 : decode cX9_countsOver 23 = .ok (.istore 7, 2) := by decide +kernel
theorem dX9_countsOver_25 : decode cX9_countsOver 25 = .ok (.iconst 0, 1) := by decide +kernel
theorem dX9_countsOver_26 : decode cX9_countsOver 26 = .ok (.istore 8, 2) := by decide +kernel
theorem dX9_countsOver_28 : decode cX9_countsOver 28 = .ok (.iload 7, 2) := by decide +kernel
theorem dX9_countsOver_30 : decode cX9_countsOver 30 = .ok (.iload_n 2, 1) := by decide +kernel
theorem dX9_countsOver_31 : decode cX9_countsOver 31 = .ok (.if_icmp .eq 86, 3) := by decide +kernel
theorem dX9_countsOver_34 : decode cX9_countsOver 34 = .ok (.iload 8, 2) := by decide +kernel
theorem dX9_countsOver_36 : decode cX9_countsOver 36 = .ok (.iload 7, 2) := by decide +kernel
theorem dX9_countsOver_38 : decode cX9_countsOver 38 = .ok (.if_icmp .gt 79, 3) := by decide +kernel
theorem dX9_countsOver_41 : decode cX9_countsOver 41 = .ok (.iload 8, 2) := by decide +kernel
theorem dX9_countsOver_43 : decode cX9_countsOver 43 = .ok (.iload 7, 2) := by decide +kernel
theorem dX9_countsOver_45 : decode cX9_countsOver 45 = .ok (.iconst (-1), 1) := by decide +kernel
theorem dX9_countsOver_46 : decode cX9_countsOver 46 = .ok (.ixor, 1) := by decide +kernel
theorem dX9_countsOver_47 : decode cX9_countsOver 47 = .ok (.iand, 1) := by decide +kernel
theorem dX9_countsOver_48 : decode cX9_countsOver 48 = .ok (.ifCond .ne 63, 3) := by decide +kernel
theorem dX9_countsOver_51 : decode cX9_countsOver 51 = .ok (.aload_n 0, 1) := by decide +kernel
theorem dX9_countsOver_52 : decode cX9_countsOver 52 = .ok (.getfield 17, 3) := by decide +kernel
theorem dX9_countsOver_55 : decode cX9_countsOver 55 = .ok (.iload_n 1, 1) := by decide +kernel
theorem dX9_countsOver_56 : decode cX9_countsOver 56 = .ok (.bipush 32, 2) := by decide +kernel
theorem dX9_countsOver_58 : decode cX9_countsOver 58 = .ok (.imul, 1) := by decide +kernel
theorem dX9_countsOver_59 : decode cX9_countsOver 59 = .ok (.iload 7, 2) := by decide +kernel
theorem dX9_countsOver_61 : decode cX9_countsOver 61 = .ok (.iload 8, 2) := by decide +kernel
theorem dX9_countsOver_63 : decode cX9_countsOver 63 = .ok (.iconst (-1), 1) := by decide +kernel
theorem dX9_countsOver_64 : decode cX9_countsOver 64 = .ok (.ixor, 1) := by decide +kernel
theorem dX9_countsOver_65 : decode cX9_countsOver 65 = .ok (.iand, 1) := by decide +kernel
theorem dX9_countsOver_66 : decode cX9_countsOver 66 = .ok (.iadd, 1) := by decide +kernel
theorem dX9_countsOver_67 : decode cX9_countsOver 67 = .ok (.laload, 1) := by decide +kernel
theorem dX9_countsOver_68 : decode cX9_countsOver 68 = .ok (.lstore 9, 2) := by decide +kernel
theorem dX9_countsOver_70 : decode cX9_countsOver 70 = .ok (.aload_n 0, 1) := by decide +kernel
theorem dX9_countsOver_71 : decode cX9_countsOver 71 = .ok (.getfield 17, 3) := by decide +kernel
theorem dX9_countsOver_74 : decode cX9_countsOver 74 = .ok (.iload 6, 2) := by decide +kernel
theorem dX9_countsOver_76 : decode cX9_countsOver 76 = .ok (.bipush 32, 2) := by decide +kernel
theorem dX9_countsOver_78 : decode cX9_countsOver 78 = .ok (.imul, 1) := by decide +kernel
theorem dX9_countsOver_79 : decode cX9_countsOver 79 = .ok (.iload 8, 2) := by decide +kernel
theorem dX9_countsOver_81 : decode cX9_countsOver 81 = .ok (.iadd, 1) := by decide +kernel
theorem dX9_countsOver_82 : decode cX9_countsOver 82 = .ok (.laload, 1) := by decide +kernel
theorem dX9_countsOver_83 : decode cX9_countsOver 83 = .ok (.lstore 11, 2) := by decide +kernel
theorem dX9_countsOver_85 : decode cX9_countsOver 85 = .ok (.lload 4, 2) := by decide +kernel
theorem dX9_countsOver_87 : decode cX9_countsOver 87 = .ok (.aload_n 0, 1) := by decide +kernel
theorem dX9_countsOver_88 : decode cX9_countsOver 88 = .ok (.getfield 11, 3) := by decide +kernel
theorem dX9_countsOver_91 : decode cX9_countsOver 91 = .ok (.iload_n 1, 1) := by decide +kernel
theorem dX9_countsOver_92 : decode cX9_countsOver 92 = .ok (.aaload, 1) := by decide +kernel
theorem dX9_countsOver_93 : decode cX9_countsOver 93 = .ok (.aload_n 0, 1) := by decide +kernel
theorem dX9_countsOver_94 : decode cX9_countsOver 94 = .ok (.getfield 11, 3) := by decide +kernel
theorem dX9_countsOver_97 : decode cX9_countsOver 97 = .ok (.iload 6, 2) := by decide +kernel
theorem dX9_countsOver_99 : decode cX9_countsOver 99 = .ok (.aaload, 1) := by decide +kernel
theorem dX9_countsOver_100 : decode cX9_countsOver 100 = .ok (.lload 9, 2) := by decide +kernel
theorem dX9_countsOver_102 : decode cX9_countsOver 102 = .ok (.lload 11, 2) := by decide +kernel
