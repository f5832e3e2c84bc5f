theorem dX11_greatestDivisor_0 : decode cX11_greatestDivisor 0 = .ok (.lload_n 0, 1) := by decide +kernel
theorem dX11_greatestDivisor_1 : decode cX11_greatestDivisor 1 = .ok (.lstore 4, 2) := by decide +kernel
theorem dX11_greatestDivisor_3 : decode cX11_greatestDivisor 3 = .ok (.lload_n 2, 1) := by decide +kernel
theorem dX11_greatestDivisor_4 : decode cX11_greatestDivisor 4 = .ok (.lstore 6, 2) := by decide +kernel
theorem dX11_greatestDivisor_6 : decode cX11_greatestDivisor 6 = .ok (.iconst 0, 1) := by decide +kernel
theorem dX11_greatestDivisor_7 : decode cX11_greatestDivisor 7 = .ok (.istore 8, 2) := by decide +kernel
theorem dX11_greatestDivisor_9 : decode cX11_greatestDivisor 9 = .ok (.iload 8, 2) := by decide +kernel
theorem dX11_greatestDivisor_11 : decode cX11_greatestDivisor 11 = .ok (.sipush 200, 3) := by decide +kernel
theorem dX11_greatestDivisor_14 : decode cX11_greatestDivisor 14 = .ok (.if_icmp .ge 31, 3) := by decide +kernel
theorem dX11_greatestDivisor_17 : decode cX11_greatestDivisor 17 = .ok (.lload 6, 2) := by decide +kernel
theorem dX11_greatestDivisor_19 : decode cX11_greatestDivisor 19 = .ok (.lconst 0, 1) := by decide +kernel
theorem dX11_greatestDivisor_20 : decode cX11_greatestDivisor 20 = .ok (.lcmp, 1) := by decide +kernel
theorem dX11_greatestDivisor_21 : decode cX11_greatestDivisor 21 = .ok (.ifCond .eq 24, 3) := by decide +kernel
theorem dX11_greatestDivisor_24 : decode cX11_greatestDivisor 24 = .ok (.lload 4, 2) := by decide +kernel
theorem dX11_greatestDivisor_26 : decode cX11_greatestDivisor 26 = .ok (.lload 6, 2) := by decide +kernel
theorem dX11_greatestDivisor_28 : decode cX11_greatestDivisor 28 = .ok (.lrem, 1) := by decide +kernel
theorem dX11_greatestDivisor_29 : decode cX11_greatestDivisor 29 = .ok (.lstore 9, 2) := by decide +kernel
theorem dX11_greatestDivisor_31 : decode cX11_greatestDivisor 31 = .ok (.lload 6, 2) := by decide +kernel
theorem dX11_greatestDivisor_33 : decode cX11_greatestDivisor 33 = .ok (.lstore 4, 2) := by decide +kernel
theorem dX11_greatestDivisor_35 : decode cX11_greatestDivisor 35 = .ok (.lload 9, 2) := by decide +kernel
theorem dX11_greatestDivisor_37 : decode cX11_greatestDivisor 37 = .ok (.lstore 6, 2) := by decide +kernel
theorem dX11_greatestDivisor_39 : decode cX11_greatestDivisor 39 = .ok (.iinc 8 1, 3) := by decide +kernel
theorem dX11_greatestDivisor_42 : decode cX11_greatestDivisor 42 = .ok (.goto (-33), 3) := by decide +kernel
theorem dX11_greatestDivisor_45 : decode cX11_greatestDivisor 45 = .ok (.lload 4, 2) := by decide +kernel
theorem dX11_greatestDivisor_47 : decode cX11_greatestDivisor 47 = .ok (.lreturn, 1) := by decide +kernel
theorem dX11_mixed_0 : decode cX11_mixed 0 = .ok (.ldc2_w 322, 3) := by decide +kernel
theorem dX11_mixed_3 : decode cX11_mixed 3 = .ok (.lload_n 0, 1) := by decide +kernel
theorem dX11_mixed_4 : decode cX11_mixed 4 = .ok (.lmul, 1) := by decide +kernel
theorem dX11_mixed_5 : decode cX11_mixed 5 = .ok (.lload_n 2, 1) := by decide +kernel
theorem dX11_mixed_6 : decode cX11_mixed 6 = .ok (.ladd, 1) := by decide +kernel
theorem dX11_mixed_7 : decode cX11_mixed 7 = .ok (.lreturn, 1) := by decide +kernel
theorem dX11_mixSchools_0 : decode cX11_mixSchools 0 = .ok (.lload_n 1, 1) := by decide +kernel
theorem dX11_mixSchools_1 : decode cX11_mixSchools 1 = .ok (.lstore_n 3, 1) := by decide +kernel
theorem dX11_mixSchools_2 : decode cX11_mixSchools 2 = .ok (.iconst 0, 1) := by decide +kernel
theorem dX11_mixSchools_3 : decode cX11_mixSchools 3 = .ok (.istore 5, 2) := by decide +kernel
theorem dX11_mixSchools_5 : decode cX11_mixSchools 5 = .ok (.iload 5, 2) := by decide +kernel
theorem dX11_mixSchools_7 : decode cX11_mixSchools 7 = .ok (.aload_n 0, 1) := by decide +kernel
theorem dX11_mixSchools_8 : decode cX11_mixSchools 8 = .ok (.getfield 18, 3) := by decide +kernel
theorem dX11_mixSchools_11 : decode cX11_mixSchools 11 = .ok (.arraylength, 1) := by decide +kernel
theorem dX11_mixSchools_12 : decode cX11_mixSchools 12 = .ok (.if_icmp .ge 56, 3) := by decide +kernel
theorem dX11_mixSchools_15 : decode cX11_mixSchools 15 = .ok (.aload_n 0, 1) := by decide +kernel
theorem dX11_mixSchools_16 : decode cX11_mixSchools 16 = .ok (.getfield 18, 3) := by decide +kernel
theorem dX11_mixSchools_19 : decode cX11_mixSchools 19 = .ok (.iload 5, 2) := by decide +kernel
theorem dX11_mixSchools_21 : decode cX11_mixSchools 21 = .ok (.aaload, 1) := by decide +kernel
theorem dX11_mixSchools_22 : decode cX11_mixSchools 22 = .ok (.ifnull 46, 3) := by decide +kernel
theorem dX11_mixSchools_25 : decode cX11_mixSchools 25 = .ok (.lload_n 3, 1) := by decide +kernel
theorem dX11_mixSchools_26 : decode cX11_mixSchools 26 = .ok (.aload_n 0, 1) := by decide +kernel
theorem dX11_mixSchools_27 : decode cX11_mixSchools 27 = .ok (.getfield 18, 3) := by decide +kernel
theorem dX11_mixSchools_30 : decode cX11_mixSchools 30 = .ok (.iload 5, 2) := by decide +kernel
theorem dX11_mixSchools_32 : decode cX11_mixSchools 32 = .ok (.aaload, 1) := by decide +kernel
theorem dX11_mixSchools_33 : decode cX11_mixSchools 33 = .ok (.iconst 3, 1) := by decide +kernel
theorem dX11_mixSchools_34 : decode cX11_mixSchools 34 = .ok (.iconst 4, 1) := by decide +kernel
theorem dX11_mixSchools_35 : decode cX11_mixSchools 35 = .ok (.invokevirtual 99, 3) := by decide +kernel
theorem dX11_mixSchools_38 : decode cX11_mixSchools 38 = .ok (.i2l, 1) := by decide +kernel
theorem dX11_mixSchools_39 : decode cX11_mixSchools 39 = .ok (.invokestatic 275, 3) := by decide +kernel
theorem dX11_mixSchools_42 : decode cX11_mixSchools 42 = .ok (.lstore_n 3, 1) := by decide +kernel
theorem dX11_mixSchools_43 : decode cX11_mixSchools 43 = .ok (.lload_n 3, 1) := by decide +kernel
theorem dX11_mixSchools_44 : decode cX11_mixSchools 44 = .ok (.aload_n 0, 1) := by decide +kernel
theorem dX11_mixSchools_45 : decode cX11_mixSchools 45 = .ok (.getfield 18, 3) := by decide +kernel
theorem dX11_mixSchools_48 : decode cX11_mixSchools 48 = .ok (.iload 5, 2) := by decide +kernel
theorem dX11_mixSchools_50 : decode cX11_mixSchools 50 = .ok (.aaload, 1) := by decide +kernel
theorem dX11_mixSchools_51 : decode cX11_mixSchools 51 = .ok (.bipush 7, 2) := by decide +kernel
theorem dX11_mixSchools_53 : decode cX11_mixSchools 53 = .ok (.iconst 2, 1) := by decide +kernel
theorem dX11_mixSchools_54 : decode cX11_mixSchools 54 = .ok (.invokevirtual 99, 3) := by decide +kernel
theorem dX11_mixSchools_57 : decode cX11_mixSchools 57 = .ok (.i2l, 1) := by decide +kernel
theorem dX11_mixSchools_58 : decode cX11_mixSchools 58 = .ok (.invokestatic 275, 3) := by decide +kernel
theorem dX11_mixSchools_61 : decode cX11_mixSchools 61 = .ok (.lstore_n 3, 1) := by decide +kernel
theorem dX11_mixSchools_62 : decode cX11_mixSchools 62 = .ok (.iinc 5 1, 3) := by decide +kernel
theorem dX11_mixSchools_65 : decode cX11_mixSchools 65 = .ok (.goto (-60), 3) := by decide +kernel
theorem dX11_mixSchools_68 : decode cX11_mixSchools 68 = .ok (.lload_n 3, 1) := by decide +kernel
theorem dX11_mixSchools_69 : decode cX11_mixSchools 69 = .ok (.lreturn, 1) := by decide +kernel
theorem dX11_mixNuts_0 : decode cX11_mixNuts 0 = .ok (.lload_n 1, 1) := by decide +kernel
theorem dX11_mixNuts_1 : decode cX11_mixNuts 1 = .ok (.lstore_n 3, 1) := by decide +kernel
theorem dX11_mixNuts_2 : decode cX11_mixNuts 2 = .ok (.iconst 0, 1) := by decide +kernel
theorem dX11_mixNuts_3 : decode cX11_mixNuts 3 = .ok (.istore 5, 2) := by decide +kernel
theorem dX11_mixNuts_5 : decode cX11_mixNuts 5 = .ok (.iload 5, 2) := by decide +kernel
theorem dX11_mixNuts_7 : decode cX11_mixNuts 7 = .ok (.aload_n 0, 1) := by decide +kernel
theorem dX11_mixNuts_8 : decode cX11_mixNuts 8 = .ok (.getfield 24, 3) := by decide +kernel
theorem dX11_mixNuts_11 : decode cX11_mixNuts 11 = .ok (.arraylength, 1) := by decide +kernel
theorem dX11_mixNuts_12 : decode cX11_mixNuts 12 = .ok (.if_icmp .ge 69, 3) := by decide +kernel
theorem dX11_mixNuts_15 : decode cX11_mixNuts 15 = .ok (.aload_n 0, 1) := by decide +kernel
theorem dX11_mixNuts_16 : decode cX11_mixNuts 16 = .ok (.getfield 24, 3) := by decide +kernel
theorem dX11_mixNuts_19 : decode cX11_mixNuts 19 = .ok (.iload 5, 2) := by decide +kernel
theorem dX11_mixNuts_21 : decode cX11_mixNuts 21 = .ok (.aaload, 1) := by decide +kernel
theorem dX11_mixNuts_22 : decode cX11_mixNuts 22 = .ok (.ifnull 59, 3) := by decide +kernel
theorem dX11_mixNuts_25 : decode cX11_mixNuts 25 = .ok (.iconst 0, 1) := by decide +kernel
theorem dX11_mixNuts_26 : decode cX11_mixNuts 26 = .ok (.istore 6, 2) := by decide +kernel
theorem dX11_mixNuts_28 : decode cX11_mixNuts 28 = .ok (.iload 6, 2) := by decide +kernel
theorem dX11_mixNuts_30 : decode cX11_mixNuts 30 = .ok (.bipush 7, 2) := by decide +kernel
theorem dX11_mixNuts_32 : decode cX11_mixNuts 32 = .ok (.if_icmp .gt 27, 3) := by decide +kernel
theorem dX11_mixNuts_35 : decode cX11_mixNuts 35 = .ok (.lload_n 3, 1) := by decide +kernel
theorem dX11_mixNuts_36 : decode cX11_mixNuts 36 = .ok (.aload_n 0, 1) := by decide +kernel
theorem dX11_mixNuts_37 : decode cX11_mixNuts 37 = .ok (.getfield 24, 3) := by decide +kernel
theorem dX11_mixNuts_40 : decode cX11_mixNuts 40 = .ok (.iload 5, 2) := by decide +kernel
theorem dX11_mixNuts_42 : decode cX11_mixNuts 42 = .ok (.aaload, 1) := by decide +kernel
theorem dX11_mixNuts_43 : decode cX11_mixNuts 43 = .ok (.iload 6, 2) := by decide +kernel
theorem dX11_mixNuts_45 : decode cX11_mixNuts 45 = .ok (.invokevirtual 123, 3) := by decide +kernel
theorem dX11_mixNuts_48 : decode cX11_mixNuts 48 = .ok (.i2l, 1) := by decide +kernel
theorem dX11_mixNuts_49 : decode cX11_mixNuts 49 = .ok (.invokestatic 275, 3) := by decide +kernel
theorem dX11_mixNuts_52 : decode cX11_mixNuts 52 = .ok (.lstore_n 3, 1) := by decide +kernel
theorem dX11_mixNuts_53 : decode cX11_mixNuts 53 = .ok (.iinc 6 1, 3) := by decide +kernel
theorem dX11_mixNuts_56 : decode cX11_mixNuts 56 = .ok (.goto (-28), 3) := by decide +kernel
theorem dX11_mixNuts_59 : decode cX11_mixNuts 59 = .ok (.lload_n 3, 1) := by decide +kernel
theorem dX11_mixNuts_60 : decode cX11_mixNuts 60 = .ok (.aload_n 0, 1) := by decide +kernel
theorem dX11_mixNuts_61 : decode cX11_mixNuts 61 = .ok (.getfield 24, 3) := by decide +kernel
theorem dX11_mixNuts_64 : decode cX11_mixNuts 64 = .ok (.iload 5, 2) := by decide +kernel
theorem dX11_mixNuts_66 : decode cX11_mixNuts 66 = .ok (.aaload, 1) := by decide +kernel
theorem dX11_mixNuts_67 : decode cX11_mixNuts 67 = .ok (.getfield 159, 3) := by decide +kernel
theorem dX11_mixNuts_70 : decode cX11_mixNuts 70 = .ok (.i2l, 1) := by decide +kernel
theorem dX11_mixNuts_71 : decode cX11_mixNuts 71 = .ok (.invokestatic 275, 3) := by decide +kernel
theorem dX11_mixNuts_74 : decode cX11_mixNuts 74 = .ok (.lstore_n 3, 1) := by decide +kernel
theorem dX11_mixNuts_75 : decode cX11_mixNuts 75 = .ok (.iinc 5 1, 3) := by decide +kernel
theorem dX11_mixNuts_78 : decode cX11_mixNuts 78 = .ok (.goto (-73), 3) := by decide +kernel
theorem dX11_mixNuts_81 : decode cX11_mixNuts 81 = .ok (.lload_n 3, 1) := by decide +kernel
theorem dX11_mixNuts_82 : decode cX11_mixNuts 82 = .ok (.lreturn, 1) := by decide +kernel
theorem dX11_mixSeasons_0 : decode cX11_mixSeasons 0 = .ok (.lload_n 1, 1) := by decide +kernel
theorem dX11_mixSeasons_1 : decode cX11_mixSeasons 1 = .ok (.lstore_n 3, 1) := by decide +kernel
theorem dX11_mixSeasons_2 : decode cX11_mixSeasons 2 = .ok (.iconst 0, 1) := by decide +kernel
theorem dX11_mixSeasons_3 : decode cX11_mixSeasons 3 = .ok (.istore 5, 2) := by decide +kernel
theorem dX11_mixSeasons_5 : decode cX11_mixSeasons 5 = .ok (.iload 5, 2) := by decide +kernel
theorem dX11_mixSeasons_7 : decode cX11_mixSeasons 7 = .ok (.aload_n 0, 1) := by decide +kernel
theorem dX11_mixSeasons_8 : decode cX11_mixSeasons 8 = .ok (.getfield 24, 3) := by decide +kernel
theorem dX11_mixSeasons_11 : decode cX11_mixSeasons 11 = .ok (.arraylength, 1) := by decide +kernel
theorem dX11_mixSeasons_12 : decode cX11_mixSeasons 12 = .ok (.if_icmp .ge 43, 3) := by decide +kernel
theorem dX11_mixSeasons_15 : decode cX11_mixSeasons 15 = .ok (.aload_n 0, 1) := by decide +kernel
theorem dX11_mixSeasons_16 : decode cX11_mixSeasons 16 = .ok (.getfield 24, 3) := by decide +kernel
theorem dX11_mixSeasons_19 : decode cX11_mixSeasons 19 = .ok (.iload 5, 2) := by decide +kernel
theorem dX11_mixSeasons_21 : decode cX11_mixSeasons 21 = .ok (.aaload, 1) := by decide +kernel
theorem dX11_mixSeasons_22 : decode cX11_mixSeasons 22 = .ok (.ifnull 33, 3) := by decide +kernel
theorem dX11_mixSeasons_25 : decode cX11_mixSeasons 25 = .ok (.lload_n 3, 1) := by decide +kernel
theorem dX11_mixSeasons_26 : decode cX11_mixSeasons 26 = .ok (.aload_n 0, 1) := by decide +kernel
theorem dX11_mixSeasons_27 : decode cX11_mixSeasons 27 = .ok (.getfield 52, 3) := by decide +kernel
theorem dX11_mixSeasons_30 : decode cX11_mixSeasons 30 = .ok (.aload_n 0, 1) := by decide +kernel
theorem dX11_mixSeasons_31 : decode cX11_mixSeasons 31 = .ok (.getfield 24, 3) := by decide +kernel
theorem dX11_mixSeasons_34 : decode cX11_mixSeasons 34 = .ok (.iload 5, 2) := by decide +kernel
theorem dX11_mixSeasons_36 : decode cX11_mixSeasons 36 = .ok (.aaload, 1) := by decide +kernel
theorem dX11_mixSeasons_37 : decode cX11_mixSeasons 37 = .ok (.aload_n 0, 1) := by decide +kernel
theorem dX11_mixSeasons_38 : decode cX11_mixSeasons 38 = .ok (.getfield 60, 3) := by decide +kernel
theorem dX11_mixSeasons_41 : decode cX11_mixSeasons 41 = .ok (.invokevirtual 241, 3) := by decide +kernel
theorem dX11_mixSeasons_44 : decode cX11_mixSeasons 44 = .ok (.i2l, 1) := by decide +kernel
theorem dX11_mixSeasons_45 : decode cX11_mixSeasons 45 = .ok (.invokestatic 275, 3) := by decide +kernel
theorem dX11_mixSeasons_48 : decode cX11_mixSeasons 48 = .ok (.lstore_n 3, 1) := by decide +kernel
theorem dX11_mixSeasons_49 : decode cX11_mixSeasons 49 = .ok (.iinc 5 1, 3) := by decide +kernel
theorem dX11_mixSeasons_52 : decode cX11_mixSeasons 52 = .ok (.goto (-47), 3) := by decide +kernel
theorem dX11_mixSeasons_55 : decode cX11_mixSeasons 55 = .ok (.lload_n 3, 1) := by decide +kernel
theorem dX11_mixSeasons_56 : decode cX11_mixSeasons 56 = .ok (.lreturn, 1) := by decide +kernel
theorem dX12_init_0 : decode cX12_init 0 = .ok (.aload_n 0, 1) := by decide +kernel
theorem dX12_init_1 : decode cX12_init 1 = .ok (.invokespecial 1, 3) := by decide +kernel
theorem dX12_init_4 : decode cX12_init 4 = .ok (.aload_n 0, 1) := by decide +kernel
theorem dX12_init_5 : decode cX12_init 5 = .ok (.bipush 20, 2) := by decide +kernel
theorem dX12_init_7 : decode cX12_init 7 = .ok (.newarray .int, 2) := by decide +kernel
theorem dX12_init_9 : decode cX12_init 9 = .ok (.putfield 7, 3) := by decide +kernel
theorem dX12_init_12 : decode cX12_init 12 = .ok (.aload_n 0, 1) := by decide +kernel
theorem dX12_init_13 : decode cX12_init 13 = .ok (.bipush 12, 2) := by decide +kernel
theorem dX12_init_15 : decode cX12_init 15 = .ok (.newarray .int, 2) := by decide +kernel
theorem dX12_init_17 : decode cX12_init 17 = .ok (.putfield 13, 3) := by decide +kernel
theorem dX12_init_20 : decode cX12_init 20 = .ok (.aload_n 0, 1) := by decide +kernel
theorem dX12_init_21 : decode cX12_init 21 = .ok (.iconst 3, 1) := by decide +kernel
theorem dX12_init_22 : decode cX12_init 22 = .ok (.newarray .int, 2) := by decide +kernel
theorem dX12_init_24 : decode cX12_init 24 = .ok (.putfield 16, 3) := by decide +kernel
theorem dX12_init_27 : decode cX12_init 27 = .ok (.aload_n 0, 1) := by decide +kernel
theorem dX12_init_28 : decode cX12_init 28 = .ok (.iconst 3, 1) := by decide +kernel
theorem dX12_init_29 : decode cX12_init 29 = .ok (.newarray .int, 2) := by decide +kernel
theorem dX12_init_31 : decode cX12_init 31 = .ok (.putfield 19, 3) := by decide +kernel
theorem dX12_init_34 : decode cX12_init 34 = .ok (.aload_n 0, 1) := by decide +kernel
theorem dX12_init_35 : decode cX12_init 35 = .ok (.iconst 4, 1) := by decide +kernel
theorem dX12_init_36 : decode cX12_init 36 = .ok (.newarray .int, 2) := by decide +kernel
theorem dX12_init_38 : decode cX12_init 38 = .ok (.putfield 22, 3) := by decide +kernel
theorem dX12_init_41 : decode cX12_init 41 = .ok (.aload_n 0, 1) := by decide +kernel
theorem dX12_init_42 : decode cX12_init 42 = .ok (.bipush 8, 2) := by decide +kernel
theorem dX12_init_44 : decode cX12_init 44 = .ok (.newarray .int, 2) := by decide +kernel
theorem dX12_init_46 : decode cX12_init 46 = .ok (.putfield 25, 3) := by decide +kernel
theorem dX12_init_49 : decode cX12_init 49 = .ok (.aload_n 0, 1) := by decide +kernel
theorem dX12_init_50 : decode cX12_init 50 = .ok (.bipush 8, 2) := by decide +kernel
theorem dX12_init_52 : decode cX12_init 52 = .ok (.newarray .int, 2) := by decide +kernel
theorem dX12_init_54 : decode cX12_init 54 = .ok (.putfield 28, 3) := by decide +kernel
theorem dX12_init_57 : decode cX12_init 57 = .ok (.aload_n 0, 1) := by decide +kernel
theorem dX12_init_58 : decode cX12_init 58 = .ok (.bipush 8, 2) := by decide +kernel
theorem dX12_init_60 : decode cX12_init 60 = .ok (.newarray .int, 2) := by decide +kernel
theorem dX12_init_62 : decode cX12_init 62 = .ok (.putfield 31, 3) := by decide +kernel
theorem dX12_init_65 : decode cX12_init 65 = .ok (.aload_n 0, 1) := by decide +kernel
theorem dX12_init_66 : decode cX12_init 66 = .ok (.bipush 8, 2) := by decide +kernel
theorem dX12_init_68 : decode cX12_init 68 = .ok (.newarray .int, 2) := by decide +kernel
theorem dX12_init_70 : decode cX12_init 70 = .ok (.putfield 34, 3) := by decide +kernel
theorem dX12_init_73 : decode cX12_init 73 = .ok (.aload_n 0, 1) := by decide +kernel
theorem dX12_init_74 : decode cX12_init 74 = .ok (.bipush 8, 2) := by decide +kernel
theorem dX12_init_76 : decode cX12_init 76 = .ok (.newarray .int, 2) := by decide +kernel
theorem dX12_init_78 : decode cX12_init 78 = .ok (.putfield 37, 3) := by decide +kernel
theorem dX12_init_81 : decode cX12_init 81 = .ok (.aload_n 0, 1) := by decide +kernel
theorem dX12_init_82 : decode cX12_init 82 = .ok (.bipush 8, 2) := by decide +kernel
theorem dX12_init_84 : decode cX12_init 84 = .ok (.newarray .int, 2) := by decide +kernel
theorem dX12_init_86 : decode cX12_init 86 = .ok (.putfield 40, 3) := by decide +kernel
theorem dX12_init_89 : decode cX12_init 89 = .ok (.aload_n 0, 1) := by decide +kernel
theorem dX12_init_90 : decode cX12_init 90 = .ok (.bipush 8, 2) := by decide +kernel
theorem dX12_init_92 : decode cX12_init 92 = .ok (.newarray .int, 2) := by decide +kernel
theorem dX12_init_94 : decode cX12_init 94 = .ok (.putfield 43, 3) := by decide +kernel
theorem dX12_init_97 : decode cX12_init 97 = .ok (.aload_n 0, 1) := by decide +kernel
theorem dX12_init_98 : decode cX12_init 98 = .ok (.bipush 8, 2) := by decide +kernel
theorem dX12_init_100 : decode cX12_init 100 = .ok (.newarray .boolean, 2) := by decide +kernel
theorem dX12_init_102 : decode cX12_init 102 = .ok (.putfield 46, 3) := by decide +kernel
theorem dX12_init_105 : decode cX12_init 105 = .ok (.aload_n 0, 1) := by decide +kernel
theorem dX12_init_106 : decode cX12_init 106 = .ok (.bipush 8, 2) := by decide +kernel
theorem dX12_init_108 : decode cX12_init 108 = .ok (.newarray .int, 2) := by decide +kernel
theorem dX12_init_110 : decode cX12_init 110 = .ok (.putfield 50, 3) := by decide +kernel
theorem dX12_init_113 : decode cX12_init 113 = .ok (.aload_n 0, 1) := by decide +kernel
theorem dX12_init_114 : decode cX12_init 114 = .ok (.bipush 10, 2) := by decide +kernel
theorem dX12_init_116 : decode cX12_init 116 = .ok (.newarray .int, 2) := by decide +kernel
theorem dX12_init_118 : decode cX12_init 118 = .ok (.putfield 53, 3) := by decide +kernel
theorem dX12_init_121 : decode cX12_init 121 = .ok (.aload_n 0, 1) := by decide +kernel
theorem dX12_init_122 : decode cX12_init 122 = .ok (.bipush 10, 2) := by decide +kernel
theorem dX12_init_124 : decode cX12_init 124 = .ok (.newarray .int, 2) := by decide +kernel
theorem dX12_init_126 : decode cX12_init 126 = .ok (.putfield 56, 3) := by decide +kernel
theorem dX12_init_129 : decode cX12_init 129 = .ok (.aload_n 0, 1) := by decide +kernel
theorem dX12_init_130 : decode cX12_init 130 = .ok (.bipush 8, 2) := by decide +kernel
theorem dX12_init_132 : decode cX12_init 132 = .ok (.newarray .int, 2) := by decide +kernel
theorem dX12_init_134 : decode cX12_init 134 = .ok (.putfield 59, 3) := by decide +kernel
theorem dX12_init_137 : decode cX12_init 137 = .ok (.aload_n 0, 1) := by decide +kernel
theorem dX12_init_138 : decode cX12_init 138 = .ok (.bipush 6, 2) := by decide +kernel
theorem dX12_init_140 : decode cX12_init 140 = .ok (.newarray .int, 2) := by decide +kernel
theorem dX12_init_142 : decode cX12_init 142 = .ok (.putfield 62, 3) := by decide +kernel
theorem dX12_init_145 : decode cX12_init 145 = .ok (.aload_n 0, 1) := by decide +kernel
theorem dX12_init_146 : decode cX12_init 146 = .ok (.bipush 8, 2) := by decide +kernel
theorem dX12_init_148 : decode cX12_init 148 = .ok (.newarray .int, 2) := by decide +kernel
theorem dX12_init_150 : decode cX12_init 150 = .ok (.putfield 65, 3) := by decide +kernel
theorem dX12_init_153 : decode cX12_init 153 = .ok (.aload_n 0, 1) := by decide +kernel
theorem dX12_init_154 : decode cX12_init 154 = .ok (.bipush 8, 2) := by decide +kernel
theorem dX12_init_156 : decode cX12_init 156 = .ok (.newarray .int, 2) := by decide +kernel
theorem dX12_init_158 : decode cX12_init 158 = .ok (.putfield 68, 3) := by decide +kernel
theorem dX12_init_161 : decode cX12_init 161 = .ok (.aload_n 0, 1) := by decide +kernel
theorem dX12_init_162 : decode cX12_init 162 = .ok (.bipush 8, 2) := by decide +kernel
theorem dX12_init_164 : decode cX12_init 164 = .ok (.newarray .int, 2) := by decide +kernel
theorem dX12_init_166 : decode cX12_init 166 = .ok (.putfield 71, 3) := by decide +kernel
theorem dX12_init_169 : decode cX12_init 169 = .ok (.aload_n 0, 1) := by decide +kernel
theorem dX12_init_170 : decode cX12_init 170 = .ok (.bipush 32, 2) := by decide +kernel
theorem dX12_init_172 : decode cX12_init 172 = .ok (.newarray .int, 2) := by decide +kernel
theorem dX12_init_174 : decode cX12_init 174 = .ok (.putfield 74, 3) := by decide +kernel
theorem dX12_init_177 : decode cX12_init 177 = .ok (.aload_n 0, 1) := by decide +kernel
theorem dX12_init_178 : decode cX12_init 178 = .ok (.bipush 20, 2) := by decide +kernel
theorem dX12_init_180 : decode cX12_init 180 = .ok (.newarray .int, 2) := by decide +kernel
theorem dX12_init_182 : decode cX12_init 182 = .ok (.putfield 77, 3) := by decide +kernel
theorem dX12_init_185 : decode cX12_init 185 = .ok (.iconst 0, 1) := by decide +kernel
theorem dX12_init_186 : decode cX12_init 186 = .ok (.istore_n 1, 1) := by decide +kernel
theorem dX12_init_187 : decode cX12_init 187 = .ok (.iload_n 1, 1) := by decide +kernel
theorem dX12_init_188 : decode cX12_init 188 = .ok (.bipush 8, 2) := by decide +kernel
theorem dX12_init_190 : decode cX12_init 190 = .ok (.if_icmp .ge 16, 3) := by decide +kernel
theorem dX12_init_193 : decode cX12_init 193 = .ok (.aload_n 0, 1) := by decide +kernel
theorem dX12_init_194 : decode cX12_init 194 = .ok (.getfield 50, 3) := by decide +kernel
theorem dX12_init_197 : decode cX12_init 197 = .ok (.iload_n 1, 1) := by decide +kernel
theorem dX12_init_198 : decode cX12_init 198 = .ok (.iconst (-1), 1) := by decide +kernel
theorem dX12_init_199 : decode cX12_init 199 = .ok (.iastore, 1) := by decide +kernel
theorem dX12_init_200 : decode cX12_init 200 = .ok (.iinc 1 1, 3) := by decide +kernel
theorem dX12_init_203 : decode cX12_init 203 = .ok (.goto (-16), 3) := by decide +kernel
theorem dX12_init_206 : decode cX12_init 206 = .ok (.return_, 1) := by decide +kernel
theorem dX12_in_0 : decode cX12_in 0 = .ok (.lload_n 0, 1) := by decide +kernel
theorem dX12_in_1 : decode cX12_in 1 = .ok (.lload_n 2, 1) := by decide +kernel
theorem dX12_in_2 : decode cX12_in 2 = .ok (.lcmp, 1) := by decide +kernel
theorem dX12_in_3 : decode cX12_in 3 = .ok (.ifCond .lt 14, 3) := by decide +kernel
theorem dX12_in_6 : decode cX12_in 6 = .ok (.lload_n 0, 1) := by decide +kernel
theorem dX12_in_7 : decode cX12_in 7 = .ok (.lload 4, 2) := by decide +kernel
theorem dX12_in_9 : decode cX12_in 9 = .ok (.lcmp, 1) := by decide +kernel
theorem dX12_in_10 : decode cX12_in 10 = .ok (.ifCond .gt 7, 3) := by decide +kernel
theorem dX12_in_13 : decode cX12_in 13 = .ok (.iconst 1, 1) := by decide +kernel
theorem dX12_in_14 : decode cX12_in 14 = .ok (.goto 4, 3) := by decide +kernel
theorem dX12_in_17 : decode cX12_in 17 = .ok (.iconst 0, 1) := by decide +kernel
theorem dX12_in_18 : decode cX12_in 18 = .ok (.ireturn, 1) := by decide +kernel
theorem dX12_letters_0 : decode cX12_letters 0 = .ok (.iconst 0, 1) := by decide +kernel
theorem dX12_letters_1 : decode cX12_letters 1 = .ok (.istore_n 3, 1) := by decide +kernel
theorem dX12_letters_2 : decode cX12_letters 2 = .ok (.iconst 1, 1) := by decide +kernel
theorem dX12_letters_3 : decode cX12_letters 3 = .ok (.istore 4, 2) := by decide +kernel
theorem dX12_letters_5 : decode cX12_letters 5 = .ok (.lload_n 1, 1) := by decide +kernel
theorem dX12_letters_6 : decode cX12_letters 6 = .ok (.lstore 5, 2) := by decide +kernel
theorem dX12_letters_8 : decode cX12_letters 8 = .ok (.iconst 0, 1) := by decide +kernel
theorem dX12_letters_9 : decode cX12_letters 9 = .ok (.istore 7, 2) := by decide +kernel
theorem dX12_letters_11 : decode cX12_letters 11 = .ok (.iload 7, 2) := by decide +kernel
theorem dX12_letters_13 : decode cX12_letters 13 = .ok (.bipush 8, 2) := by decide +kernel
theorem dX12_letters_15 : decode cX12_letters 15 = .ok (.if_icmp .ge 68, 3) := by decide +kernel
theorem dX12_letters_18 : decode cX12_letters 18 = .ok (.lload 5, 2) := by decide +kernel
theorem dX12_letters_20 : decode cX12_letters 20 = .ok (.ldc2_w 80, 3) := by decide +kernel
theorem dX12_letters_23 : decode cX12_letters 23 = .ok (.land, 1) := by decide +kernel
theorem dX12_letters_24 : decode cX12_letters 24 = .ok (.l2i, 1) := by decide +kernel
theorem dX12_letters_25 : decode cX12_letters 25 = .ok (.istore 8, 2) := by decide +kernel
theorem dX12_letters_27 : decode cX12_letters 27 = .ok (.lload 5, 2) := by decide +kernel
theorem dX12_letters_29 : decode cX12_letters 29 = .ok (.bipush 8, 2) := by decide +kernel
theorem dX12_letters_31 : decode cX12_letters 31 = .ok (.lushr, 1) := by decide +kernel
theorem dX12_letters_32 : decode cX12_letters 32 = .ok (.lstore 5, 2) := by decide +kernel
theorem dX12_letters_34 : decode cX12_letters 34 = .ok (.iload 4, 2) := by decide +kernel
theorem dX12_letters_36 : decode cX12_letters 36 = .ok (.ifCond .eq 25, 3) := by decide +kernel
theorem dX12_letters_39 : decode cX12_letters 39 = .ok (.iload 8, 2) := by decide +kernel
theorem dX12_letters_41 : decode cX12_letters 41 = .ok (.bipush 126, 2) := by decide +kernel
theorem dX12_letters_43 : decode cX12_letters 43 = .ok (.if_icmp .gt 18, 3) := by decide +kernel
theorem dX12_letters_46 : decode cX12_letters 46 = .ok (.iload 8, 2) := by decide +kernel
theorem dX12_letters_48 : decode cX12_letters 48 = .ok (.ifCond .eq 9, 3) := by decide +kernel
theorem dX12_letters_51 : decode cX12_letters 51 = .ok (.iload_n 3, 1) := by decide +kernel
theorem dX12_letters_52 : decode cX12_letters 52 = .ok (.iload 7, 2) := by decide +kernel
theorem dX12_letters_54 : decode cX12_letters 54 = .ok (.if_icmp .ne 7, 3) := by decide +kernel
theorem dX12_letters_57 : decode cX12_letters 57 = .ok (.iconst 1, 1) := by decide +kernel
theorem dX12_letters_58 : decode cX12_letters 58 = .ok (.goto 4, 3) := by decide +kernel
theorem dX12_letters_61 : decode cX12_letters 61 = .ok (.iconst 0, 1) := by decide +kernel
theorem dX12_letters_62 : decode cX12_letters 62 = .ok (.istore 4, 2) := by decide +kernel
theorem dX12_letters_64 : decode cX12_letters 64 = .ok (.iload_n 3, 1) := by decide +kernel
theorem dX12_letters_65 : decode cX12_letters 65 = .ok (.iload 8, 2) := by decide +kernel
theorem dX12_letters_67 : decode cX12_letters 67 = .ok (.ifCond .le 7, 3) := by decide +kernel
theorem dX12_letters_70 : decode cX12_letters 70 = .ok (.iconst 1, 1) := by decide +kernel
theorem dX12_letters_71 : decode cX12_letters 71 = .ok (.goto 4, 3) := by decide +kernel
theorem dX12_letters_74 : decode cX12_letters 74 = .ok (.iconst 0, 1) := by decide +kernel
theorem dX12_letters_75 : decode cX12_letters 75 = .ok (.iadd, 1) := by decide +kernel
theorem dX12_letters_76 : decode cX12_letters 76 = .ok (.istore_n 3, 1) := by decide +kernel
theorem dX12_letters_77 : decode cX12_letters 77 = .ok (.iinc 7 1, 3) := by decide +kernel
theorem dX12_letters_80 : decode cX12_letters 80 = .ok (.goto (-69), 3) := by decide +kernel
theorem dX12_letters_83 : decode cX12_letters 83 = .ok (.iload 4, 2) := by decide +kernel
theorem dX12_letters_85 : decode cX12_letters 85 = .ok (.ifCond .ne 6, 3) := by decide +kernel
theorem dX12_letters_88 : decode cX12_letters 88 = .ok (.bipush (-102), 2) := by decide +kernel
theorem dX12_letters_90 : decode cX12_letters 90 = .ok (.ireturn, 1) := by decide +kernel
theorem dX12_letters_91 : decode cX12_letters 91 = .ok (.aload_n 0, 1) := by decide +kernel
theorem dX12_letters_92 : decode cX12_letters 92 = .ok (.getfield 82, 3) := by decide +kernel
theorem dX12_letters_95 : decode cX12_letters 95 = .ok (.iload_n 3, 1) := by decide +kernel
theorem dX12_letters_96 : decode cX12_letters 96 = .ok (.iadd, 1) := by decide +kernel
theorem dX12_letters_97 : decode cX12_letters 97 = .ok (.bipush 20, 2) := by decide +kernel
theorem dX12_letters_99 : decode cX12_letters 99 = .ok (.if_icmp .le 6, 3) := by decide +kernel
theorem dX12_letters_102 : decode cX12_letters 102 = .ok (.bipush (-104), 2) := by decide +kernel
theorem dX12_letters_104 : decode cX12_letters 104 = .ok (.ireturn, 1) := by decide +kernel
theorem dX12_letters_105 : decode cX12_letters 105 = .ok (.iconst 0, 1) := by decide +kernel
theorem dX12_letters_106 : decode cX12_letters 106 = .ok (.istore 7, 2) := by decide +kernel
theorem dX12_letters_108 : decode cX12_letters 108 = .ok (.iload 7, 2) := by decide +kernel
theorem dX12_letters_110 : decode cX12_letters 110 = .ok (.iload_n 3, 1) := by decide +kernel
theorem dX12_letters_111 : decode cX12_letters 111 = .ok (.if_icmp .ge 40, 3) := by decide +kernel
theorem dX12_letters_114 : decode cX12_letters 114 = .ok (.aload_n 0, 1) := by decide +kernel
theorem dX12_letters_115 : decode cX12_letters 115 = .ok (.getfield 7, 3) := by decide +kernel
theorem dX12_letters_118 : decode cX12_letters 118 = .ok (.aload_n 0, 1) := by decide +kernel
theorem dX12_letters_119 : decode cX12_letters 119 = .ok (.getfield 82, 3) := by decide +kernel
theorem dX12_letters_122 : decode cX12_letters 122 = .ok (.lload_n 1, 1) := by decide +kernel
theorem dX12_letters_123 : decode cX12_letters 123 = .ok (.bipush 8, 2) := by decide +kernel
theorem dX12_letters_125 : decode cX12_letters 125 = .ok (.iload 7, 2) := by decide +kernel
theorem dX12_letters_127 : decode cX12_letters 127 = .ok (.imul, 1) := by decide +kernel
theorem dX12_letters_128 : decode cX12_letters 128 = .ok (.lushr, 1) := by decide +kernel
theorem dX12_letters_129 : decode cX12_letters 129 = .ok (.ldc2_w 80, 3) := by decide +kernel
theorem dX12_letters_132 : decode cX12_letters 132 = .ok (.land, 1) := by decide +kernel
theorem dX12_letters_133 : decode cX12_letters 133 = .ok (.l2i, 1) := by decide +kernel
theorem dX12_letters_134 : decode cX12_letters 134 = .ok (.iastore, 1) := by decide +kernel
theorem dX12_letters_135 : decode cX12_letters 135 = .ok (.aload_n 0, 1) := by decide +kernel
theorem dX12_letters_136 : decode cX12_letters 136 = .ok (.dup, 1) := by decide +kernel
theorem dX12_letters_137 : decode cX12_letters 137 = .ok (.getfield 82, 3) := by decide +kernel
theorem dX12_letters_140 : decode cX12_letters 140 = .ok (.iconst 1, 1) := by decide +kernel
theorem dX12_letters_141 : decode cX12_letters 141 = .ok (.iadd, 1) := by decide +kernel
theorem dX12_letters_142 : decode cX12_letters 142 = .ok (.putfield 82, 3) := by decide +kernel
theorem dX12_letters_145 : decode cX12_letters 145 = .ok (.iinc 7 1, 3) := by decide +kernel
theorem dX12_letters_148 : decode cX12_letters 148 = .ok (.goto (-40), 3) := by decide +kernel
theorem dX12_letters_151 : decode cX12_letters 151 = .ok (.aload_n 0, 1) := by decide +kernel
theorem dX12_letters_152 : decode cX12_letters 152 = .ok (.getfield 82, 3) := by decide +kernel
theorem dX12_letters_155 : decode cX12_letters 155 = .ok (.ireturn, 1) := by decide +kernel
theorem dX12_blank_0 : decode cX12_blank 0 = .ok (.aload_n 0, 1) := by decide +kernel
theorem dX12_blank_1 : decode cX12_blank 1 = .ok (.getfield 82, 3) := by decide +kernel
theorem dX12_blank_4 : decode cX12_blank 4 = .ok (.istore_n 1, 1) := by decide +kernel
theorem dX12_blank_5 : decode cX12_blank 5 = .ok (.aload_n 0, 1) := by decide +kernel
theorem dX12_blank_6 : decode cX12_blank 6 = .ok (.iconst 0, 1) := by decide +kernel
theorem dX12_blank_7 : decode cX12_blank 7 = .ok (.putfield 82, 3) := by decide +kernel
theorem dX12_blank_10 : decode cX12_blank 10 = .ok (.iload_n 1, 1) := by decide +kernel
theorem dX12_blank_11 : decode cX12_blank 11 = .ok (.ireturn, 1) := by decide +kernel
theorem dX12_go_0 : decode cX12_go 0 = .ok (.aload_n 0, 1) := by decide +kernel
theorem dX12_go_1 : decode cX12_go 1 = .ok (.getfield 86, 3) := by decide +kernel
theorem dX12_go_4 : decode cX12_go 4 = .ok (.ifCond .ne 106, 3) := by decide +kernel
theorem dX12_go_7 : decode cX12_go 7 = .ok (.iload_n 1, 1) := by decide +kernel
theorem dX12_go_8 : decode cX12_go 8 = .ok (.i2l, 1) := by decide +kernel
theorem dX12_go_9 : decode cX12_go 9 = .ok (.ldc2_w 89, 3) := by decide +kernel
theorem dX12_go_12 : decode cX12_go 12 = .ok (.ldc2_w 91, 3) := by decide +kernel
theorem dX12_go_15 : decode cX12_go 15 = .ok (.invokestatic 93, 3) := by decide +kernel
theorem dX12_go_18 : decode cX12_go 18 = .ok (.istore_n 2, 1) := by decide +kernel
theorem dX12_go_19 : decode cX12_go 19 = .ok (.aload_n 0, 1) := by decide +kernel
theorem dX12_go_20 : decode cX12_go 20 = .ok (.getfield 22, 3) := by decide +kernel
theorem dX12_go_23 : decode cX12_go 23 = .ok (.aload_n 0, 1) := by decide +kernel
theorem dX12_go_24 : decode cX12_go 24 = .ok (.getfield 97, 3) := by decide +kernel
theorem dX12_go_27 : decode cX12_go 27 = .ok (.iload_n 2, 1) := by decide +kernel
theorem dX12_go_28 : decode cX12_go 28 = .ok (.ifCond .eq 10, 3) := by decide +kernel
theorem dX12_go_31 : decode cX12_go 31 = .ok (.iload_n 1, 1) := by decide +kernel
theorem dX12_go_32 : decode cX12_go 32 = .ok (.bipush 48, 2) := by decide +kernel
theorem dX12_go_34 : decode cX12_go 34 = .ok (.isub, 1) := by decide +kernel
theorem dX12_go_35 : decode cX12_go 35 = .ok (.goto 5, 3) := by decide +kernel
theorem dX12_go_38 : decode cX12_go 38 = .ok (.iload_n 1, 1) := by decide +kernel
theorem dX12_go_39 : decode cX12_go 39 = .ok (.ineg, 1) := by decide +kernel
theorem dX12_go_40 : decode cX12_go 40 = .ok (.iastore, 1) := by decide +kernel
theorem dX12_go_41 : decode cX12_go 41 = .ok (.aload_n 0, 1) := by decide +kernel
theorem dX12_go_42 : decode cX12_go 42 = .ok (.dup, 1) := by decide +kernel
theorem dX12_go_43 : decode cX12_go 43 = .ok (.getfield 97, 3) := by decide +kernel
theorem dX12_go_46 : decode cX12_go 46 = .ok (.iconst 1, 1) := by decide +kernel
theorem dX12_go_47 : decode cX12_go 47 = .ok (.iadd, 1) := by decide +kernel
theorem dX12_go_48 : decode cX12_go 48 = .ok (.putfield 97, 3) := by decide +kernel
theorem dX12_go_51 : decode cX12_go 51 = .ok (.aload_n 0, 1) := by decide +kernel
theorem dX12_go_52 : decode cX12_go 52 = .ok (.iload_n 2, 1) := by decide +kernel
theorem dX12_go_53 : decode cX12_go 53 = .ok (.ifCond .eq 13, 3) := by decide +kernel
theorem dX12_go_56 : decode cX12_go 56 = .ok (.iload_n 1, 1) := by decide +kernel
theorem dX12_go_57 : decode cX12_go 57 = .ok (.bipush 48, 2) := by decide +kernel
theorem dX12_go_59 : decode cX12_go 59 = .ok (.if_icmp .eq 7, 3) := by decide +kernel
theorem dX12_go_62 : decode cX12_go 62 = .ok (.iconst 2, 1) := by decide +kernel
theorem dX12_go_63 : decode cX12_go 63 = .ok (.goto 4, 3) := by decide +kernel
theorem dX12_go_66 : decode cX12_go 66 = .ok (.iconst 1, 1) := by decide +kernel
theorem dX12_go_67 : decode cX12_go 67 = .ok (.putfield 86, 3) := by decide +kernel
theorem dX12_go_70 : decode cX12_go 70 = .ok (.iload_n 2, 1) := by decide +kernel
theorem dX12_go_71 : decode cX12_go 71 = .ok (.ifCond .ne 33, 3) := by decide +kernel
theorem dX12_go_74 : decode cX12_go 74 = .ok (.iload_n 1, 1) := by decide +kernel
theorem dX12_go_75 : decode cX12_go 75 = .ok (.bipush 120, 2) := by decide +kernel
theorem dX12_go_77 : decode cX12_go 77 = .ok (.if_icmp .eq 27, 3) := by decide +kernel
theorem dX12_go_80 : decode cX12_go 80 = .ok (.iload_n 1, 1) := by decide +kernel
theorem dX12_go_81 : decode cX12_go 81 = .ok (.bipush 121, 2) := by decide +kernel
theorem dX12_go_83 : decode cX12_go 83 = .ok (.if_icmp .eq 21, 3) := by decide +kernel
theorem dX12_go_86 : decode cX12_go 86 = .ok (.iload_n 1, 1) := by decide +kernel
theorem dX12_go_87 : decode cX12_go 87 = .ok (.bipush 109, 2) := by decide +kernel
theorem dX12_go_89 : decode cX12_go 89 = .ok (.if_icmp .eq 15, 3) := by decide +kernel
theorem dX12_go_92 : decode cX12_go 92 = .ok (.iload_n 1, 1) := by decide +kernel
theorem dX12_go_93 : decode cX12_go 93 = .ok (.bipush 108, 2) := by decide +kernel
theorem dX12_go_95 : decode cX12_go 95 = .ok (.if_icmp .eq 9, 3) := by decide +kernel
theorem dX12_go_98 : decode cX12_go 98 = .ok (.iload_n 1, 1) := by decide +kernel
theorem dX12_go_99 : decode cX12_go 99 = .ok (.bipush 104, 2) := by decide +kernel
theorem dX12_go_101 : decode cX12_go 101 = .ok (.if_icmp .ne 7, 3) := by decide +kernel
theorem dX12_go_104 : decode cX12_go 104 = .ok (.iconst 1, 1) := by decide +kernel
theorem dX12_go_105 : decode cX12_go 105 = .ok (.goto 4, 3) := by decide +kernel
theorem dX12_go_108 : decode cX12_go 108 = .ok (.iconst 0, 1) := by decide +kernel
theorem dX12_go_109 : decode cX12_go 109 = .ok (.ireturn, 1) := by decide +kernel
theorem dX12_go_110 : decode cX12_go 110 = .ok (.aload_n 0, 1) := by decide +kernel
theorem dX12_go_111 : decode cX12_go 111 = .ok (.getfield 86, 3) := by decide +kernel
theorem dX12_go_114 : decode cX12_go 114 = .ok (.iconst 2, 1) := by decide +kernel
theorem dX12_go_115 : decode cX12_go 115 = .ok (.if_icmp .ne 54, 3) := by decide +kernel
theorem dX12_go_118 : decode cX12_go 118 = .ok (.iload_n 1, 1) := by decide +kernel
theorem dX12_go_119 : decode cX12_go 119 = .ok (.i2l, 1) := by decide +kernel
theorem dX12_go_120 : decode cX12_go 120 = .ok (.ldc2_w 89, 3) := by decide +kernel
theorem dX12_go_123 : decode cX12_go 123 = .ok (.ldc2_w 91, 3) := by decide +kernel
theorem dX12_go_126 : decode cX12_go 126 = .ok (.invokestatic 93, 3) := by decide +kernel
theorem dX12_go_129 : decode cX12_go 129 = .ok (.ifCond .eq 40, 3) := by decide +kernel
theorem dX12_go_132 : decode cX12_go 132 = .ok (.aload_n 0, 1) := by decide +kernel
theorem dX12_go_133 : decode cX12_go 133 = .ok (.getfield 22, 3) := by decide +kernel
theorem dX12_go_136 : decode cX12_go 136 = .ok (.aload_n 0, 1) := by decide +kernel
theorem dX12_go_137 : decode cX12_go 137 = .ok (.getfield 97, 3) := by decide +kernel
theorem dX12_go_140 : decode cX12_go 140 = .ok (.iconst 1, 1) := by decide +kernel
theorem dX12_go_141 : decode cX12_go 141 = .ok (.isub, 1) := by decide +kernel
theorem dX12_go_142 : decode cX12_go 142 = .ok (.bipush 10, 2) := by decide +kernel
theorem dX12_go_144 : decode cX12_go 144 = .ok (.aload_n 0, 1) := by decide +kernel
theorem dX12_go_145 : decode cX12_go 145 = .ok (.getfield 22, 3) := by decide +kernel
theorem dX12_go_148 : decode cX12_go 148 = .ok (.aload_n 0, 1) := by decide +kernel
theorem dX12_go_149 : decode cX12_go 149 = .ok (.getfield 97, 3) := by decide +kernel
theorem dX12_go_152 : decode cX12_go 152 = .ok (.iconst 1, 1) := by decide +kernel
theorem dX12_go_153 : decode cX12_go 153 = .ok (.isub, 1) := by decide +kernel
theorem dX12_go_154 : decode cX12_go 154 = .ok (.iaload, 1) := by decide +kernel
theorem dX12_go_155 : decode cX12_go 155 = .ok (.imul, 1) := by decide +kernel
theorem dX12_go_156 : decode cX12_go 156 = .ok (.iload_n 1, 1) := by decide +kernel
theorem dX12_go_157 : decode cX12_go 157 = .ok (.iadd, 1) := by decide +kernel
theorem dX12_go_158 : decode cX12_go 158 = .ok (.bipush 48, 2) := by decide +kernel
theorem dX12_go_160 : decode cX12_go 160 = .ok (.isub, 1) := by decide +kernel
theorem dX12_go_161 : decode cX12_go 161 = .ok (.iastore, 1) := by decide +kernel
theorem dX12_go_162 : decode cX12_go 162 = .ok (.aload_n 0, 1) := by decide +kernel
theorem dX12_go_163 : decode cX12_go 163 = .ok (.iconst 1, 1) := by decide +kernel
theorem dX12_go_164 : decode cX12_go 164 = .ok (.putfield 86, 3) := by decide +kernel
theorem dX12_go_167 : decode cX12_go 167 = .ok (.iconst 1, 1) := by decide +kernel
theorem dX12_go_168 : decode cX12_go 168 = .ok (.ireturn, 1) := by decide +kernel
theorem dX12_go_169 : decode cX12_go 169 = .ok (.aload_n 0, 1) := by decide +kernel
theorem dX12_go_170 : decode cX12_go 170 = .ok (.getfield 86, 3) := by decide +kernel
theorem dX12_go_173 : decode cX12_go 173 = .ok (.iconst 3, 1) := by decide +kernel
theorem dX12_go_174 : decode cX12_go 174 = .ok (.if_icmp .ge 44, 3) := by decide +kernel
theorem dX12_go_177 : decode cX12_go 177 = .ok (.aload_n 0, 1) := by decide +kernel
theorem dX12_go_178 : decode cX12_go 178 = .ok (.iload_n 1, 1) := by decide +kernel
theorem dX12_go_179 : decode cX12_go 179 = .ok (.bipush 59, 2) := by decide +kernel
theorem dX12_go_181 : decode cX12_go 181 = .ok (.if_icmp .ne 7, 3) := by decide +kernel
theorem dX12_go_184 : decode cX12_go 184 = .ok (.iconst 3, 1) := by decide +kernel
theorem dX12_go_185 : decode cX12_go 185 = .ok (.goto 4, 3) := by decide +kernel
theorem dX12_go_188 : decode cX12_go 188 = .ok (.iconst 0, 1) := by decide +kernel
theorem dX12_go_189 : decode cX12_go 189 = .ok (.putfield 86, 3) := by decide +kernel
theorem dX12_go_192 : decode cX12_go 192 = .ok (.iload_n 1, 1) := by decide +kernel
theorem dX12_go_193 : decode cX12_go 193 = .ok (.bipush 59, 2) := by decide +kernel
theorem dX12_go_195 : decode cX12_go 195 = .ok (.if_icmp .eq 17, 3) := by decide +kernel
theorem dX12_go_198 : decode cX12_go 198 = .ok (.iload_n 1, 1) := by decide +kernel
theorem dX12_go_199 : decode cX12_go 199 = .ok (.bipush 43, 2) := by decide +kernel
theorem dX12_go_201 : decode cX12_go 201 = .ok (.if_icmp .ne 15, 3) := by decide +kernel
theorem dX12_go_204 : decode cX12_go 204 = .ok (.aload_n 0, 1) := by decide +kernel
theorem dX12_go_205 : decode cX12_go 205 = .ok (.getfield 97, 3) := by decide +kernel
theorem dX12_go_208 : decode cX12_go 208 = .ok (.iconst 4, 1) := by decide +kernel
theorem dX12_go_209 : decode cX12_go 209 = .ok (.if_icmp .ge 7, 3) := by decide +kernel
theorem dX12_go_212 : decode cX12_go 212 = .ok (.iconst 1, 1) := by decide +kernel
theorem dX12_go_213 : decode cX12_go 213 = .ok (.goto 4, 3) := by decide +kernel
theorem dX12_go_216 : decode cX12_go 216 = .ok (.iconst 0, 1) := by decide +kernel
theorem dX12_go_217 : decode cX12_go 217 = .ok (.ireturn, 1) := by decide +kernel
theorem dX12_go_218 : decode cX12_go 218 = .ok (.aload_n 0, 1) := by decide +kernel
theorem dX12_go_219 : decode cX12_go 219 = .ok (.iload_n 1, 1) := by decide +kernel
theorem dX12_go_220 : decode cX12_go 220 = .ok (.putfield 100, 3) := by decide +kernel
theorem dX12_go_223 : decode cX12_go 223 = .ok (.aload_n 0, 1) := by decide +kernel
theorem dX12_go_224 : decode cX12_go 224 = .ok (.getfield 86, 3) := by decide +kernel
theorem dX12_go_227 : decode cX12_go 227 = .ok (.iconst 3, 1) := by decide +kernel
theorem dX12_go_228 : decode cX12_go 228 = .ok (.if_icmp .ne 25, 3) := by decide +kernel
theorem dX12_go_231 : decode cX12_go 231 = .ok (.iload_n 1, 1) := by decide +kernel
theorem dX12_go_232 : decode cX12_go 232 = .ok (.bipush 116, 2) := by decide +kernel
theorem dX12_go_234 : decode cX12_go 234 = .ok (.if_icmp .eq 15, 3) := by decide +kernel
theorem dX12_go_237 : decode cX12_go 237 = .ok (.iload_n 1, 1) := by decide +kernel
theorem dX12_go_238 : decode cX12_go 238 = .ok (.bipush 111, 2) := by decide +kernel
theorem dX12_go_240 : decode cX12_go 240 = .ok (.if_icmp .eq 9, 3) := by decide +kernel
theorem dX12_go_243 : decode cX12_go 243 = .ok (.iload_n 1, 1) := by decide +kernel
theorem dX12_go_244 : decode cX12_go 244 = .ok (.bipush 110, 2) := by decide +kernel
theorem dX12_go_246 : decode cX12_go 246 = .ok (.if_icmp .ne 7, 3) := by decide +kernel
theorem dX12_go_249 : decode cX12_go 249 = .ok (.iconst 1, 1) := by decide +kernel
theorem dX12_go_250 : decode cX12_go 250 = .ok (.goto 4, 3) := by decide +kernel
theorem dX12_go_253 : decode cX12_go 253 = .ok (.iconst 0, 1) := by decide +kernel
theorem dX12_go_254 : decode cX12_go 254 = .ok (.istore_n 2, 1) := by decide +kernel
theorem dX12_go_255 : decode cX12_go 255 = .ok (.aload_n 0, 1) := by decide +kernel
theorem dX12_go_256 : decode cX12_go 256 = .ok (.iconst 4, 1) := by decide +kernel
theorem dX12_go_257 : decode cX12_go 257 = .ok (.putfield 86, 3) := by decide +kernel
theorem dX12_go_260 : decode cX12_go 260 = .ok (.iload_n 2, 1) := by decide +kernel
theorem dX12_go_261 : decode cX12_go 261 = .ok (.ireturn, 1) := by decide +kernel
theorem dX12_faultOf_0 : decode cX12_faultOf 0 = .ok (.aload_n 0, 1) := by decide +kernel
theorem dX12_faultOf_1 : decode cX12_faultOf 1 = .ok (.iconst 0, 1) := by decide +kernel
theorem dX12_faultOf_2 : decode cX12_faultOf 2 = .ok (.putfield 86, 3) := by decide +kernel
theorem dX12_faultOf_5 : decode cX12_faultOf 5 = .ok (.aload_n 0, 1) := by decide +kernel
theorem dX12_faultOf_6 : decode cX12_faultOf 6 = .ok (.iconst 0, 1) := by decide +kernel
theorem dX12_faultOf_7 : decode cX12_faultOf 7 = .ok (.putfield 97, 3) := by decide +kernel
theorem dX12_faultOf_10 : decode cX12_faultOf 10 = .ok (.iconst 0, 1) := by decide +kernel
theorem dX12_faultOf_11 : decode cX12_faultOf 11 = .ok (.istore_n 1, 1) := by decide +kernel
theorem dX12_faultOf_12 : decode cX12_faultOf 12 = .ok (.iload_n 1, 1) := by decide +kernel
theorem dX12_faultOf_13 : decode cX12_faultOf 13 = .ok (.aload_n 0, 1) := by decide +kernel
theorem dX12_faultOf_14 : decode cX12_faultOf 14 = .ok (.getfield 82, 3) := by decide +kernel
theorem dX12_faultOf_17 : decode cX12_faultOf 17 = .ok (.if_icmp .ge 22, 3) := by decide +kernel
theorem dX12_faultOf_20 : decode cX12_faultOf 20 = .ok (.aload_n 0, 1) := by decide +kernel
theorem dX12_faultOf_21 : decode cX12_faultOf 21 = .ok (.aload_n 0, 1) := by decide +kernel
theorem dX12_faultOf_22 : decode cX12_faultOf 22 = .ok (.getfield 7, 3) := by decide +kernel
theorem dX12_faultOf_25 : decode cX12_faultOf 25 = .ok (.iload_n 1, 1) := by decide +kernel
theorem dX12_faultOf_26 : decode cX12_faultOf 26 = .ok (.iaload, 1) := by decide +kernel
theorem dX12_faultOf_27 : decode cX12_faultOf 27 = .ok (.invokevirtual 103, 3) := by decide +kernel
theorem dX12_faultOf_30 : decode cX12_faultOf 30 = .ok (.ifCond .eq 9, 3) := by decide +kernel
theorem dX12_faultOf_33 : decode cX12_faultOf 33 = .ok (.iinc 1 1, 3) := by decide +kernel
theorem dX12_faultOf_36 : decode cX12_faultOf 36 = .ok (.goto (-24), 3) := by decide +kernel
theorem dX12_faultOf_39 : decode cX12_faultOf 39 = .ok (.iload_n 1, 1) := by decide +kernel
theorem dX12_faultOf_40 : decode cX12_faultOf 40 = .ok (.ireturn, 1) := by decide +kernel
theorem dX12_fault_0 : decode cX12_fault 0 = .ok (.aload_n 0, 1) := by decide +kernel
theorem dX12_fault_1 : decode cX12_fault 1 = .ok (.invokevirtual 107, 3) := by decide +kernel
theorem dX12_fault_4 : decode cX12_fault 4 = .ok (.ireturn, 1) := by decide +kernel
theorem dX12_school_0 : decode cX12_school 0 = .ok (.aload_n 0, 1) := by decide +kernel
theorem dX12_school_1 : decode cX12_school 1 = .ok (.invokevirtual 107, 3) := by decide +kernel
theorem dX12_school_4 : decode cX12_school 4 = .ok (.aload_n 0, 1) := by decide +kernel
theorem dX12_school_5 : decode cX12_school 5 = .ok (.getfield 82, 3) := by decide +kernel
theorem dX12_school_8 : decode cX12_school 8 = .ok (.if_icmp .lt 11, 3) := by decide +kernel
theorem dX12_school_11 : decode cX12_school 11 = .ok (.aload_n 0, 1) := by decide +kernel
theorem dX12_school_12 : decode cX12_school 12 = .ok (.getfield 86, 3) := by decide +kernel
theorem dX12_school_15 : decode cX12_school 15 = .ok (.iconst 4, 1) := by decide +kernel
theorem dX12_school_16 : decode cX12_school 16 = .ok (.if_icmp .eq 6, 3) := by decide +kernel
theorem dX12_school_19 : decode cX12_school 19 = .ok (.bipush (-103), 2) := by decide +kernel
theorem dX12_school_21 : decode cX12_school 21 = .ok (.ireturn, 1) := by decide +kernel
theorem dX12_school_22 : decode cX12_school 22 = .ok (.aload_n 0, 1) := by decide +kernel
theorem dX12_school_23 : decode cX12_school 23 = .ok (.getfield 111, 3) := by decide +kernel
theorem dX12_school_26 : decode cX12_school 26 = .ok (.iconst 3, 1) := by decide +kernel
theorem dX12_school_27 : decode cX12_school 27 = .ok (.if_icmp .ne 6, 3) := by decide +kernel
theorem dX12_school_30 : decode cX12_school 30 = .ok (.bipush (-104), 2) := by decide +kernel
theorem dX12_school_32 : decode cX12_school 32 = .ok (.ireturn, 1) := by decide +kernel
theorem dX12_school_33 : decode cX12_school 33 = .ok (.iconst 0, 1) := by decide +kernel
theorem dX12_school_34 : decode cX12_school 34 = .ok (.istore_n 1, 1) := by decide +kernel
theorem dX12_school_35 : decode cX12_school 35 = .ok (.iload_n 1, 1) := by decide +kernel
theorem dX12_school_36 : decode cX12_school 36 = .ok (.aload_n 0, 1) := by decide +kernel
theorem dX12_school_37 : decode cX12_school 37 = .ok (.getfield 97, 3) := by decide +kernel
theorem dX12_school_40 : decode cX12_school 40 = .ok (.if_icmp .ge 28, 3) := by decide +kernel
theorem dX12_school_43 : decode cX12_school 43 = .ok (.aload_n 0, 1) := by decide +kernel
theorem dX12_school_44 : decode cX12_school 44 = .ok (.getfield 13, 3) := by decide +kernel
theorem dX12_school_47 : decode cX12_school 47 = .ok (.iconst 4, 1) := by decide +kernel
theorem dX12_school_48 : decode cX12_school 48 = .ok (.aload_n 0, 1) := by decide +kernel
theorem dX12_school_49 : decode cX12_school 49 = .ok (.getfield 111, 3) := by decide +kernel
theorem dX12_school_52 : decode cX12_school 52 = .ok (.imul, 1) := by decide +kernel
theorem dX12_school_53 : decode cX12_school 53 = .ok (.iload_n 1, 1) := by decide +kernel
theorem dX12_school_54 : decode cX12_school 54 = .ok (.iadd, 1) := by decide +kernel
theorem dX12_school_55 : decode cX12_school 55 = .ok (.aload_n 0, 1) := by decide +kernel
theorem dX12_school_56 : decode cX12_school 56 = .ok (.getfield 22, 3) := by decide +kernel
theorem dX12_school_59 : decode cX12_school 59 = .ok (.iload_n 1, 1) := by decide +kernel
theorem dX12_school_60 : decode cX12_school 60 = .ok (.iaload, 1) := by decide +kernel
theorem dX12_school_61 : decode cX12_school 61 = .ok (.iastore, 1) := by decide +kernel
theorem dX12_school_62 : decode cX12_school 62 = .ok (.iinc 1 1, 3) := by decide +kernel
theorem dX12_school_65 : decode cX12_school 65 = .ok (.goto (-30), 3) := by decide +kernel
theorem dX12_school_68 : decode cX12_school 68 = .ok (.aload_n 0, 1) := by decide +kernel
theorem dX12_school_69 : decode cX12_school 69 = .ok (.getfield 16, 3) := by decide +kernel
theorem dX12_school_72 : decode cX12_school 72 = .ok (.aload_n 0, 1) := by decide +kernel
theorem dX12_school_73 : decode cX12_school 73 = .ok (.getfield 111, 3) := by decide +kernel
theorem dX12_school_76 : decode cX12_school 76 = .ok (.aload_n 0, 1) := by decide +kernel
theorem dX12_school_77 : decode cX12_school 77 = .ok (.getfield 97, 3) := by decide +kernel
theorem dX12_school_80 : decode cX12_school 80 = .ok (.iastore, 1) := by decide +kernel
theorem dX12_school_81 : decode cX12_school 81 = .ok (.aload_n 0, 1) := by decide +kernel
theorem dX12_school_82 : decode cX12_school 82 = .ok (.getfield 19, 3) := by decide +kernel
theorem dX12_school_85 : decode cX12_school 85 = .ok (.aload_n 0, 1) := by decide +kernel
theorem dX12_school_86 : decode cX12_school 86 = .ok (.getfield 111, 3) := by decide +kernel
theorem dX12_school_89 : decode cX12_school 89 = .ok (.aload_n 0, 1) := by decide +kernel
theorem dX12_school_90 : decode cX12_school 90 = .ok (.getfield 100, 3) := by decide +kernel
theorem dX12_school_93 : decode cX12_school 93 = .ok (.iastore, 1) := by decide +kernel
theorem dX12_school_94 : decode cX12_school 94 = .ok (.aload_n 0, 1) := by decide +kernel
theorem dX12_school_95 : decode cX12_school 95 = .ok (.dup, 1) := by decide +kernel
theorem dX12_school_96 : decode cX12_school 96 = .ok (.getfield 111, 3) := by decide +kernel
theorem dX12_school_99 : decode cX12_school 99 = .ok (.iconst 1, 1) := by decide +kernel
theorem dX12_school_100 : decode cX12_school 100 = .ok (.iadd, 1) := by decide +kernel
theorem dX12_school_101 : decode cX12_school 101 = .ok (.putfield 111, 3) := by decide +kernel
theorem dX12_school_104 : decode cX12_school 104 = .ok (.aload_n 0, 1) := by decide +kernel
theorem dX12_school_105 : decode cX12_school 105 = .ok (.iconst 0, 1) := by decide +kernel
theorem dX12_school_106 : decode cX12_school 106 = .ok (.putfield 82, 3) := by decide +kernel
theorem dX12_school_109 : decode cX12_school 109 = .ok (.aload_n 0, 1) := by decide +kernel
theorem dX12_school_110 : decode cX12_school 110 = .ok (.getfield 111, 3) := by decide +kernel
theorem dX12_school_113 : decode cX12_school 113 = .ok (.iconst 1, 1) := by decide +kernel
theorem dX12_school_114 : decode cX12_school 114 = .ok (.isub, 1) := by decide +kernel
theorem dX12_school_115 : decode cX12_school 115 = .ok (.ireturn, 1) := by decide +kernel
theorem dX12_isSchool_0 : decode cX12_isSchool 0 = .ok (.iload_n 1, 1) := by decide +kernel
theorem dX12_isSchool_1 : decode cX12_isSchool 1 = .ok (.i2l, 1) := by decide +kernel
theorem dX12_isSchool_2 : decode cX12_isSchool 2 = .ok (.lconst 0, 1) := by decide +kernel
theorem dX12_isSchool_3 : decode cX12_isSchool 3 = .ok (.aload_n 0, 1) := by decide +kernel
theorem dX12_isSchool_4 : decode cX12_isSchool 4 = .ok (.getfield 111, 3) := by decide +kernel
theorem dX12_isSchool_7 : decode cX12_isSchool 7 = .ok (.iconst 1, 1) := by decide +kernel
theorem dX12_isSchool_8 : decode cX12_isSchool 8 = .ok (.isub, 1) := by decide +kernel
theorem dX12_isSchool_9 : decode cX12_isSchool 9 = .ok (.i2l, 1) := by decide +kernel
theorem dX12_isSchool_10 : decode cX12_isSchool 10 = .ok (.invokestatic 93, 3) := by decide +kernel
theorem dX12_isSchool_13 : decode cX12_isSchool 13 = .ok (.ireturn, 1) := by decide +kernel
theorem dX12_worthOf_0 : decode cX12_worthOf 0 = .ok (.iload_n 0, 1) := by decide +kernel
theorem dX12_worthOf_1 : decode cX12_worthOf 1 = .ok (.ifCond .lt 5, 3) := by decide +kernel
theorem dX12_worthOf_4 : decode cX12_worthOf 4 = .ok (.iload_n 0, 1) := by decide +kernel
theorem dX12_worthOf_5 : decode cX12_worthOf 5 = .ok (.ireturn, 1) := by decide +kernel
theorem dX12_worthOf_6 : decode cX12_worthOf 6 = .ok (.iload_n 0, 1) := by decide +kernel
theorem dX12_worthOf_7 : decode cX12_worthOf 7 = .ok (.ineg, 1) := by decide +kernel
theorem dX12_worthOf_8 : decode cX12_worthOf 8 = .ok (.lookupswitch 70 #[(108, 59), (109, 48), (120, 44), (121, 46)], 44) := by decide +kernel
theorem dX12_worthOf_52 : decode cX12_worthOf 52 = .ok (.iload_n 1, 1) := by decide +kernel
theorem dX12_worthOf_53 : decode cX12_worthOf 53 = .ok (.ireturn, 1) := by decide +kernel
theorem dX12_worthOf_54 : decode cX12_worthOf 54 = .ok (.iload_n 2, 1) := by decide +kernel
theorem dX12_worthOf_55 : decode cX12_worthOf 55 = .ok (.ireturn, 1) := by decide +kernel
theorem dX12_worthOf_56 : decode cX12_worthOf 56 = .ok (.iload_n 1, 1) := by decide +kernel
theorem dX12_worthOf_57 : decode cX12_worthOf 57 = .ok (.iload_n 2, 1) := by decide +kernel
theorem dX12_worthOf_58 : decode cX12_worthOf 58 = .ok (.if_icmp .le 7, 3) := by decide +kernel
theorem dX12_worthOf_61 : decode cX12_worthOf 61 = .ok (.iload_n 1, 1) := by decide +kernel
theorem dX12_worthOf_62 : decode cX12_worthOf 62 = .ok (.goto 4, 3) := by decide +kernel
theorem dX12_worthOf_65 : decode cX12_worthOf 65 = .ok (.iload_n 2, 1) := by decide +kernel
theorem dX12_worthOf_66 : decode cX12_worthOf 66 = .ok (.ireturn, 1) := by decide +kernel
theorem dX12_worthOf_67 : decode cX12_worthOf 67 = .ok (.iload_n 1, 1) := by decide +kernel
theorem dX12_worthOf_68 : decode cX12_worthOf 68 = .ok (.iload_n 2, 1) := by decide +kernel
theorem dX12_worthOf_69 : decode cX12_worthOf 69 = .ok (.if_icmp .ge 7, 3) := by decide +kernel
theorem dX12_worthOf_72 : decode cX12_worthOf 72 = .ok (.iload_n 1, 1) := by decide +kernel
theorem dX12_worthOf_73 : decode cX12_worthOf 73 = .ok (.goto 4, 3) := by decide +kernel
theorem dX12_worthOf_76 : decode cX12_worthOf 76 = .ok (.iload_n 2, 1) := by decide +kernel
theorem dX12_worthOf_77 : decode cX12_worthOf 77 = .ok (.ireturn, 1) := by decide +kernel
theorem dX12_worthOf_78 : decode cX12_worthOf 78 = .ok (.iload_n 2, 1) := by decide +kernel
theorem dX12_worthOf_79 : decode cX12_worthOf 79 = .ok (.iconst 2, 1) := by decide +kernel
theorem dX12_worthOf_80 : decode cX12_worthOf 80 = .ok (.idiv, 1) := by decide +kernel
theorem dX12_worthOf_81 : decode cX12_worthOf 81 = .ok (.ireturn, 1) := by decide +kernel
theorem dX12_countsOf_0 : decode cX12_countsOf 0 = .ok (.iconst 0, 1) := by decide +kernel
theorem dX12_countsOf_1 : decode cX12_countsOf 1 = .ok (.istore 4, 2) := by decide +kernel
theorem dX12_countsOf_3 : decode cX12_countsOf 3 = .ok (.iconst 0, 1) := by decide +kernel
theorem dX12_countsOf_4 : decode cX12_countsOf 4 = .ok (.istore 5, 2) := by decide +kernel
theorem dX12_countsOf_6 : decode cX12_countsOf 6 = .ok (.iload 5, 2) := by decide +kernel
theorem dX12_countsOf_8 : decode cX12_countsOf 8 = .ok (.aload_n 0, 1) := by decide +kernel
theorem dX12_countsOf_9 : decode cX12_countsOf 9 = .ok (.getfield 16, 3) := by decide +kernel
theorem dX12_countsOf_12 : decode cX12_countsOf 12 = .ok (.iload_n 1, 1) := by decide +kernel
theorem dX12_countsOf_13 : decode cX12_countsOf 13 = .ok (.iaload, 1) := by decide +kernel
theorem dX12_countsOf_14 : decode cX12_countsOf 14 = .ok (.if_icmp .ge 30, 3) := by decide +kernel
theorem dX12_countsOf_17 : decode cX12_countsOf 17 = .ok (.iload 4, 2) := by decide +kernel
theorem dX12_countsOf_19 : decode cX12_countsOf 19 = .ok (.aload_n 0, 1) := by decide +kernel
theorem dX12_countsOf_20 : decode cX12_countsOf 20 = .ok (.getfield 13, 3) := by decide +kernel
theorem dX12_countsOf_23 : decode cX12_countsOf 23 = .ok (.iconst 4, 1) := by decide +kernel
theorem dX12_countsOf_24 : decode cX12_countsOf 24 = .ok (.iload_n 1, 1) := by decide +kernel
theorem dX12_countsOf_25 : decode cX12_countsOf 25 = .ok (.imul, 1) := by decide +kernel
theorem dX12_countsOf_26 : decode cX12_countsOf 26 = .ok (.iload 5, 2) := by decide +kernel
theorem dX12_countsOf_28 : decode cX12_countsOf 28 = .ok (.iadd, 1) := by decide +kernel
theorem dX12_countsOf_29 : decode cX12_countsOf 29 = .ok (.iaload, 1) := by decide +kernel
theorem dX12_countsOf_30 : decode cX12_countsOf 30 = .ok (.iload_n 2, 1) := by decide +kernel
theorem dX12_countsOf_31 : decode cX12_countsOf 31 = .ok (.iload_n 3, 1) := by decide +kernel
theorem dX12_countsOf_32 : decode cX12_countsOf 32 = .ok (.invokestatic 114, 3) := by decide +kernel
theorem dX12_countsOf_35 : decode cX12_countsOf 35 = .ok (.iadd, 1) := by decide +kernel
theorem dX12_countsOf_36 : decode cX12_countsOf 36 = .ok (.istore 4, 2) := by decide +kernel
theorem dX12_countsOf_38 : decode cX12_countsOf 38 = .ok (.iinc 5 1, 3) := by decide +kernel
theorem dX12_countsOf_41 : decode cX12_countsOf 41 = .ok (.goto (-35), 3) := by decide +kernel
theorem dX12_countsOf_44 : decode cX12_countsOf 44 = .ok (.iload 4, 2) := by decide +kernel
theorem dX12_countsOf_46 : decode cX12_countsOf 46 = .ok (.sipush 999, 3) := by decide +kernel
theorem dX12_countsOf_49 : decode cX12_countsOf 49 = .ok (.if_icmp .ge 8, 3) := by decide +kernel
theorem dX12_countsOf_52 : decode cX12_countsOf 52 = .ok (.iload 4, 2) := by decide +kernel
theorem dX12_countsOf_54 : decode cX12_countsOf 54 = .ok (.goto 6, 3) := by decide +kernel
theorem dX12_countsOf_57 : decode cX12_countsOf 57 = .ok (.sipush 999, 3) := by decide +kernel
theorem dX12_countsOf_60 : decode cX12_countsOf 60 = .ok (.ireturn, 1) := by decide +kernel
theorem dX12_counts_0 : decode cX12_counts 0 = .ok (.aload_n 0, 1) := by decide +kernel
theorem dX12_counts_1 : decode cX12_counts 1 = .ok (.iload_n 1, 1) := by decide +kernel
theorem dX12_counts_2 : decode cX12_counts 2 = .ok (.invokevirtual 118, 3) := by decide +kernel
theorem dX12_counts_5 : decode cX12_counts 5 = .ok (.ifCond .ne 6, 3) := by decide +kernel
theorem dX12_counts_8 : decode cX12_counts 8 = .ok (.bipush (-101), 2) := by decide +kernel
theorem dX12_counts_10 : decode cX12_counts 10 = .ok (.ireturn, 1) := by decide +kernel
theorem dX12_counts_11 : decode cX12_counts 11 = .ok (.iload_n 2, 1) := by decide +kernel
theorem dX12_counts_12 : decode cX12_counts 12 = .ok (.i2l, 1) := by decide +kernel
theorem dX12_counts_13 : decode cX12_counts 13 = .ok (.lconst 0, 1) := by decide +kernel
theorem dX12_counts_14 : decode cX12_counts 14 = .ok (.ldc2_w 121, 3) := by decide +kernel
theorem dX12_counts_17 : decode cX12_counts 17 = .ok (.invokestatic 93, 3) := by decide +kernel
theorem dX12_counts_20 : decode cX12_counts 20 = .ok (.ifCond .eq 25, 3) := by decide +kernel
theorem dX12_counts_23 : decode cX12_counts 23 = .ok (.iload_n 3, 1) := by decide +kernel
theorem dX12_counts_24 : decode cX12_counts 24 = .ok (.i2l, 1) := by decide +kernel
theorem dX12_counts_25 : decode cX12_counts 25 = .ok (.lconst 0, 1) := by decide +kernel
theorem dX12_counts_26 : decode cX12_counts 26 = .ok (.ldc2_w 121, 3) := by decide +kernel
theorem dX12_counts_29 : decode cX12_counts 29 = .ok (.invokestatic 93, 3) := by decide +kernel
theorem dX12_counts_32 : decode cX12_counts 32 = .ok (.ifCond .eq 13, 3) := by decide +kernel
theorem dX12_counts_35 : decode cX12_counts 35 = .ok (.aload_n 0, 1) := by decide +kernel
theorem dX12_counts_36 : decode cX12_counts 36 = .ok (.iload_n 1, 1) := by decide +kernel
theorem dX12_counts_37 : decode cX12_counts 37 = .ok (.iload_n 2, 1) := by decide +kernel
theorem dX12_counts_38 : decode cX12_counts 38 = .ok (.iload_n 3, 1) := by decide +kernel
theorem dX12_counts_39 : decode cX12_counts 39 = .ok (.invokevirtual 123, 3) := by decide +kernel
theorem dX12_counts_42 : decode cX12_counts 42 = .ok (.goto 5, 3) := by decide +kernel
theorem dX12_counts_45 : decode cX12_counts 45 = .ok (.bipush (-102), 2) := by decide +kernel
theorem dX12_counts_47 : decode cX12_counts 47 = .ok (.ireturn, 1) := by decide +kernel
theorem dX12_meeting_0 : decode cX12_meeting 0 = .ok (.iload_n 1, 1) := by decide +kernel
theorem dX12_meeting_1 : decode cX12_meeting 1 = .ok (.i2l, 1) := by decide +kernel
theorem dX12_meeting_2 : decode cX12_meeting 2 = .ok (.lconst 0, 1) := by decide +kernel
theorem dX12_meeting_3 : decode cX12_meeting 3 = .ok (.ldc2_w 126, 3) := by decide +kernel
theorem dX12_meeting_6 : decode cX12_meeting 6 = .ok (.invokestatic 93, 3) := by decide +kernel
theorem dX12_meeting_9 : decode cX12_meeting 9 = .ok (.ifCond .ne 6, 3) := by decide +kernel
theorem dX12_meeting_12 : decode cX12_meeting 12 = .ok (.bipush (-102), 2) := by decide +kernel
theorem dX12_meeting_14 : decode cX12_meeting 14 = .ok (.ireturn, 1) := by decide +kernel
theorem dX12_meeting_15 : decode cX12_meeting 15 = .ok (.aload_n 0, 1) := by decide +kernel
theorem dX12_meeting_16 : decode cX12_meeting 16 = .ok (.getfield 128, 3) := by decide +kernel
theorem dX12_meeting_19 : decode cX12_meeting 19 = .ok (.istore_n 2, 1) := by decide +kernel
theorem dX12_meeting_20 : decode cX12_meeting 20 = .ok (.aload_n 0, 1) := by decide +kernel
theorem dX12_meeting_21 : decode cX12_meeting 21 = .ok (.iload_n 1, 1) := by decide +kernel
theorem dX12_meeting_22 : decode cX12_meeting 22 = .ok (.putfield 128, 3) := by decide +kernel
theorem dX12_meeting_25 : decode cX12_meeting 25 = .ok (.iload_n 2, 1) := by decide +kernel
theorem dX12_meeting_26 : decode cX12_meeting 26 = .ok (.ireturn, 1) := by decide +kernel
theorem dX12_meet_0 : decode cX12_meet 0 = .ok (.aload_n 0, 1) := by decide +kernel
theorem dX12_meet_1 : decode cX12_meet 1 = .ok (.iload_n 1, 1) := by decide +kernel
theorem dX12_meet_2 : decode cX12_meet 2 = .ok (.iload_n 3, 1) := by decide +kernel
theorem dX12_meet_3 : decode cX12_meet 3 = .ok (.iload 4, 2) := by decide +kernel
theorem dX12_meet_5 : decode cX12_meet 5 = .ok (.invokevirtual 123, 3) := by decide +kernel
theorem dX12_meet_8 : decode cX12_meet 8 = .ok (.istore 5, 2) := by decide +kernel
theorem dX12_meet_10 : decode cX12_meet 10 = .ok (.aload_n 0, 1) := by decide +kernel
theorem dX12_meet_11 : decode cX12_meet 11 = .ok (.iload_n 2, 1) := by decide +kernel
theorem dX12_meet_12 : decode cX12_meet 12 = .ok (.iload_n 3, 1) := by decide +kernel
theorem dX12_meet_13 : decode cX12_meet 13 = .ok (.iload 4, 2) := by decide +kernel
theorem dX12_meet_15 : decode cX12_meet 15 = .ok (.invokevirtual 123, 3) := by decide +kernel
theorem dX12_meet_18 : decode cX12_meet 18 = .ok (.istore 6, 2) := by decide +kernel
theorem dX12_meet_20 : decode cX12_meet 20 = .ok (.aload_n 0, 1) := by decide +kernel
theorem dX12_meet_21 : decode cX12_meet 21 = .ok (.getfield 128, 3) := by decide +kernel
theorem dX12_meet_24 : decode cX12_meet 24 = .ok (.iconst 2, 1) := by decide +kernel
theorem dX12_meet_25 : decode cX12_meet 25 = .ok (.if_icmp .ge 18, 3) := by decide +kernel
theorem dX12_meet_28 : decode cX12_meet 28 = .ok (.aload_n 0, 1) := by decide +kernel
theorem dX12_meet_29 : decode cX12_meet 29 = .ok (.getfield 128, 3) := by decide +kernel
theorem dX12_meet_32 : decode cX12_meet 32 = .ok (.ifCond .ne 8, 3) := by decide +kernel
theorem dX12_meet_35 : decode cX12_meet 35 = .ok (.iload 5, 2) := by decide +kernel
theorem dX12_meet_37 : decode cX12_meet 37 = .ok (.goto 5, 3) := by decide +kernel
theorem dX12_meet_40 : decode cX12_meet 40 = .ok (.iload 6, 2) := by decide +kernel
theorem dX12_meet_42 : decode cX12_meet 42 = .ok (.ireturn, 1) := by decide +kernel
theorem dX12_meet_43 : decode cX12_meet 43 = .ok (.aload_n 0, 1) := by decide +kernel
theorem dX12_meet_44 : decode cX12_meet 44 = .ok (.getfield 128, 3) := by decide +kernel
theorem dX12_meet_47 : decode cX12_meet 47 = .ok (.iconst 2, 1) := by decide +kernel
theorem dX12_meet_48 : decode cX12_meet 48 = .ok (.if_icmp .ne 20, 3) := by decide +kernel
theorem dX12_meet_51 : decode cX12_meet 51 = .ok (.iload 5, 2) := by decide +kernel
theorem dX12_meet_53 : decode cX12_meet 53 = .ok (.iload 6, 2) := by decide +kernel
theorem dX12_meet_55 : decode cX12_meet 55 = .ok (.if_icmp .le 8, 3) := by decide +kernel
theorem dX12_meet_58 : decode cX12_meet 58 = .ok (.iload 5, 2) := by decide +kernel
theorem dX12_meet_60 : decode cX12_meet 60 = .ok (.goto 22, 3) := by decide +kernel
theorem dX12_meet_63 : decode cX12_meet 63 = .ok (.iload 6, 2) := by decide +kernel
theorem dX12_meet_65 : decode cX12_meet 65 = .ok (.goto 17, 3) := by decide +kernel
theorem dX12_meet_68 : decode cX12_meet 68 = .ok (.iload 5, 2) := by decide +kernel
theorem dX12_meet_70 : decode cX12_meet 70 = .ok (.iload 6, 2) := by decide +kernel
theorem dX12_meet_72 : decode cX12_meet 72 = .ok (.if_icmp .ge 8, 3) := by decide +kernel
theorem dX12_meet_75 : decode cX12_meet 75 = .ok (.iload 5, 2) := by decide +kernel
theorem dX12_meet_77 : decode cX12_meet 77 = .ok (.goto 5, 3) := by decide +kernel
theorem dX12_meet_80 : decode cX12_meet 80 = .ok (.iload 6, 2) := by decide +kernel
theorem dX12_meet_82 : decode cX12_meet 82 = .ok (.ireturn, 1) := by decide +kernel
theorem dX12_nut_0 : decode cX12_nut 0 = .ok (.iload_n 1, 1) := by decide +kernel
theorem dX12_nut_1 : decode cX12_nut 1 = .ok (.i2l, 1) := by decide +kernel
theorem dX12_nut_2 : decode cX12_nut 2 = .ok (.lconst 0, 1) := by decide +kernel
theorem dX12_nut_3 : decode cX12_nut 3 = .ok (.ldc2_w 131, 3) := by decide +kernel
theorem dX12_nut_6 : decode cX12_nut 6 = .ok (.invokestatic 93, 3) := by decide +kernel
theorem dX12_nut_9 : decode cX12_nut 9 = .ok (.ifCond .ne 6, 3) := by decide +kernel
theorem dX12_nut_12 : decode cX12_nut 12 = .ok (.bipush (-102), 2) := by decide +kernel
theorem dX12_nut_14 : decode cX12_nut 14 = .ok (.ireturn, 1) := by decide +kernel
theorem dX12_nut_15 : decode cX12_nut 15 = .ok (.aload_n 0, 1) := by decide +kernel
theorem dX12_nut_16 : decode cX12_nut 16 = .ok (.iload_n 2, 1) := by decide +kernel
theorem dX12_nut_17 : decode cX12_nut 17 = .ok (.invokevirtual 118, 3) := by decide +kernel
theorem dX12_nut_20 : decode cX12_nut 20 = .ok (.ifCond .ne 6, 3) := by decide +kernel
theorem dX12_nut_23 : decode cX12_nut 23 = .ok (.bipush (-101), 2) := by decide +kernel
theorem dX12_nut_25 : decode cX12_nut 25 = .ok (.ireturn, 1) := by decide +kernel
theorem dX12_nut_26 : decode cX12_nut 26 = .ok (.iload_n 3, 1) := by decide +kernel
theorem dX12_nut_27 : decode cX12_nut 27 = .ok (.i2l, 1) := by decide +kernel
theorem dX12_nut_28 : decode cX12_nut 28 = .ok (.lconst 1, 1) := by decide +kernel
theorem dX12_nut_29 : decode cX12_nut 29 = .ok (.ldc2_w 133, 3) := by decide +kernel
theorem dX12_nut_32 : decode cX12_nut 32 = .ok (.invokestatic 93, 3) := by decide +kernel
theorem dX12_nut_35 : decode cX12_nut 35 = .ok (.ifCond .eq 29, 3) := by decide +kernel
theorem dX12_nut_38 : decode cX12_nut 38 = .ok (.iload 4, 2) := by decide +kernel
theorem dX12_nut_40 : decode cX12_nut 40 = .ok (.i2l, 1) := by decide +kernel
theorem dX12_nut_41 : decode cX12_nut 41 = .ok (.lconst 0, 1) := by decide +kernel
theorem dX12_nut_42 : decode cX12_nut 42 = .ok (.ldc2_w 135, 3) := by decide +kernel
theorem dX12_nut_45 : decode cX12_nut 45 = .ok (.invokestatic 93, 3) := by decide +kernel
theorem dX12_nut_48 : decode cX12_nut 48 = .ok (.ifCond .eq 16, 3) := by decide +kernel
theorem dX12_nut_51 : decode cX12_nut 51 = .ok (.iload 5, 2) := by decide +kernel
theorem dX12_nut_53 : decode cX12_nut 53 = .ok (.i2l, 1) := by decide +kernel
theorem dX12_nut_54 : decode cX12_nut 54 = .ok (.lconst 1, 1) := by decide +kernel
theorem dX12_nut_55 : decode cX12_nut 55 = .ok (.ldc2_w 135, 3) := by decide +kernel
theorem dX12_nut_58 : decode cX12_nut 58 = .ok (.invokestatic 93, 3) := by decide +kernel
theorem dX12_nut_61 : decode cX12_nut 61 = .ok (.ifCond .ne 6, 3) := by decide +kernel
theorem dX12_nut_64 : decode cX12_nut 64 = .ok (.bipush (-102), 2) := by decide +kernel
theorem dX12_nut_66 : decode cX12_nut 66 = .ok (.ireturn, 1) := by decide +kernel
theorem dX12_nut_67 : decode cX12_nut 67 = .ok (.aload_n 0, 1) := by decide +kernel
theorem dX12_nut_68 : decode cX12_nut 68 = .ok (.getfield 137, 3) := by decide +kernel
theorem dX12_nut_71 : decode cX12_nut 71 = .ok (.bipush 8, 2) := by decide +kernel
theorem dX12_nut_73 : decode cX12_nut 73 = .ok (.if_icmp .ne 6, 3) := by decide +kernel
theorem dX12_nut_76 : decode cX12_nut 76 = .ok (.bipush (-104), 2) := by decide +kernel
theorem dX12_nut_78 : decode cX12_nut 78 = .ok (.ireturn, 1) := by decide +kernel
theorem dX12_nut_79 : decode cX12_nut 79 = .ok (.aload_n 0, 1) := by decide +kernel
theorem dX12_nut_80 : decode cX12_nut 80 = .ok (.getfield 25, 3) := by decide +kernel
theorem dX12_nut_83 : decode cX12_nut 83 = .ok (.aload_n 0, 1) := by decide +kernel
theorem dX12_nut_84 : decode cX12_nut 84 = .ok (.getfield 137, 3) := by decide +kernel
theorem dX12_nut_87 : decode cX12_nut 87 = .ok (.iload_n 1, 1) := by decide +kernel
theorem dX12_nut_88 : decode cX12_nut 88 = .ok (.iastore, 1) := by decide +kernel
theorem dX12_nut_89 : decode cX12_nut 89 = .ok (.aload_n 0, 1) := by decide +kernel
theorem dX12_nut_90 : decode cX12_nut 90 = .ok (.getfield 28, 3) := by decide +kernel
theorem dX12_nut_93 : decode cX12_nut 93 = .ok (.aload_n 0, 1) := by decide +kernel
theorem dX12_nut_94 : decode cX12_nut 94 = .ok (.getfield 137, 3) := by decide +kernel
theorem dX12_nut_97 : decode cX12_nut 97 = .ok (.iload_n 2, 1) := by decide +kernel
theorem dX12_nut_98 : decode cX12_nut 98 = .ok (.iastore, 1) := by decide +kernel
theorem dX12_nut_99 : decode cX12_nut 99 = .ok (.aload_n 0, 1) := by decide +kernel
theorem dX12_nut_100 : decode cX12_nut 100 = .ok (.getfield 31, 3) := by decide +kernel
theorem dX12_nut_103 : decode cX12_nut 103 = .ok (.aload_n 0, 1) := by decide +kernel
theorem dX12_nut_104 : decode cX12_nut 104 = .ok (.getfield 137, 3) := by decide +kernel
theorem dX12_nut_107 : decode cX12_nut 107 = .ok (.iload_n 3, 1) := by decide +kernel
theorem dX12_nut_108 : decode cX12_nut 108 = .ok (.iastore, 1) := by decide +kernel
theorem dX12_nut_109 : decode cX12_nut 109 = .ok (.aload_n 0, 1) := by decide +kernel
theorem dX12_nut_110 : decode cX12_nut 110 = .ok (.getfield 34, 3) := by decide +kernel
theorem dX12_nut_113 : decode cX12_nut 113 = .ok (.aload_n 0, 1) := by decide +kernel
theorem dX12_nut_114 : decode cX12_nut 114 = .ok (.getfield 137, 3) := by decide +kernel
theorem dX12_nut_117 : decode cX12_nut 117 = .ok (.iload 4, 2) := by decide +kernel
theorem dX12_nut_119 : decode cX12_nut 119 = .ok (.iastore, 1) := by decide +kernel
theorem dX12_nut_120 : decode cX12_nut 120 = .ok (.aload_n 0, 1) := by decide +kernel
theorem dX12_nut_121 : decode cX12_nut 121 = .ok (.getfield 37, 3) := by decide +kernel
theorem dX12_nut_124 : decode cX12_nut 124 = .ok (.aload_n 0, 1) := by decide +kernel
theorem dX12_nut_125 : decode cX12_nut 125 = .ok (.getfield 137, 3) := by decide +kernel
theorem dX12_nut_128 : decode cX12_nut 128 = .ok (.iload 5, 2) := by decide +kernel
theorem dX12_nut_130 : decode cX12_nut 130 = .ok (.iastore, 1) := by decide +kernel
theorem dX12_nut_131 : decode cX12_nut 131 = .ok (.aload_n 0, 1) := by decide +kernel
theorem dX12_nut_132 : decode cX12_nut 132 = .ok (.getfield 40, 3) := by decide +kernel
theorem dX12_nut_135 : decode cX12_nut 135 = .ok (.aload_n 0, 1) := by decide +kernel
theorem dX12_nut_136 : decode cX12_nut 136 = .ok (.getfield 137, 3) := by decide +kernel
theorem dX12_nut_139 : decode cX12_nut 139 = .ok (.iload 4, 2) := by decide +kernel
theorem dX12_nut_141 : decode cX12_nut 141 = .ok (.iastore, 1) := by decide +kernel
theorem dX12_nut_142 : decode cX12_nut 142 = .ok (.aload_n 0, 1) := by decide +kernel
theorem dX12_nut_143 : decode cX12_nut 143 = .ok (.dup, 1) := by decide +kernel
theorem dX12_nut_144 : decode cX12_nut 144 = .ok (.getfield 137, 3) := by decide +kernel
theorem dX12_nut_147 : decode cX12_nut 147 = .ok (.iconst 1, 1) := by decide +kernel
theorem dX12_nut_148 : decode cX12_nut 148 = .ok (.iadd, 1) := by decide +kernel
theorem dX12_nut_149 : decode cX12_nut 149 = .ok (.putfield 137, 3) := by decide +kernel
theorem dX12_nut_152 : decode cX12_nut 152 = .ok (.aload_n 0, 1) := by decide +kernel
theorem dX12_nut_153 : decode cX12_nut 153 = .ok (.getfield 137, 3) := by decide +kernel
theorem dX12_nut_156 : decode cX12_nut 156 = .ok (.iconst 1, 1) := by decide +kernel
theorem dX12_nut_157 : decode cX12_nut 157 = .ok (.isub, 1) := by decide +kernel
theorem dX12_nut_158 : decode cX12_nut 158 = .ok (.ireturn, 1) := by decide +kernel
theorem dX12_isNut_0 : decode cX12_isNut 0 = .ok (.iload_n 1, 1) := by decide +kernel
theorem dX12_isNut_1 : decode cX12_isNut 1 = .ok (.i2l, 1) := by decide +kernel
theorem dX12_isNut_2 : decode cX12_isNut 2 = .ok (.lconst 0, 1) := by decide +kernel
theorem dX12_isNut_3 : decode cX12_isNut 3 = .ok (.aload_n 0, 1) := by decide +kernel
theorem dX12_isNut_4 : decode cX12_isNut 4 = .ok (.getfield 137, 3) := by decide +kernel
theorem dX12_isNut_7 : decode cX12_isNut 7 = .ok (.iconst 1, 1) := by decide +kernel
theorem dX12_isNut_8 : decode cX12_isNut 8 = .ok (.isub, 1) := by decide +kernel
theorem dX12_isNut_9 : decode cX12_isNut 9 = .ok (.i2l, 1) := by decide +kernel
theorem dX12_isNut_10 : decode cX12_isNut 10 = .ok (.invokestatic 93, 3) := by decide +kernel
theorem dX12_isNut_13 : decode cX12_isNut 13 = .ok (.ireturn, 1) := by decide +kernel
theorem dX12_as_0 : decode cX12_as 0 = .ok (.aload_n 0, 1) := by decide +kernel
theorem dX12_as_1 : decode cX12_as 1 = .ok (.iload_n 1, 1) := by decide +kernel
theorem dX12_as_2 : decode cX12_as 2 = .ok (.invokevirtual 140, 3) := by decide +kernel
theorem dX12_as_5 : decode cX12_as 5 = .ok (.ifCond .ne 6, 3) := by decide +kernel
theorem dX12_as_8 : decode cX12_as 8 = .ok (.bipush (-101), 2) := by decide +kernel
theorem dX12_as_10 : decode cX12_as 10 = .ok (.ireturn, 1) := by decide +kernel
theorem dX12_as_11 : decode cX12_as 11 = .ok (.iload_n 2, 1) := by decide +kernel
theorem dX12_as_12 : decode cX12_as 12 = .ok (.i2l, 1) := by decide +kernel
theorem dX12_as_13 : decode cX12_as 13 = .ok (.lconst 0, 1) := by decide +kernel
theorem dX12_as_14 : decode cX12_as 14 = .ok (.ldc2_w 131, 3) := by decide +kernel
theorem dX12_as_17 : decode cX12_as 17 = .ok (.invokestatic 93, 3) := by decide +kernel
theorem dX12_as_20 : decode cX12_as 20 = .ok (.ifCond .ne 6, 3) := by decide +kernel
theorem dX12_as_23 : decode cX12_as 23 = .ok (.bipush (-102), 2) := by decide +kernel
theorem dX12_as_25 : decode cX12_as 25 = .ok (.ireturn, 1) := by decide +kernel
theorem dX12_as_26 : decode cX12_as 26 = .ok (.iload_n 2, 1) := by decide +kernel
theorem dX12_as_27 : decode cX12_as 27 = .ok (.ifCond .eq 28, 3) := by decide +kernel
theorem dX12_as_30 : decode cX12_as 30 = .ok (.iload_n 2, 1) := by decide +kernel
theorem dX12_as_31 : decode cX12_as 31 = .ok (.aload_n 0, 1) := by decide +kernel
theorem dX12_as_32 : decode cX12_as 32 = .ok (.getfield 25, 3) := by decide +kernel
theorem dX12_as_35 : decode cX12_as 35 = .ok (.iload_n 1, 1) := by decide +kernel
theorem dX12_as_36 : decode cX12_as 36 = .ok (.iaload, 1) := by decide +kernel
theorem dX12_as_37 : decode cX12_as 37 = .ok (.if_icmp .eq 18, 3) := by decide +kernel
theorem dX12_as_40 : decode cX12_as 40 = .ok (.iload_n 2, 1) := by decide +kernel
theorem dX12_as_41 : decode cX12_as 41 = .ok (.iconst 2, 1) := by decide +kernel
theorem dX12_as_42 : decode cX12_as 42 = .ok (.if_icmp .ne 17, 3) := by decide +kernel
theorem dX12_as_45 : decode cX12_as 45 = .ok (.aload_n 0, 1) := by decide +kernel
theorem dX12_as_46 : decode cX12_as 46 = .ok (.getfield 25, 3) := by decide +kernel
theorem dX12_as_49 : decode cX12_as 49 = .ok (.iload_n 1, 1) := by decide +kernel
theorem dX12_as_50 : decode cX12_as 50 = .ok (.iaload, 1) := by decide +kernel
theorem dX12_as_51 : decode cX12_as 51 = .ok (.iconst 3, 1) := by decide +kernel
theorem dX12_as_52 : decode cX12_as 52 = .ok (.if_icmp .ne 7, 3) := by decide +kernel
theorem dX12_as_55 : decode cX12_as 55 = .ok (.iconst 1, 1) := by decide +kernel
theorem dX12_as_56 : decode cX12_as 56 = .ok (.goto 4, 3) := by decide +kernel
theorem dX12_as_59 : decode cX12_as 59 = .ok (.iconst 0, 1) := by decide +kernel
theorem dX12_as_60 : decode cX12_as 60 = .ok (.istore_n 3, 1) := by decide +kernel
theorem dX12_as_61 : decode cX12_as 61 = .ok (.iload_n 3, 1) := by decide +kernel
theorem dX12_as_62 : decode cX12_as 62 = .ok (.ifCond .eq 7, 3) := by decide +kernel
theorem dX12_as_65 : decode cX12_as 65 = .ok (.iload_n 1, 1) := by decide +kernel
theorem dX12_as_66 : decode cX12_as 66 = .ok (.goto 4, 3) := by decide +kernel
theorem dX12_as_69 : decode cX12_as 69 = .ok (.iconst (-1), 1) := by decide +kernel
theorem dX12_as_70 : decode cX12_as 70 = .ok (.ireturn, 1) := by decide +kernel
theorem dX12_hard_0 : decode cX12_hard 0 = .ok (.aload_n 0, 1) := by decide +kernel
theorem dX12_hard_1 : decode cX12_hard 1 = .ok (.getfield 25, 3) := by decide +kernel
theorem dX12_hard_4 : decode cX12_hard 4 = .ok (.iload_n 1, 1) := by decide +kernel
theorem dX12_hard_5 : decode cX12_hard 5 = .ok (.iaload, 1) := by decide +kernel
theorem dX12_hard_6 : decode cX12_hard 6 = .ok (.istore_n 2, 1) := by decide +kernel
theorem dX12_hard_7 : decode cX12_hard 7 = .ok (.iload_n 2, 1) := by decide +kernel
theorem dX12_hard_8 : decode cX12_hard 8 = .ok (.iconst 4, 1) := by decide +kernel
theorem dX12_hard_9 : decode cX12_hard 9 = .ok (.if_icmp .ne 7, 3) := by decide +kernel
theorem dX12_hard_12 : decode cX12_hard 12 = .ok (.iconst 0, 1) := by decide +kernel
theorem dX12_hard_13 : decode cX12_hard 13 = .ok (.goto 11, 3) := by decide +kernel
theorem dX12_hard_16 : decode cX12_hard 16 = .ok (.aload_n 0, 1) := by decide +kernel
theorem dX12_hard_17 : decode cX12_hard 17 = .ok (.getfield 31, 3) := by decide +kernel
theorem dX12_hard_20 : decode cX12_hard 20 = .ok (.iload_n 1, 1) := by decide +kernel
theorem dX12_hard_21 : decode cX12_hard 21 = .ok (.iaload, 1) := by decide +kernel
theorem dX12_hard_22 : decode cX12_hard 22 = .ok (.iload_n 2, 1) := by decide +kernel
theorem dX12_hard_23 : decode cX12_hard 23 = .ok (.iadd, 1) := by decide +kernel
theorem dX12_hard_24 : decode cX12_hard 24 = .ok (.ireturn, 1) := by decide +kernel
theorem dX12_aboutOf_0 : decode cX12_aboutOf 0 = .ok (.iload_n 2, 1) := by decide +kernel
theorem dX12_aboutOf_1 : decode cX12_aboutOf 1 = .ok (.tableswitch 110 0 7 #[47, 54, 61, 68, 74, 81, 88, 95], 47) := by decide +kernel
theorem dX12_aboutOf_48 : decode cX12_aboutOf 48 = .ok (.aload_n 0, 1) := by decide +kernel
theorem dX12_aboutOf_49 : decode cX12_aboutOf 49 = .ok (.getfield 25, 3) := by decide +kernel
theorem dX12_aboutOf_52 : decode cX12_aboutOf 52 = .ok (.iload_n 1, 1) := by decide +kernel
theorem dX12_aboutOf_53 : decode cX12_aboutOf 53 = .ok (.iaload, 1) := by decide +kernel
theorem dX12_aboutOf_54 : decode cX12_aboutOf 54 = .ok (.ireturn, 1) := by decide +kernel
theorem dX12_aboutOf_55 : decode cX12_aboutOf 55 = .ok (.aload_n 0, 1) := by decide +kernel
theorem dX12_aboutOf_56 : decode cX12_aboutOf 56 = .ok (.getfield 28, 3) := by decide +kernel
theorem dX12_aboutOf_59 : decode cX12_aboutOf 59 = .ok (.iload_n 1, 1) := by decide +kernel
theorem dX12_aboutOf_60 : decode cX12_aboutOf 60 = .ok (.iaload, 1) := by decide +kernel
theorem dX12_aboutOf_61 : decode cX12_aboutOf 61 = .ok (.ireturn, 1) := by decide +kernel
theorem dX12_aboutOf_62 : decode cX12_aboutOf 62 = .ok (.aload_n 0, 1) := by decide +kernel
theorem dX12_aboutOf_63 : decode cX12_aboutOf 63 = .ok (.getfield 31, 3) := by decide +kernel
theorem dX12_aboutOf_66 : decode cX12_aboutOf 66 = .ok (.iload_n 1, 1) := by decide +kernel
theorem dX12_aboutOf_67 : decode cX12_aboutOf 67 = .ok (.iaload, 1) := by decide +kernel
theorem dX12_aboutOf_68 : decode cX12_aboutOf 68 = .ok (.ireturn, 1) := by decide +kernel
theorem dX12_aboutOf_69 : decode cX12_aboutOf 69 = .ok (.aload_n 0, 1) := by decide +kernel
theorem dX12_aboutOf_70 : decode cX12_aboutOf 70 = .ok (.iload_n 1, 1) := by decide +kernel
theorem dX12_aboutOf_71 : decode cX12_aboutOf 71 = .ok (.invokevirtual 143, 3) := by decide +kernel
theorem dX12_aboutOf_74 : decode cX12_aboutOf 74 = .ok (.ireturn, 1) := by decide +kernel
theorem dX12_aboutOf_75 : decode cX12_aboutOf 75 = .ok (.aload_n 0, 1) := by decide +kernel
theorem dX12_aboutOf_76 : decode cX12_aboutOf 76 = .ok (.getfield 40, 3) := by decide +kernel
theorem dX12_aboutOf_79 : decode cX12_aboutOf 79 = .ok (.iload_n 1, 1) := by decide +kernel
theorem dX12_aboutOf_80 : decode cX12_aboutOf 80 = .ok (.iaload, 1) := by decide +kernel
theorem dX12_aboutOf_81 : decode cX12_aboutOf 81 = .ok (.ireturn, 1) := by decide +kernel
theorem dX12_aboutOf_82 : decode cX12_aboutOf 82 = .ok (.aload_n 0, 1) := by decide +kernel
theorem dX12_aboutOf_83 : decode cX12_aboutOf 83 = .ok (.getfield 37, 3) := by decide +kernel
theorem dX12_aboutOf_86 : decode cX12_aboutOf 86 = .ok (.iload_n 1, 1) := by decide +kernel
theorem dX12_aboutOf_87 : decode cX12_aboutOf 87 = .ok (.iaload, 1) := by decide +kernel
theorem dX12_aboutOf_88 : decode cX12_aboutOf 88 = .ok (.ireturn, 1) := by decide +kernel
theorem dX12_aboutOf_89 : decode cX12_aboutOf 89 = .ok (.aload_n 0, 1) := by decide +kernel
theorem dX12_aboutOf_90 : decode cX12_aboutOf 90 = .ok (.getfield 43, 3) := by decide +kernel
theorem dX12_aboutOf_93 : decode cX12_aboutOf 93 = .ok (.iload_n 1, 1) := by decide +kernel
theorem dX12_aboutOf_94 : decode cX12_aboutOf 94 = .ok (.iaload, 1) := by decide +kernel
theorem dX12_aboutOf_95 : decode cX12_aboutOf 95 = .ok (.ireturn, 1) := by decide +kernel
theorem dX12_aboutOf_96 : decode cX12_aboutOf 96 = .ok (.aload_n 0, 1) := by decide +kernel
theorem dX12_aboutOf_97 : decode cX12_aboutOf 97 = .ok (.getfield 46, 3) := by decide +kernel
theorem dX12_aboutOf_100 : decode cX12_aboutOf 100 = .ok (.iload_n 1, 1) := by decide +kernel
theorem dX12_aboutOf_101 : decode cX12_aboutOf 101 = .ok (.baload, 1) := by decide +kernel
theorem dX12_aboutOf_102 : decode cX12_aboutOf 102 = .ok (.ifCond .eq 7, 3) := by decide +kernel
theorem dX12_aboutOf_105 : decode cX12_aboutOf 105 = .ok (.iconst 1, 1) := by decide +kernel
theorem dX12_aboutOf_106 : decode cX12_aboutOf 106 = .ok (.goto 4, 3) := by decide +kernel
theorem dX12_aboutOf_109 : decode cX12_aboutOf 109 = .ok (.iconst 0, 1) := by decide +kernel
theorem dX12_aboutOf_110 : decode cX12_aboutOf 110 = .ok (.ireturn, 1) := by decide +kernel
theorem dX12_aboutOf_111 : decode cX12_aboutOf 111 = .ok (.bipush (-102), 2) := by decide +kernel
theorem dX12_aboutOf_113 : decode cX12_aboutOf 113 = .ok (.ireturn, 1) := by decide +kernel
theorem dX12_about_0 : decode cX12_about 0 = .ok (.aload_n 0, 1) := by decide +kernel
theorem dX12_about_1 : decode cX12_about 1 = .ok (.iload_n 1, 1) := by decide +kernel
theorem dX12_about_2 : decode cX12_about 2 = .ok (.invokevirtual 140, 3) := by decide +kernel
theorem dX12_about_5 : decode cX12_about 5 = .ok (.ifCond .eq 12, 3) := by decide +kernel
theorem dX12_about_8 : decode cX12_about 8 = .ok (.aload_n 0, 1) := by decide +kernel
theorem dX12_about_9 : decode cX12_about 9 = .ok (.iload_n 1, 1) := by decide +kernel
theorem dX12_about_10 : decode cX12_about 10 = .ok (.iload_n 2, 1) := by decide +kernel
theorem dX12_about_11 : decode cX12_about 11 = .ok (.invokevirtual 147, 3) := by decide +kernel
theorem dX12_about_14 : decode cX12_about 14 = .ok (.goto 5, 3) := by decide +kernel
theorem dX12_about_17 : decode cX12_about 17 = .ok (.bipush (-101), 2) := by decide +kernel
theorem dX12_about_19 : decode cX12_about 19 = .ok (.ireturn, 1) := by decide +kernel
theorem dX12_isPair_0 : decode cX12_isPair 0 = .ok (.aload_n 0, 1) := by decide +kernel
theorem dX12_isPair_1 : decode cX12_isPair 1 = .ok (.iload_n 1, 1) := by decide +kernel
theorem dX12_isPair_2 : decode cX12_isPair 2 = .ok (.invokevirtual 140, 3) := by decide +kernel
theorem dX12_isPair_5 : decode cX12_isPair 5 = .ok (.ifCond .eq 20, 3) := by decide +kernel
theorem dX12_isPair_8 : decode cX12_isPair 8 = .ok (.aload_n 0, 1) := by decide +kernel
theorem dX12_isPair_9 : decode cX12_isPair 9 = .ok (.iload_n 2, 1) := by decide +kernel
theorem dX12_isPair_10 : decode cX12_isPair 10 = .ok (.invokevirtual 140, 3) := by decide +kernel
theorem dX12_isPair_13 : decode cX12_isPair 13 = .ok (.ifCond .eq 12, 3) := by decide +kernel
theorem dX12_isPair_16 : decode cX12_isPair 16 = .ok (.iload_n 1, 1) := by decide +kernel
theorem dX12_isPair_17 : decode cX12_isPair 17 = .ok (.iload_n 2, 1) := by decide +kernel
theorem dX12_isPair_18 : decode cX12_isPair 18 = .ok (.if_icmp .eq 7, 3) := by decide +kernel
theorem dX12_isPair_21 : decode cX12_isPair 21 = .ok (.iconst 1, 1) := by decide +kernel
theorem dX12_isPair_22 : decode cX12_isPair 22 = .ok (.goto 4, 3) := by decide +kernel
theorem dX12_isPair_25 : decode cX12_isPair 25 = .ok (.iconst 0, 1) := by decide +kernel
theorem dX12_isPair_26 : decode cX12_isPair 26 = .ok (.ireturn, 1) := by decide +kernel
theorem dX12_beat_0 : decode cX12_beat 0 = .ok (.aload_n 0, 1) := by decide +kernel
theorem dX12_beat_1 : decode cX12_beat 1 = .ok (.getfield 40, 3) := by decide +kernel
theorem dX12_beat_4 : decode cX12_beat 4 = .ok (.iload_n 1, 1) := by decide +kernel
theorem dX12_beat_5 : decode cX12_beat 5 = .ok (.aload_n 0, 1) := by decide +kernel
theorem dX12_beat_6 : decode cX12_beat 6 = .ok (.aload_n 0, 1) := by decide +kernel
theorem dX12_beat_7 : decode cX12_beat 7 = .ok (.getfield 28, 3) := by decide +kernel
theorem dX12_beat_10 : decode cX12_beat 10 = .ok (.iload_n 1, 1) := by decide +kernel
theorem dX12_beat_11 : decode cX12_beat 11 = .ok (.iaload, 1) := by decide +kernel
theorem dX12_beat_12 : decode cX12_beat 12 = .ok (.aload_n 0, 1) := by decide +kernel
theorem dX12_beat_13 : decode cX12_beat 13 = .ok (.getfield 28, 3) := by decide +kernel
theorem dX12_beat_16 : decode cX12_beat 16 = .ok (.iload_n 2, 1) := by decide +kernel
theorem dX12_beat_17 : decode cX12_beat 17 = .ok (.iaload, 1) := by decide +kernel
theorem dX12_beat_18 : decode cX12_beat 18 = .ok (.aload_n 0, 1) := by decide +kernel
theorem dX12_beat_19 : decode cX12_beat 19 = .ok (.getfield 40, 3) := by decide +kernel
theorem dX12_beat_22 : decode cX12_beat 22 = .ok (.iload_n 1, 1) := by decide +kernel
theorem dX12_beat_23 : decode cX12_beat 23 = .ok (.iaload, 1) := by decide +kernel
theorem dX12_beat_24 : decode cX12_beat 24 = .ok (.aload_n 0, 1) := by decide +kernel
theorem dX12_beat_25 : decode cX12_beat 25 = .ok (.getfield 40, 3) := by decide +kernel
theorem dX12_beat_28 : decode cX12_beat 28 = .ok (.iload_n 2, 1) := by decide +kernel
theorem dX12_beat_29 : decode cX12_beat 29 = .ok (.iaload, 1) := by decide +kernel
theorem dX12_beat_30 : decode cX12_beat 30 = .ok (.invokevirtual 151, 3) := by decide +kernel
theorem dX12_beat_33 : decode cX12_beat 33 = .ok (.iastore, 1) := by decide +kernel
theorem dX12_beat_34 : decode cX12_beat 34 = .ok (.aload_n 0, 1) := by decide +kernel
theorem dX12_beat_35 : decode cX12_beat 35 = .ok (.getfield 46, 3) := by decide +kernel
theorem dX12_beat_38 : decode cX12_beat 38 = .ok (.iload_n 2, 1) := by decide +kernel
theorem dX12_beat_39 : decode cX12_beat 39 = .ok (.iconst 1, 1) := by decide +kernel
theorem dX12_beat_40 : decode cX12_beat 40 = .ok (.bastore, 1) := by decide +kernel
theorem dX12_beat_41 : decode cX12_beat 41 = .ok (.return_, 1) := by decide +kernel
theorem dX12_beats_0 : decode cX12_beats 0 = .ok (.aload_n 0, 1) := by decide +kernel
theorem dX12_beats_1 : decode cX12_beats 1 = .ok (.iload_n 1, 1) := by decide +kernel
theorem dX12_beats_2 : decode cX12_beats 2 = .ok (.iload_n 2, 1) := by decide +kernel
theorem dX12_beats_3 : decode cX12_beats 3 = .ok (.invokevirtual 155, 3) := by decide +kernel
theorem dX12_beats_6 : decode cX12_beats 6 = .ok (.ifCond .ne 6, 3) := by decide +kernel
theorem dX12_beats_9 : decode cX12_beats 9 = .ok (.bipush (-101), 2) := by decide +kernel
theorem dX12_beats_11 : decode cX12_beats 11 = .ok (.ireturn, 1) := by decide +kernel
theorem dX12_beats_12 : decode cX12_beats 12 = .ok (.aload_n 0, 1) := by decide +kernel
theorem dX12_beats_13 : decode cX12_beats 13 = .ok (.getfield 46, 3) := by decide +kernel
theorem dX12_beats_16 : decode cX12_beats 16 = .ok (.iload_n 1, 1) := by decide +kernel
theorem dX12_beats_17 : decode cX12_beats 17 = .ok (.baload, 1) := by decide +kernel
theorem dX12_beats_18 : decode cX12_beats 18 = .ok (.ifCond .ne 12, 3) := by decide +kernel
theorem dX12_beats_21 : decode cX12_beats 21 = .ok (.aload_n 0, 1) := by decide +kernel
theorem dX12_beats_22 : decode cX12_beats 22 = .ok (.getfield 46, 3) := by decide +kernel
theorem dX12_beats_25 : decode cX12_beats 25 = .ok (.iload_n 2, 1) := by decide +kernel
theorem dX12_beats_26 : decode cX12_beats 26 = .ok (.baload, 1) := by decide +kernel
theorem dX12_beats_27 : decode cX12_beats 27 = .ok (.ifCond .eq 6, 3) := by decide +kernel
theorem dX12_beats_30 : decode cX12_beats 30 = .ok (.bipush (-103), 2) := by decide +kernel
theorem dX12_beats_32 : decode cX12_beats 32 = .ok (.ireturn, 1) := by decide +kernel
theorem dX12_beats_33 : decode cX12_beats 33 = .ok (.aload_n 0, 1) := by decide +kernel
theorem dX12_beats_34 : decode cX12_beats 34 = .ok (.iload_n 1, 1) := by decide +kernel
theorem dX12_beats_35 : decode cX12_beats 35 = .ok (.iload_n 2, 1) := by decide +kernel
theorem dX12_beats_36 : decode cX12_beats 36 = .ok (.invokevirtual 159, 3) := by decide +kernel
theorem dX12_beats_39 : decode cX12_beats 39 = .ok (.aload_n 0, 1) := by decide +kernel
theorem dX12_beats_40 : decode cX12_beats 40 = .ok (.getfield 40, 3) := by decide +kernel
theorem dX12_beats_43 : decode cX12_beats 43 = .ok (.iload_n 1, 1) := by decide +kernel
theorem dX12_beats_44 : decode cX12_beats 44 = .ok (.iaload, 1) := by decide +kernel
theorem dX12_beats_45 : decode cX12_beats 45 = .ok (.ireturn, 1) := by decide +kernel
theorem dX12_draw_0 : decode cX12_draw 0 = .ok (.aload_n 0, 1) := by decide +kernel
theorem dX12_draw_1 : decode cX12_draw 1 = .ok (.ldc2_w 163, 3) := by decide +kernel
theorem dX12_draw_4 : decode cX12_draw 4 = .ok (.aload_n 0, 1) := by decide +kernel
theorem dX12_draw_5 : decode cX12_draw 5 = .ok (.getfield 165, 3) := by decide +kernel
theorem dX12_draw_8 : decode cX12_draw 8 = .ok (.i2l, 1) := by decide +kernel
theorem dX12_draw_9 : decode cX12_draw 9 = .ok (.lmul, 1) := by decide +kernel
theorem dX12_draw_10 : decode cX12_draw 10 = .ok (.ldc2_w 168, 3) := by decide +kernel
theorem dX12_draw_13 : decode cX12_draw 13 = .ok (.ladd, 1) := by decide +kernel
theorem dX12_draw_14 : decode cX12_draw 14 = .ok (.ldc2_w 170, 3) := by decide +kernel
theorem dX12_draw_17 : decode cX12_draw 17 = .ok (.land, 1) := by decide +kernel
theorem dX12_draw_18 : decode cX12_draw 18 = .ok (.l2i, 1) := by decide +kernel
theorem dX12_draw_19 : decode cX12_draw 19 = .ok (.putfield 165, 3) := by decide +kernel
theorem dX12_draw_22 : decode cX12_draw 22 = .ok (.aload_n 0, 1) := by decide +kernel
theorem dX12_draw_23 : decode cX12_draw 23 = .ok (.getfield 165, 3) := by decide +kernel
theorem dX12_draw_26 : decode cX12_draw 26 = .ok (.ldc 172, 2) := by decide +kernel
theorem dX12_draw_28 : decode cX12_draw 28 = .ok (.idiv, 1) := by decide +kernel
theorem dX12_draw_29 : decode cX12_draw 29 = .ok (.iload_n 1, 1) := by decide +kernel
theorem dX12_draw_30 : decode cX12_draw 30 = .ok (.irem, 1) := by decide +kernel
theorem dX12_draw_31 : decode cX12_draw 31 = .ok (.ireturn, 1) := by decide +kernel
theorem dX12_fought_0 : decode cX12_fought 0 = .ok (.aload_n 0, 1) := by decide +kernel
theorem dX12_fought_1 : decode cX12_fought 1 = .ok (.iload_n 3, 1) := by decide +kernel
theorem dX12_fought_2 : decode cX12_fought 2 = .ok (.putfield 165, 3) := by decide +kernel
theorem dX12_fought_5 : decode cX12_fought 5 = .ok (.aload_n 0, 1) := by decide +kernel
theorem dX12_fought_6 : decode cX12_fought 6 = .ok (.iconst 0, 1) := by decide +kernel
theorem dX12_fought_7 : decode cX12_fought 7 = .ok (.putfield 173, 3) := by decide +kernel
theorem dX12_fought_10 : decode cX12_fought 10 = .ok (.aload_n 0, 1) := by decide +kernel
theorem dX12_fought_11 : decode cX12_fought 11 = .ok (.iconst 0, 1) := by decide +kernel
theorem dX12_fought_12 : decode cX12_fought 12 = .ok (.putfield 176, 3) := by decide +kernel
theorem dX12_fought_15 : decode cX12_fought 15 = .ok (.aload_n 0, 1) := by decide +kernel
theorem dX12_fought_16 : decode cX12_fought 16 = .ok (.aload_n 0, 1) := by decide +kernel
theorem dX12_fought_17 : decode cX12_fought 17 = .ok (.getfield 43, 3) := by decide +kernel
theorem dX12_fought_20 : decode cX12_fought 20 = .ok (.iload_n 1, 1) := by decide +kernel
theorem dX12_fought_21 : decode cX12_fought 21 = .ok (.iaload, 1) := by decide +kernel
theorem dX12_fought_22 : decode cX12_fought 22 = .ok (.putfield 179, 3) := by decide +kernel
theorem dX12_fought_25 : decode cX12_fought 25 = .ok (.aload_n 0, 1) := by decide +kernel
theorem dX12_fought_26 : decode cX12_fought 26 = .ok (.aload_n 0, 1) := by decide +kernel
theorem dX12_fought_27 : decode cX12_fought 27 = .ok (.getfield 43, 3) := by decide +kernel
theorem dX12_fought_30 : decode cX12_fought 30 = .ok (.iload_n 2, 1) := by decide +kernel
theorem dX12_fought_31 : decode cX12_fought 31 = .ok (.iaload, 1) := by decide +kernel
theorem dX12_fought_32 : decode cX12_fought 32 = .ok (.putfield 182, 3) := by decide +kernel
theorem dX12_fought_35 : decode cX12_fought 35 = .ok (.iload_n 1, 1) := by decide +kernel
theorem dX12_fought_36 : decode cX12_fought 36 = .ok (.istore 4, 2) := by decide +kernel
theorem dX12_fought_38 : decode cX12_fought 38 = .ok (.aload_n 0, 1) := by decide +kernel
theorem dX12_fought_39 : decode cX12_fought 39 = .ok (.getfield 173, 3) := by decide +kernel
theorem dX12_fought_42 : decode cX12_fought 42 = .ok (.bipush 50, 2) := by decide +kernel
theorem dX12_fought_44 : decode cX12_fought 44 = .ok (.if_icmp .ge 226, 3) := by decide +kernel
theorem dX12_fought_47 : decode cX12_fought 47 = .ok (.iload 4, 2) := by decide +kernel
theorem dX12_fought_49 : decode cX12_fought 49 = .ok (.iload_n 1, 1) := by decide +kernel
theorem dX12_fought_50 : decode cX12_fought 50 = .ok (.if_icmp .ne 7, 3) := by decide +kernel
theorem dX12_fought_53 : decode cX12_fought 53 = .ok (.iload_n 2, 1) := by decide +kernel
theorem dX12_fought_54 : decode cX12_fought 54 = .ok (.goto 4, 3) := by decide +kernel
theorem dX12_fought_57 : decode cX12_fought 57 = .ok (.iload_n 1, 1) := by decide +kernel
theorem dX12_fought_58 : decode cX12_fought 58 = .ok (.istore 5, 2) := by decide +kernel
theorem dX12_fought_60 : decode cX12_fought 60 = .ok (.aload_n 0, 1) := by decide +kernel
theorem dX12_fought_61 : decode cX12_fought 61 = .ok (.dup, 1) := by decide +kernel
theorem dX12_fought_62 : decode cX12_fought 62 = .ok (.getfield 173, 3) := by decide +kernel
theorem dX12_fought_65 : decode cX12_fought 65 = .ok (.iconst 1, 1) := by decide +kernel
theorem dX12_fought_66 : decode cX12_fought 66 = .ok (.iadd, 1) := by decide +kernel
theorem dX12_fought_67 : decode cX12_fought 67 = .ok (.putfield 173, 3) := by decide +kernel
theorem dX12_fought_70 : decode cX12_fought 70 = .ok (.aload_n 0, 1) := by decide +kernel
theorem dX12_fought_71 : decode cX12_fought 71 = .ok (.bipush 10, 2) := by decide +kernel
theorem dX12_fought_73 : decode cX12_fought 73 = .ok (.invokevirtual 185, 3) := by decide +kernel
theorem dX12_fought_76 : decode cX12_fought 76 = .ok (.iconst 2, 1) := by decide +kernel
theorem dX12_fought_77 : decode cX12_fought 77 = .ok (.if_icmp .ge 66, 3) := by decide +kernel
theorem dX12_fought_80 : decode cX12_fought 80 = .ok (.aload_n 0, 1) := by decide +kernel
theorem dX12_fought_81 : decode cX12_fought 81 = .ok (.dup, 1) := by decide +kernel
theorem dX12_fought_82 : decode cX12_fought 82 = .ok (.getfield 176, 3) := by decide +kernel
theorem dX12_fought_85 : decode cX12_fought 85 = .ok (.iconst 1, 1) := by decide +kernel
theorem dX12_fought_86 : decode cX12_fought 86 = .ok (.iadd, 1) := by decide +kernel
theorem dX12_fought_87 : decode cX12_fought 87 = .ok (.putfield 176, 3) := by decide +kernel
theorem dX12_fought_90 : decode cX12_fought 90 = .ok (.aload_n 0, 1) := by decide +kernel
theorem dX12_fought_91 : decode cX12_fought 91 = .ok (.getfield 19, 3) := by decide +kernel
theorem dX12_fought_94 : decode cX12_fought 94 = .ok (.aload_n 0, 1) := by decide +kernel
theorem dX12_fought_95 : decode cX12_fought 95 = .ok (.getfield 28, 3) := by decide +kernel
theorem dX12_fought_98 : decode cX12_fought 98 = .ok (.iload 4, 2) := by decide +kernel
theorem dX12_fought_100 : decode cX12_fought 100 = .ok (.iaload, 1) := by decide +kernel
theorem dX12_fought_101 : decode cX12_fought 101 = .ok (.iaload, 1) := by decide +kernel
theorem dX12_fought_102 : decode cX12_fought 102 = .ok (.istore 6, 2) := by decide +kernel
theorem dX12_fought_104 : decode cX12_fought 104 = .ok (.iload 6, 2) := by decide +kernel
theorem dX12_fought_106 : decode cX12_fought 106 = .ok (.bipush 116, 2) := by decide +kernel
theorem dX12_fought_108 : decode cX12_fought 108 = .ok (.if_icmp .ne 8, 3) := by decide +kernel
theorem dX12_fought_111 : decode cX12_fought 111 = .ok (.iload 4, 2) := by decide +kernel
theorem dX12_fought_113 : decode cX12_fought 113 = .ok (.goto 25, 3) := by decide +kernel
theorem dX12_fought_116 : decode cX12_fought 116 = .ok (.iload 6, 2) := by decide +kernel
theorem dX12_fought_118 : decode cX12_fought 118 = .ok (.bipush 111, 2) := by decide +kernel
theorem dX12_fought_120 : decode cX12_fought 120 = .ok (.if_icmp .ne 8, 3) := by decide +kernel
theorem dX12_fought_123 : decode cX12_fought 123 = .ok (.iload 5, 2) := by decide +kernel
theorem dX12_fought_125 : decode cX12_fought 125 = .ok (.goto 13, 3) := by decide +kernel
theorem dX12_fought_128 : decode cX12_fought 128 = .ok (.iload_n 1, 1) := by decide +kernel
theorem dX12_fought_129 : decode cX12_fought 129 = .ok (.iload_n 2, 1) := by decide +kernel
theorem dX12_fought_130 : decode cX12_fought 130 = .ok (.if_icmp .ge 7, 3) := by decide +kernel
theorem dX12_fought_133 : decode cX12_fought 133 = .ok (.iload_n 1, 1) := by decide +kernel
theorem dX12_fought_134 : decode cX12_fought 134 = .ok (.goto 4, 3) := by decide +kernel
theorem dX12_fought_137 : decode cX12_fought 137 = .ok (.iload_n 2, 1) := by decide +kernel
theorem dX12_fought_138 : decode cX12_fought 138 = .ok (.istore 4, 2) := by decide +kernel
theorem dX12_fought_140 : decode cX12_fought 140 = .ok (.goto 127, 3) := by decide +kernel
theorem dX12_fought_143 : decode cX12_fought 143 = .ok (.bipush 15, 2) := by decide +kernel
theorem dX12_fought_145 : decode cX12_fought 145 = .ok (.iconst 5, 1) := by decide +kernel
theorem dX12_fought_146 : decode cX12_fought 146 = .ok (.aload_n 0, 1) := by decide +kernel
theorem dX12_fought_147 : decode cX12_fought 147 = .ok (.iload 4, 2) := by decide +kernel
theorem dX12_fought_149 : decode cX12_fought 149 = .ok (.invokevirtual 143, 3) := by decide +kernel
theorem dX12_fought_152 : decode cX12_fought 152 = .ok (.aload_n 0, 1) := by decide +kernel
theorem dX12_fought_153 : decode cX12_fought 153 = .ok (.iload 5, 2) := by decide +kernel
theorem dX12_fought_155 : decode cX12_fought 155 = .ok (.invokevirtual 143, 3) := by decide +kernel
theorem dX12_fought_158 : decode cX12_fought 158 = .ok (.isub, 1) := by decide +kernel
theorem dX12_fought_159 : decode cX12_fought 159 = .ok (.imul, 1) := by decide +kernel
theorem dX12_fought_160 : decode cX12_fought 160 = .ok (.iadd, 1) := by decide +kernel
theorem dX12_fought_161 : decode cX12_fought 161 = .ok (.iconst 4, 1) := by decide +kernel
theorem dX12_fought_162 : decode cX12_fought 162 = .ok (.iload 5, 2) := by decide +kernel
theorem dX12_fought_164 : decode cX12_fought 164 = .ok (.iload_n 1, 1) := by decide +kernel
theorem dX12_fought_165 : decode cX12_fought 165 = .ok (.if_icmp .ne 10, 3) := by decide +kernel
theorem dX12_fought_168 : decode cX12_fought 168 = .ok (.aload_n 0, 1) := by decide +kernel
theorem dX12_fought_169 : decode cX12_fought 169 = .ok (.getfield 179, 3) := by decide +kernel
theorem dX12_fought_172 : decode cX12_fought 172 = .ok (.goto 7, 3) := by decide +kernel
theorem dX12_fought_175 : decode cX12_fought 175 = .ok (.aload_n 0, 1) := by decide +kernel
theorem dX12_fought_176 : decode cX12_fought 176 = .ok (.getfield 182, 3) := by decide +kernel
theorem dX12_fought_179 : decode cX12_fought 179 = .ok (.imul, 1) := by decide +kernel
theorem dX12_fought_180 : decode cX12_fought 180 = .ok (.iadd, 1) := by decide +kernel
theorem dX12_fought_181 : decode cX12_fought 181 = .ok (.istore 6, 2) := by decide +kernel
theorem dX12_fought_183 : decode cX12_fought 183 = .ok (.iload 6, 2) := by decide +kernel
theorem dX12_fought_185 : decode cX12_fought 185 = .ok (.iconst 1, 1) := by decide +kernel
theorem dX12_fought_186 : decode cX12_fought 186 = .ok (.if_icmp .ge 7, 3) := by decide +kernel
theorem dX12_fought_189 : decode cX12_fought 189 = .ok (.iconst 1, 1) := by decide +kernel
theorem dX12_fought_190 : decode cX12_fought 190 = .ok (.goto 17, 3) := by decide +kernel
theorem dX12_fought_193 : decode cX12_fought 193 = .ok (.iload 6, 2) := by decide +kernel
theorem dX12_fought_195 : decode cX12_fought 195 = .ok (.bipush 95, 2) := by decide +kernel
theorem dX12_fought_197 : decode cX12_fought 197 = .ok (.if_icmp .le 8, 3) := by decide +kernel
theorem dX12_fought_200 : decode cX12_fought 200 = .ok (.bipush 95, 2) := by decide +kernel
theorem dX12_fought_202 : decode cX12_fought 202 = .ok (.goto 5, 3) := by decide +kernel
theorem dX12_fought_205 : decode cX12_fought 205 = .ok (.iload 6, 2) := by decide +kernel
theorem dX12_fought_207 : decode cX12_fought 207 = .ok (.istore 6, 2) := by decide +kernel
theorem dX12_fought_209 : decode cX12_fought 209 = .ok (.aload_n 0, 1) := by decide +kernel
theorem dX12_fought_210 : decode cX12_fought 210 = .ok (.bipush 100, 2) := by decide +kernel
theorem dX12_fought_212 : decode cX12_fought 212 = .ok (.invokevirtual 185, 3) := by decide +kernel
theorem dX12_fought_215 : decode cX12_fought 215 = .ok (.iload 6, 2) := by decide +kernel
theorem dX12_fought_217 : decode cX12_fought 217 = .ok (.if_icmp .ge 6, 3) := by decide +kernel
theorem dX12_fought_220 : decode cX12_fought 220 = .ok (.iload 4, 2) := by decide +kernel
theorem dX12_fought_222 : decode cX12_fought 222 = .ok (.ireturn, 1) := by decide +kernel
theorem dX12_fought_223 : decode cX12_fought 223 = .ok (.aload_n 0, 1) := by decide +kernel
theorem dX12_fought_224 : decode cX12_fought 224 = .ok (.dup, 1) := by decide +kernel
theorem dX12_fought_225 : decode cX12_fought 225 = .ok (.getfield 179, 3) := by decide +kernel
theorem dX12_fought_228 : decode cX12_fought 228 = .ok (.iload 5, 2) := by decide +kernel
theorem dX12_fought_230 : decode cX12_fought 230 = .ok (.iload_n 1, 1) := by decide +kernel
theorem dX12_fought_231 : decode cX12_fought 231 = .ok (.if_icmp .ne 7, 3) := by decide +kernel
theorem dX12_fought_234 : decode cX12_fought 234 = .ok (.iconst 1, 1) := by decide +kernel
theorem dX12_fought_235 : decode cX12_fought 235 = .ok (.goto 4, 3) := by decide +kernel
theorem dX12_fought_238 : decode cX12_fought 238 = .ok (.iconst 0, 1) := by decide +kernel
theorem dX12_fought_239 : decode cX12_fought 239 = .ok (.iadd, 1) := by decide +kernel
theorem dX12_fought_240 : decode cX12_fought 240 = .ok (.putfield 179, 3) := by decide +kernel
theorem dX12_fought_243 : decode cX12_fought 243 = .ok (.aload_n 0, 1) := by decide +kernel
theorem dX12_fought_244 : decode cX12_fought 244 = .ok (.dup, 1) := by decide +kernel
theorem dX12_fought_245 : decode cX12_fought 245 = .ok (.getfield 182, 3) := by decide +kernel
theorem dX12_fought_248 : decode cX12_fought 248 = .ok (.iload 5, 2) := by decide +kernel
theorem dX12_fought_250 : decode cX12_fought 250 = .ok (.iload_n 1, 1) := by decide +kernel
theorem dX12_fought_251 : decode cX12_fought 251 = .ok (.if_icmp .ne 7, 3) := by decide +kernel
theorem dX12_fought_254 : decode cX12_fought 254 = .ok (.iconst 0, 1) := by decide +kernel
theorem dX12_fought_255 : decode cX12_fought 255 = .ok (.goto 4, 3) := by decide +kernel
theorem dX12_fought_258 : decode cX12_fought 258 = .ok (.iconst 1, 1) := by decide +kernel
theorem dX12_fought_259 : decode cX12_fought 259 = .ok (.iadd, 1) := by decide +kernel
theorem dX12_fought_260 : decode cX12_fought 260 = .ok (.putfield 182, 3) := by decide +kernel
theorem dX12_fought_263 : decode cX12_fought 263 = .ok (.iload 5, 2) := by decide +kernel
theorem dX12_fought_265 : decode cX12_fought 265 = .ok (.istore 4, 2) := by decide +kernel
theorem dX12_fought_267 : decode cX12_fought 267 = .ok (.goto (-229), 3) := by decide +kernel
theorem dX12_fought_270 : decode cX12_fought 270 = .ok (.iconst (-1), 1) := by decide +kernel
theorem dX12_fought_271 : decode cX12_fought 271 = .ok (.ireturn, 1) := by decide +kernel
theorem dX12_fight_0 : decode cX12_fight 0 = .ok (.aload_n 0, 1) := by decide +kernel
theorem dX12_fight_1 : decode cX12_fight 1 = .ok (.iload_n 1, 1) := by decide +kernel
theorem dX12_fight_2 : decode cX12_fight 2 = .ok (.iload_n 2, 1) := by decide +kernel
theorem dX12_fight_3 : decode cX12_fight 3 = .ok (.invokevirtual 155, 3) := by decide +kernel
theorem dX12_fight_6 : decode cX12_fight 6 = .ok (.ifCond .ne 6, 3) := by decide +kernel
theorem dX12_fight_9 : decode cX12_fight 9 = .ok (.bipush (-101), 2) := by decide +kernel
theorem dX12_fight_11 : decode cX12_fight 11 = .ok (.ireturn, 1) := by decide +kernel
theorem dX12_fight_12 : decode cX12_fight 12 = .ok (.iload_n 3, 1) := by decide +kernel
theorem dX12_fight_13 : decode cX12_fight 13 = .ok (.ifCond .ge 6, 3) := by decide +kernel
theorem dX12_fight_16 : decode cX12_fight 16 = .ok (.bipush (-102), 2) := by decide +kernel
theorem dX12_fight_18 : decode cX12_fight 18 = .ok (.ireturn, 1) := by decide +kernel
theorem dX12_fight_19 : decode cX12_fight 19 = .ok (.aload_n 0, 1) := by decide +kernel
theorem dX12_fight_20 : decode cX12_fight 20 = .ok (.getfield 46, 3) := by decide +kernel
theorem dX12_fight_23 : decode cX12_fight 23 = .ok (.iload_n 1, 1) := by decide +kernel
theorem dX12_fight_24 : decode cX12_fight 24 = .ok (.baload, 1) := by decide +kernel
theorem dX12_fight_25 : decode cX12_fight 25 = .ok (.ifCond .ne 12, 3) := by decide +kernel
theorem dX12_fight_28 : decode cX12_fight 28 = .ok (.aload_n 0, 1) := by decide +kernel
theorem dX12_fight_29 : decode cX12_fight 29 = .ok (.getfield 46, 3) := by decide +kernel
theorem dX12_fight_32 : decode cX12_fight 32 = .ok (.iload_n 2, 1) := by decide +kernel
theorem dX12_fight_33 : decode cX12_fight 33 = .ok (.baload, 1) := by decide +kernel
theorem dX12_fight_34 : decode cX12_fight 34 = .ok (.ifCond .eq 6, 3) := by decide +kernel
theorem dX12_fight_37 : decode cX12_fight 37 = .ok (.bipush (-103), 2) := by decide +kernel
theorem dX12_fight_39 : decode cX12_fight 39 = .ok (.ireturn, 1) := by decide +kernel
theorem dX12_fight_40 : decode cX12_fight 40 = .ok (.aload_n 0, 1) := by decide +kernel
theorem dX12_fight_41 : decode cX12_fight 41 = .ok (.iload_n 1, 1) := by decide +kernel
theorem dX12_fight_42 : decode cX12_fight 42 = .ok (.iload_n 2, 1) := by decide +kernel
theorem dX12_fight_43 : decode cX12_fight 43 = .ok (.iload_n 3, 1) := by decide +kernel
theorem dX12_fight_44 : decode cX12_fight 44 = .ok (.invokevirtual 188, 3) := by decide +kernel
theorem dX12_fight_47 : decode cX12_fight 47 = .ok (.istore 4, 2) := by decide +kernel
theorem dX12_fight_49 : decode cX12_fight 49 = .ok (.aload_n 0, 1) := by decide +kernel
theorem dX12_fight_50 : decode cX12_fight 50 = .ok (.getfield 43, 3) := by decide +kernel
theorem dX12_fight_53 : decode cX12_fight 53 = .ok (.iload_n 1, 1) := by decide +kernel
theorem dX12_fight_54 : decode cX12_fight 54 = .ok (.aload_n 0, 1) := by decide +kernel
theorem dX12_fight_55 : decode cX12_fight 55 = .ok (.getfield 179, 3) := by decide +kernel
theorem dX12_fight_58 : decode cX12_fight 58 = .ok (.iastore, 1) := by decide +kernel
theorem dX12_fight_59 : decode cX12_fight 59 = .ok (.aload_n 0, 1) := by decide +kernel
theorem dX12_fight_60 : decode cX12_fight 60 = .ok (.getfield 43, 3) := by decide +kernel
theorem dX12_fight_63 : decode cX12_fight 63 = .ok (.iload_n 2, 1) := by decide +kernel
theorem dX12_fight_64 : decode cX12_fight 64 = .ok (.aload_n 0, 1) := by decide +kernel
theorem dX12_fight_65 : decode cX12_fight 65 = .ok (.getfield 182, 3) := by decide +kernel
theorem dX12_fight_68 : decode cX12_fight 68 = .ok (.iastore, 1) := by decide +kernel
theorem dX12_fight_69 : decode cX12_fight 69 = .ok (.iload 4, 2) := by decide +kernel
theorem dX12_fight_71 : decode cX12_fight 71 = .ok (.iconst (-1), 1) := by decide +kernel
theorem dX12_fight_72 : decode cX12_fight 72 = .ok (.if_icmp .eq 20, 3) := by decide +kernel
theorem dX12_fight_75 : decode cX12_fight 75 = .ok (.aload_n 0, 1) := by decide +kernel
theorem dX12_fight_76 : decode cX12_fight 76 = .ok (.iload 4, 2) := by decide +kernel
theorem dX12_fight_78 : decode cX12_fight 78 = .ok (.iload 4, 2) := by decide +kernel
theorem dX12_fight_80 : decode cX12_fight 80 = .ok (.iload_n 1, 1) := by decide +kernel
theorem dX12_fight_81 : decode cX12_fight 81 = .ok (.if_icmp .ne 7, 3) := by decide +kernel
theorem dX12_fight_84 : decode cX12_fight 84 = .ok (.iload_n 2, 1) := by decide +kernel
theorem dX12_fight_85 : decode cX12_fight 85 = .ok (.goto 4, 3) := by decide +kernel
theorem dX12_fight_88 : decode cX12_fight 88 = .ok (.iload_n 1, 1) := by decide +kernel
theorem dX12_fight_89 : decode cX12_fight 89 = .ok (.invokevirtual 159, 3) := by decide +kernel
theorem dX12_fight_92 : decode cX12_fight 92 = .ok (.iload 4, 2) := by decide +kernel
theorem dX12_fight_94 : decode cX12_fight 94 = .ok (.ireturn, 1) := by decide +kernel
theorem dX12_would_0 : decode cX12_would 0 = .ok (.aload_n 0, 1) := by decide +kernel
theorem dX12_would_1 : decode cX12_would 1 = .ok (.iload_n 1, 1) := by decide +kernel
theorem dX12_would_2 : decode cX12_would 2 = .ok (.iload_n 2, 1) := by decide +kernel
theorem dX12_would_3 : decode cX12_would 3 = .ok (.invokevirtual 155, 3) := by decide +kernel
theorem dX12_would_6 : decode cX12_would 6 = .ok (.ifCond .ne 6, 3) := by decide +kernel
theorem dX12_would_9 : decode cX12_would 9 = .ok (.bipush (-101), 2) := by decide +kernel
theorem dX12_would_11 : decode cX12_would 11 = .ok (.ireturn, 1) := by decide +kernel
theorem dX12_would_12 : decode cX12_would 12 = .ok (.iload_n 3, 1) := by decide +kernel
theorem dX12_would_13 : decode cX12_would 13 = .ok (.ifCond .lt 16, 3) := by decide +kernel
theorem dX12_would_16 : decode cX12_would 16 = .ok (.iload 4, 2) := by decide +kernel
theorem dX12_would_18 : decode cX12_would 18 = .ok (.i2l, 1) := by decide +kernel
theorem dX12_would_19 : decode cX12_would 19 = .ok (.lconst 0, 1) := by decide +kernel
theorem dX12_would_20 : decode cX12_would 20 = .ok (.ldc2_w 126, 3) := by decide +kernel
theorem dX12_would_23 : decode cX12_would 23 = .ok (.invokestatic 93, 3) := by decide +kernel
theorem dX12_would_26 : decode cX12_would 26 = .ok (.ifCond .ne 6, 3) := by decide +kernel
theorem dX12_would_29 : decode cX12_would 29 = .ok (.bipush (-102), 2) := by decide +kernel
theorem dX12_would_31 : decode cX12_would 31 = .ok (.ireturn, 1) := by decide +kernel
theorem dX12_would_32 : decode cX12_would 32 = .ok (.aload_n 0, 1) := by decide +kernel
theorem dX12_would_33 : decode cX12_would 33 = .ok (.getfield 46, 3) := by decide +kernel
theorem dX12_would_36 : decode cX12_would 36 = .ok (.iload_n 1, 1) := by decide +kernel
theorem dX12_would_37 : decode cX12_would 37 = .ok (.baload, 1) := by decide +kernel
theorem dX12_would_38 : decode cX12_would 38 = .ok (.ifCond .ne 12, 3) := by decide +kernel
theorem dX12_would_41 : decode cX12_would 41 = .ok (.aload_n 0, 1) := by decide +kernel
theorem dX12_would_42 : decode cX12_would 42 = .ok (.getfield 46, 3) := by decide +kernel
theorem dX12_would_45 : decode cX12_would 45 = .ok (.iload_n 2, 1) := by decide +kernel
theorem dX12_would_46 : decode cX12_would 46 = .ok (.baload, 1) := by decide +kernel
theorem dX12_would_47 : decode cX12_would 47 = .ok (.ifCond .eq 6, 3) := by decide +kernel
theorem dX12_would_50 : decode cX12_would 50 = .ok (.bipush (-103), 2) := by decide +kernel
theorem dX12_would_52 : decode cX12_would 52 = .ok (.ireturn, 1) := by decide +kernel
theorem dX12_would_53 : decode cX12_would 53 = .ok (.aload_n 0, 1) := by decide +kernel
theorem dX12_would_54 : decode cX12_would 54 = .ok (.iload_n 1, 1) := by decide +kernel
theorem dX12_would_55 : decode cX12_would 55 = .ok (.iload_n 2, 1) := by decide +kernel
theorem dX12_would_56 : decode cX12_would 56 = .ok (.iload_n 3, 1) := by decide +kernel
theorem dX12_would_57 : decode cX12_would 57 = .ok (.invokevirtual 188, 3) := by decide +kernel
theorem dX12_would_60 : decode cX12_would 60 = .ok (.istore 5, 2) := by decide +kernel
theorem dX12_would_62 : decode cX12_would 62 = .ok (.iload 4, 2) := by decide +kernel
theorem dX12_would_64 : decode cX12_would 64 = .ok (.ifCond .ne 8, 3) := by decide +kernel
theorem dX12_would_67 : decode cX12_would 67 = .ok (.iload 5, 2) := by decide +kernel
theorem dX12_would_69 : decode cX12_would 69 = .ok (.goto 33, 3) := by decide +kernel
theorem dX12_would_72 : decode cX12_would 72 = .ok (.iload 4, 2) := by decide +kernel
theorem dX12_would_74 : decode cX12_would 74 = .ok (.iconst 1, 1) := by decide +kernel
theorem dX12_would_75 : decode cX12_would 75 = .ok (.if_icmp .ne 10, 3) := by decide +kernel
theorem dX12_would_78 : decode cX12_would 78 = .ok (.aload_n 0, 1) := by decide +kernel
theorem dX12_would_79 : decode cX12_would 79 = .ok (.getfield 173, 3) := by decide +kernel
theorem dX12_would_82 : decode cX12_would 82 = .ok (.goto 20, 3) := by decide +kernel
theorem dX12_would_85 : decode cX12_would 85 = .ok (.iload 4, 2) := by decide +kernel
theorem dX12_would_87 : decode cX12_would 87 = .ok (.iconst 2, 1) := by decide +kernel
theorem dX12_would_88 : decode cX12_would 88 = .ok (.if_icmp .ne 10, 3) := by decide +kernel
theorem dX12_would_91 : decode cX12_would 91 = .ok (.aload_n 0, 1) := by decide +kernel
theorem dX12_would_92 : decode cX12_would 92 = .ok (.getfield 176, 3) := by decide +kernel
theorem dX12_would_95 : decode cX12_would 95 = .ok (.goto 7, 3) := by decide +kernel
theorem dX12_would_98 : decode cX12_would 98 = .ok (.aload_n 0, 1) := by decide +kernel
theorem dX12_would_99 : decode cX12_would 99 = .ok (.getfield 165, 3) := by decide +kernel
theorem dX12_would_102 : decode cX12_would 102 = .ok (.ireturn, 1) := by decide +kernel
theorem dX12_scales_0 : decode cX12_scales 0 = .ok (.aload_n 0, 1) := by decide +kernel
theorem dX12_scales_1 : decode cX12_scales 1 = .ok (.iload_n 1, 1) := by decide +kernel
theorem dX12_scales_2 : decode cX12_scales 2 = .ok (.invokevirtual 140, 3) := by decide +kernel
theorem dX12_scales_5 : decode cX12_scales 5 = .ok (.ifCond .ne 6, 3) := by decide +kernel
theorem dX12_scales_8 : decode cX12_scales 8 = .ok (.bipush (-101), 2) := by decide +kernel
theorem dX12_scales_10 : decode cX12_scales 10 = .ok (.ireturn, 1) := by decide +kernel
theorem dX12_scales_11 : decode cX12_scales 11 = .ok (.iload_n 2, 1) := by decide +kernel
theorem dX12_scales_12 : decode cX12_scales 12 = .ok (.i2l, 1) := by decide +kernel
theorem dX12_scales_13 : decode cX12_scales 13 = .ok (.lconst 1, 1) := by decide +kernel
theorem dX12_scales_14 : decode cX12_scales 14 = .ok (.ldc2_w 191, 3) := by decide +kernel
theorem dX12_scales_17 : decode cX12_scales 17 = .ok (.invokestatic 93, 3) := by decide +kernel
theorem dX12_scales_20 : decode cX12_scales 20 = .ok (.ifCond .ne 6, 3) := by decide +kernel
theorem dX12_scales_23 : decode cX12_scales 23 = .ok (.bipush (-102), 2) := by decide +kernel
theorem dX12_scales_25 : decode cX12_scales 25 = .ok (.ireturn, 1) := by decide +kernel
theorem dX12_scales_26 : decode cX12_scales 26 = .ok (.aload_n 0, 1) := by decide +kernel
theorem dX12_scales_27 : decode cX12_scales 27 = .ok (.getfield 37, 3) := by decide +kernel
theorem dX12_scales_30 : decode cX12_scales 30 = .ok (.iload_n 1, 1) := by decide +kernel
theorem dX12_scales_31 : decode cX12_scales 31 = .ok (.iaload, 1) := by decide +kernel
theorem dX12_scales_32 : decode cX12_scales 32 = .ok (.istore_n 3, 1) := by decide +kernel
theorem dX12_scales_33 : decode cX12_scales 33 = .ok (.iconst 5, 1) := by decide +kernel
theorem dX12_scales_34 : decode cX12_scales 34 = .ok (.iload_n 3, 1) := by decide +kernel
theorem dX12_scales_35 : decode cX12_scales 35 = .ok (.iload_n 2, 1) := by decide +kernel
theorem dX12_scales_36 : decode cX12_scales 36 = .ok (.isub, 1) := by decide +kernel
theorem dX12_scales_37 : decode cX12_scales 37 = .ok (.imul, 1) := by decide +kernel
theorem dX12_scales_38 : decode cX12_scales 38 = .ok (.iload_n 3, 1) := by decide +kernel
theorem dX12_scales_39 : decode cX12_scales 39 = .ok (.if_icmp .le 7, 3) := by decide +kernel
theorem dX12_scales_42 : decode cX12_scales 42 = .ok (.iconst 2, 1) := by decide +kernel
theorem dX12_scales_43 : decode cX12_scales 43 = .ok (.goto 18, 3) := by decide +kernel
theorem dX12_scales_46 : decode cX12_scales 46 = .ok (.bipush 10, 2) := by decide +kernel
theorem dX12_scales_48 : decode cX12_scales 48 = .ok (.iload_n 2, 1) := by decide +kernel
theorem dX12_scales_49 : decode cX12_scales 49 = .ok (.iload_n 3, 1) := by decide +kernel
theorem dX12_scales_50 : decode cX12_scales 50 = .ok (.isub, 1) := by decide +kernel
theorem dX12_scales_51 : decode cX12_scales 51 = .ok (.imul, 1) := by decide +kernel
theorem dX12_scales_52 : decode cX12_scales 52 = .ok (.iload_n 3, 1) := by decide +kernel
theorem dX12_scales_53 : decode cX12_scales 53 = .ok (.if_icmp .le 7, 3) := by decide +kernel
theorem dX12_scales_56 : decode cX12_scales 56 = .ok (.iconst 3, 1) := by decide +kernel
theorem dX12_scales_57 : decode cX12_scales 57 = .ok (.goto 4, 3) := by decide +kernel
theorem dX12_scales_60 : decode cX12_scales 60 = .ok (.iconst 0, 1) := by decide +kernel
theorem dX12_scales_61 : decode cX12_scales 61 = .ok (.ireturn, 1) := by decide +kernel
theorem dX12_told_0 : decode cX12_told 0 = .ok (.aload_n 0, 1) := by decide +kernel
theorem dX12_told_1 : decode cX12_told 1 = .ok (.iload_n 1, 1) := by decide +kernel
theorem dX12_told_2 : decode cX12_told 2 = .ok (.iload_n 2, 1) := by decide +kernel
theorem dX12_told_3 : decode cX12_told 3 = .ok (.invokevirtual 155, 3) := by decide +kernel
theorem dX12_told_6 : decode cX12_told 6 = .ok (.ifCond .ne 6, 3) := by decide +kernel
theorem dX12_told_9 : decode cX12_told 9 = .ok (.bipush (-101), 2) := by decide +kernel
theorem dX12_told_11 : decode cX12_told 11 = .ok (.ireturn, 1) := by decide +kernel
theorem dX12_told_12 : decode cX12_told 12 = .ok (.aload_n 0, 1) := by decide +kernel
theorem dX12_told_13 : decode cX12_told 13 = .ok (.getfield 193, 3) := by decide +kernel
theorem dX12_told_16 : decode cX12_told 16 = .ok (.bipush 10, 2) := by decide +kernel
theorem dX12_told_18 : decode cX12_told 18 = .ok (.if_icmp .ne 6, 3) := by decide +kernel
theorem dX12_told_21 : decode cX12_told 21 = .ok (.bipush (-104), 2) := by decide +kernel
theorem dX12_told_23 : decode cX12_told 23 = .ok (.ireturn, 1) := by decide +kernel
theorem dX12_told_24 : decode cX12_told 24 = .ok (.aload_n 0, 1) := by decide +kernel
theorem dX12_told_25 : decode cX12_told 25 = .ok (.getfield 53, 3) := by decide +kernel
theorem dX12_told_28 : decode cX12_told 28 = .ok (.aload_n 0, 1) := by decide +kernel
theorem dX12_told_29 : decode cX12_told 29 = .ok (.getfield 193, 3) := by decide +kernel
theorem dX12_told_32 : decode cX12_told 32 = .ok (.iload_n 1, 1) := by decide +kernel
theorem dX12_told_33 : decode cX12_told 33 = .ok (.iastore, 1) := by decide +kernel
theorem dX12_told_34 : decode cX12_told 34 = .ok (.aload_n 0, 1) := by decide +kernel
theorem dX12_told_35 : decode cX12_told 35 = .ok (.getfield 56, 3) := by decide +kernel
theorem dX12_told_38 : decode cX12_told 38 = .ok (.aload_n 0, 1) := by decide +kernel
theorem dX12_told_39 : decode cX12_told 39 = .ok (.getfield 193, 3) := by decide +kernel
theorem dX12_told_42 : decode cX12_told 42 = .ok (.iload_n 2, 1) := by decide +kernel
theorem dX12_told_43 : decode cX12_told 43 = .ok (.iastore, 1) := by decide +kernel
theorem dX12_told_44 : decode cX12_told 44 = .ok (.aload_n 0, 1) := by decide +kernel
theorem dX12_told_45 : decode cX12_told 45 = .ok (.dup, 1) := by decide +kernel
theorem dX12_told_46 : decode cX12_told 46 = .ok (.getfield 193, 3) := by decide +kernel
theorem dX12_told_49 : decode cX12_told 49 = .ok (.iconst 1, 1) := by decide +kernel
theorem dX12_told_50 : decode cX12_told 50 = .ok (.iadd, 1) := by decide +kernel
theorem dX12_told_51 : decode cX12_told 51 = .ok (.putfield 193, 3) := by decide +kernel
theorem dX12_told_54 : decode cX12_told 54 = .ok (.aload_n 0, 1) := by decide +kernel
theorem dX12_told_55 : decode cX12_told 55 = .ok (.getfield 193, 3) := by decide +kernel
theorem dX12_told_58 : decode cX12_told 58 = .ok (.ireturn, 1) := by decide +kernel
theorem dX12_claim_0 : decode cX12_claim 0 = .ok (.aload_n 0, 1) := by decide +kernel
theorem dX12_claim_1 : decode cX12_claim 1 = .ok (.iload_n 1, 1) := by decide +kernel
theorem dX12_claim_2 : decode cX12_claim 2 = .ok (.invokevirtual 140, 3) := by decide +kernel
theorem dX12_claim_5 : decode cX12_claim 5 = .ok (.ifCond .ne 6, 3) := by decide +kernel
theorem dX12_claim_8 : decode cX12_claim 8 = .ok (.bipush (-101), 2) := by decide +kernel
theorem dX12_claim_10 : decode cX12_claim 10 = .ok (.ireturn, 1) := by decide +kernel
theorem dX12_claim_11 : decode cX12_claim 11 = .ok (.iload_n 2, 1) := by decide +kernel
theorem dX12_claim_12 : decode cX12_claim 12 = .ok (.i2l, 1) := by decide +kernel
theorem dX12_claim_13 : decode cX12_claim 13 = .ok (.ldc2_w 196, 3) := by decide +kernel
theorem dX12_claim_16 : decode cX12_claim 16 = .ok (.ldc2_w 121, 3) := by decide +kernel
theorem dX12_claim_19 : decode cX12_claim 19 = .ok (.invokestatic 93, 3) := by decide +kernel
theorem dX12_claim_22 : decode cX12_claim 22 = .ok (.ifCond .ne 6, 3) := by decide +kernel
theorem dX12_claim_25 : decode cX12_claim 25 = .ok (.bipush (-102), 2) := by decide +kernel
theorem dX12_claim_27 : decode cX12_claim 27 = .ok (.ireturn, 1) := by decide +kernel
theorem dX12_claim_28 : decode cX12_claim 28 = .ok (.aload_n 0, 1) := by decide +kernel
theorem dX12_claim_29 : decode cX12_claim 29 = .ok (.getfield 50, 3) := by decide +kernel
theorem dX12_claim_32 : decode cX12_claim 32 = .ok (.iload_n 1, 1) := by decide +kernel
theorem dX12_claim_33 : decode cX12_claim 33 = .ok (.iaload, 1) := by decide +kernel
theorem dX12_claim_34 : decode cX12_claim 34 = .ok (.istore_n 3, 1) := by decide +kernel
theorem dX12_claim_35 : decode cX12_claim 35 = .ok (.aload_n 0, 1) := by decide +kernel
theorem dX12_claim_36 : decode cX12_claim 36 = .ok (.getfield 50, 3) := by decide +kernel
theorem dX12_claim_39 : decode cX12_claim 39 = .ok (.iload_n 1, 1) := by decide +kernel
theorem dX12_claim_40 : decode cX12_claim 40 = .ok (.iload_n 2, 1) := by decide +kernel
theorem dX12_claim_41 : decode cX12_claim 41 = .ok (.iastore, 1) := by decide +kernel
theorem dX12_claim_42 : decode cX12_claim 42 = .ok (.iload_n 3, 1) := by decide +kernel
theorem dX12_claim_43 : decode cX12_claim 43 = .ok (.ireturn, 1) := by decide +kernel
theorem dX12_layBy_0 : decode cX12_layBy 0 = .ok (.iconst 0, 1) := by decide +kernel
theorem dX12_layBy_1 : decode cX12_layBy 1 = .ok (.istore_n 2, 1) := by decide +kernel
theorem dX12_layBy_2 : decode cX12_layBy 2 = .ok (.iconst 1, 1) := by decide +kernel
theorem dX12_layBy_3 : decode cX12_layBy 3 = .ok (.istore_n 3, 1) := by decide +kernel
theorem dX12_layBy_4 : decode cX12_layBy 4 = .ok (.iconst 0, 1) := by decide +kernel
theorem dX12_layBy_5 : decode cX12_layBy 5 = .ok (.istore 4, 2) := by decide +kernel
theorem dX12_layBy_7 : decode cX12_layBy 7 = .ok (.iload 4, 2) := by decide +kernel
theorem dX12_layBy_9 : decode cX12_layBy 9 = .ok (.aload_n 0, 1) := by decide +kernel
theorem dX12_layBy_10 : decode cX12_layBy 10 = .ok (.getfield 137, 3) := by decide +kernel
theorem dX12_layBy_13 : decode cX12_layBy 13 = .ok (.if_icmp .ge 23, 3) := by decide +kernel
theorem dX12_layBy_16 : decode cX12_layBy 16 = .ok (.aload_n 0, 1) := by decide +kernel
theorem dX12_layBy_17 : decode cX12_layBy 17 = .ok (.getfield 59, 3) := by decide +kernel
theorem dX12_layBy_20 : decode cX12_layBy 20 = .ok (.iload 4, 2) := by decide +kernel
theorem dX12_layBy_22 : decode cX12_layBy 22 = .ok (.aload_n 0, 1) := by decide +kernel
theorem dX12_layBy_23 : decode cX12_layBy 23 = .ok (.getfield 34, 3) := by decide +kernel
theorem dX12_layBy_26 : decode cX12_layBy 26 = .ok (.iload 4, 2) := by decide +kernel
theorem dX12_layBy_28 : decode cX12_layBy 28 = .ok (.iaload, 1) := by decide +kernel
theorem dX12_layBy_29 : decode cX12_layBy 29 = .ok (.iastore, 1) := by decide +kernel
theorem dX12_layBy_30 : decode cX12_layBy 30 = .ok (.iinc 4 1, 3) := by decide +kernel
theorem dX12_layBy_33 : decode cX12_layBy 33 = .ok (.goto (-26), 3) := by decide +kernel
theorem dX12_layBy_36 : decode cX12_layBy 36 = .ok (.iconst 0, 1) := by decide +kernel
theorem dX12_layBy_37 : decode cX12_layBy 37 = .ok (.istore 4, 2) := by decide +kernel
theorem dX12_layBy_39 : decode cX12_layBy 39 = .ok (.iload 4, 2) := by decide +kernel
theorem dX12_layBy_41 : decode cX12_layBy 41 = .ok (.aload_n 0, 1) := by decide +kernel
theorem dX12_layBy_42 : decode cX12_layBy 42 = .ok (.getfield 193, 3) := by decide +kernel
theorem dX12_layBy_45 : decode cX12_layBy 45 = .ok (.if_icmp .ge 111, 3) := by decide +kernel
theorem dX12_layBy_48 : decode cX12_layBy 48 = .ok (.iload_n 1, 1) := by decide +kernel
theorem dX12_layBy_49 : decode cX12_layBy 49 = .ok (.iload 4, 2) := by decide +kernel
theorem dX12_layBy_51 : decode cX12_layBy 51 = .ok (.ishr, 1) := by decide +kernel
theorem dX12_layBy_52 : decode cX12_layBy 52 = .ok (.iconst 1, 1) := by decide +kernel
theorem dX12_layBy_53 : decode cX12_layBy 53 = .ok (.iand, 1) := by decide +kernel
theorem dX12_layBy_54 : decode cX12_layBy 54 = .ok (.iconst 1, 1) := by decide +kernel
theorem dX12_layBy_55 : decode cX12_layBy 55 = .ok (.if_icmp .ne 95, 3) := by decide +kernel
theorem dX12_layBy_58 : decode cX12_layBy 58 = .ok (.aload_n 0, 1) := by decide +kernel
theorem dX12_layBy_59 : decode cX12_layBy 59 = .ok (.getfield 53, 3) := by decide +kernel
theorem dX12_layBy_62 : decode cX12_layBy 62 = .ok (.iload 4, 2) := by decide +kernel
theorem dX12_layBy_64 : decode cX12_layBy 64 = .ok (.iaload, 1) := by decide +kernel
theorem dX12_layBy_65 : decode cX12_layBy 65 = .ok (.istore 5, 2) := by decide +kernel
theorem dX12_layBy_67 : decode cX12_layBy 67 = .ok (.aload_n 0, 1) := by decide +kernel
theorem dX12_layBy_68 : decode cX12_layBy 68 = .ok (.getfield 56, 3) := by decide +kernel
theorem dX12_layBy_71 : decode cX12_layBy 71 = .ok (.iload 4, 2) := by decide +kernel
theorem dX12_layBy_73 : decode cX12_layBy 73 = .ok (.iaload, 1) := by decide +kernel
theorem dX12_layBy_74 : decode cX12_layBy 74 = .ok (.istore 6, 2) := by decide +kernel
theorem dX12_layBy_76 : decode cX12_layBy 76 = .ok (.iload_n 3, 1) := by decide +kernel
theorem dX12_layBy_77 : decode cX12_layBy 77 = .ok (.ifCond .eq 25, 3) := by decide +kernel
theorem dX12_layBy_80 : decode cX12_layBy 80 = .ok (.iload_n 2, 1) := by decide +kernel
theorem dX12_layBy_81 : decode cX12_layBy 81 = .ok (.iload 5, 2) := by decide +kernel
theorem dX12_layBy_83 : decode cX12_layBy 83 = .ok (.ishr, 1) := by decide +kernel
theorem dX12_layBy_84 : decode cX12_layBy 84 = .ok (.iconst 1, 1) := by decide +kernel
theorem dX12_layBy_85 : decode cX12_layBy 85 = .ok (.iand, 1) := by decide +kernel
theorem dX12_layBy_86 : decode cX12_layBy 86 = .ok (.ifCond .ne 16, 3) := by decide +kernel
theorem dX12_layBy_89 : decode cX12_layBy 89 = .ok (.iload_n 2, 1) := by decide +kernel
theorem dX12_layBy_90 : decode cX12_layBy 90 = .ok (.iload 6, 2) := by decide +kernel
theorem dX12_layBy_92 : decode cX12_layBy 92 = .ok (.ishr, 1) := by decide +kernel
theorem dX12_layBy_93 : decode cX12_layBy 93 = .ok (.iconst 1, 1) := by decide +kernel
theorem dX12_layBy_94 : decode cX12_layBy 94 = .ok (.iand, 1) := by decide +kernel
theorem dX12_layBy_95 : decode cX12_layBy 95 = .ok (.ifCond .ne 7, 3) := by decide +kernel
theorem dX12_layBy_98 : decode cX12_layBy 98 = .ok (.iconst 1, 1) := by decide +kernel
theorem dX12_layBy_99 : decode cX12_layBy 99 = .ok (.goto 4, 3) := by decide +kernel
theorem dX12_layBy_102 : decode cX12_layBy 102 = .ok (.iconst 0, 1) := by decide +kernel
theorem dX12_layBy_103 : decode cX12_layBy 103 = .ok (.istore_n 3, 1) := by decide +kernel
theorem dX12_layBy_104 : decode cX12_layBy 104 = .ok (.aload_n 0, 1) := by decide +kernel
theorem dX12_layBy_105 : decode cX12_layBy 105 = .ok (.getfield 59, 3) := by decide +kernel
theorem dX12_layBy_108 : decode cX12_layBy 108 = .ok (.iload 5, 2) := by decide +kernel
theorem dX12_layBy_110 : decode cX12_layBy 110 = .ok (.aload_n 0, 1) := by decide +kernel
theorem dX12_layBy_111 : decode cX12_layBy 111 = .ok (.aload_n 0, 1) := by decide +kernel
theorem dX12_layBy_112 : decode cX12_layBy 112 = .ok (.getfield 28, 3) := by decide +kernel
theorem dX12_layBy_115 : decode cX12_layBy 115 = .ok (.iload 5, 2) := by decide +kernel
theorem dX12_layBy_117 : decode cX12_layBy 117 = .ok (.iaload, 1) := by decide +kernel
theorem dX12_layBy_118 : decode cX12_layBy 118 = .ok (.aload_n 0, 1) := by decide +kernel
theorem dX12_layBy_119 : decode cX12_layBy 119 = .ok (.getfield 28, 3) := by decide +kernel
theorem dX12_layBy_122 : decode cX12_layBy 122 = .ok (.iload 6, 2) := by decide +kernel
theorem dX12_layBy_124 : decode cX12_layBy 124 = .ok (.iaload, 1) := by decide +kernel
theorem dX12_layBy_125 : decode cX12_layBy 125 = .ok (.aload_n 0, 1) := by decide +kernel
theorem dX12_layBy_126 : decode cX12_layBy 126 = .ok (.getfield 59, 3) := by decide +kernel
theorem dX12_layBy_129 : decode cX12_layBy 129 = .ok (.iload 5, 2) := by decide +kernel
theorem dX12_layBy_131 : decode cX12_layBy 131 = .ok (.iaload, 1) := by decide +kernel
theorem dX12_layBy_132 : decode cX12_layBy 132 = .ok (.aload_n 0, 1) := by decide +kernel
theorem dX12_layBy_133 : decode cX12_layBy 133 = .ok (.getfield 59, 3) := by decide +kernel
theorem dX12_layBy_136 : decode cX12_layBy 136 = .ok (.iload 6, 2) := by decide +kernel
theorem dX12_layBy_138 : decode cX12_layBy 138 = .ok (.iaload, 1) := by decide +kernel
theorem dX12_layBy_139 : decode cX12_layBy 139 = .ok (.invokevirtual 151, 3) := by decide +kernel
theorem dX12_layBy_142 : decode cX12_layBy 142 = .ok (.iastore, 1) := by decide +kernel
theorem dX12_layBy_143 : decode cX12_layBy 143 = .ok (.iload_n 2, 1) := by decide +kernel
theorem dX12_layBy_144 : decode cX12_layBy 144 = .ok (.iconst 1, 1) := by decide +kernel
theorem dX12_layBy_145 : decode cX12_layBy 145 = .ok (.iload 6, 2) := by decide +kernel
theorem dX12_layBy_147 : decode cX12_layBy 147 = .ok (.ishl, 1) := by decide +kernel
theorem dX12_layBy_148 : decode cX12_layBy 148 = .ok (.ior, 1) := by decide +kernel
theorem dX12_layBy_149 : decode cX12_layBy 149 = .ok (.istore_n 2, 1) := by decide +kernel
theorem dX12_layBy_150 : decode cX12_layBy 150 = .ok (.iinc 4 1, 3) := by decide +kernel
theorem dX12_layBy_153 : decode cX12_layBy 153 = .ok (.goto (-114), 3) := by decide +kernel
theorem dX12_layBy_156 : decode cX12_layBy 156 = .ok (.iload_n 3, 1) := by decide +kernel
theorem dX12_layBy_157 : decode cX12_layBy 157 = .ok (.ireturn, 1) := by decide +kernel
theorem dX12_bitsOf_0 : decode cX12_bitsOf 0 = .ok (.iconst 0, 1) := by decide +kernel
theorem dX12_bitsOf_1 : decode cX12_bitsOf 1 = .ok (.istore_n 1, 1) := by decide +kernel
theorem dX12_bitsOf_2 : decode cX12_bitsOf 2 = .ok (.iconst 0, 1) := by decide +kernel
theorem dX12_bitsOf_3 : decode cX12_bitsOf 3 = .ok (.istore_n 2, 1) := by decide +kernel
theorem dX12_bitsOf_4 : decode cX12_bitsOf 4 = .ok (.iload_n 2, 1) := by decide +kernel
theorem dX12_bitsOf_5 : decode cX12_bitsOf 5 = .ok (.bipush 10, 2) := by decide +kernel
theorem dX12_bitsOf_7 : decode cX12_bitsOf 7 = .ok (.if_icmp .ge 17, 3) := by decide +kernel
theorem dX12_bitsOf_10 : decode cX12_bitsOf 10 = .ok (.iload_n 1, 1) := by decide +kernel
theorem dX12_bitsOf_11 : decode cX12_bitsOf 11 = .ok (.iload_n 0, 1) := by decide +kernel
theorem dX12_bitsOf_12 : decode cX12_bitsOf 12 = .ok (.iload_n 2, 1) := by decide +kernel
theorem dX12_bitsOf_13 : decode cX12_bitsOf 13 = .ok (.ishr, 1) := by decide +kernel
theorem dX12_bitsOf_14 : decode cX12_bitsOf 14 = .ok (.iconst 1, 1) := by decide +kernel
theorem dX12_bitsOf_15 : decode cX12_bitsOf 15 = .ok (.iand, 1) := by decide +kernel
theorem dX12_bitsOf_16 : decode cX12_bitsOf 16 = .ok (.iadd, 1) := by decide +kernel
theorem dX12_bitsOf_17 : decode cX12_bitsOf 17 = .ok (.istore_n 1, 1) := by decide +kernel
theorem dX12_bitsOf_18 : decode cX12_bitsOf 18 = .ok (.iinc 2 1, 3) := by decide +kernel
theorem dX12_bitsOf_21 : decode cX12_bitsOf 21 = .ok (.goto (-17), 3) := by decide +kernel
theorem dX12_bitsOf_24 : decode cX12_bitsOf 24 = .ok (.iload_n 1, 1) := by decide +kernel
theorem dX12_bitsOf_25 : decode cX12_bitsOf 25 = .ok (.ireturn, 1) := by decide +kernel
theorem dX12_liesOf_0 : decode cX12_liesOf 0 = .ok (.aload_n 0, 1) := by decide +kernel
theorem dX12_liesOf_1 : decode cX12_liesOf 1 = .ok (.getfield 193, 3) := by decide +kernel
theorem dX12_liesOf_4 : decode cX12_liesOf 4 = .ok (.iload_n 1, 1) := by decide +kernel
theorem dX12_liesOf_5 : decode cX12_liesOf 5 = .ok (.invokestatic 198, 3) := by decide +kernel
theorem dX12_liesOf_8 : decode cX12_liesOf 8 = .ok (.isub, 1) := by decide +kernel
theorem dX12_liesOf_9 : decode cX12_liesOf 9 = .ok (.istore_n 2, 1) := by decide +kernel
theorem dX12_liesOf_10 : decode cX12_liesOf 10 = .ok (.iconst 0, 1) := by decide +kernel
theorem dX12_liesOf_11 : decode cX12_liesOf 11 = .ok (.istore_n 3, 1) := by decide +kernel
theorem dX12_liesOf_12 : decode cX12_liesOf 12 = .ok (.iload_n 3, 1) := by decide +kernel
theorem dX12_liesOf_13 : decode cX12_liesOf 13 = .ok (.aload_n 0, 1) := by decide +kernel
theorem dX12_liesOf_14 : decode cX12_liesOf 14 = .ok (.getfield 137, 3) := by decide +kernel
theorem dX12_liesOf_17 : decode cX12_liesOf 17 = .ok (.if_icmp .ge 42, 3) := by decide +kernel
theorem dX12_liesOf_20 : decode cX12_liesOf 20 = .ok (.iload_n 2, 1) := by decide +kernel
theorem dX12_liesOf_21 : decode cX12_liesOf 21 = .ok (.aload_n 0, 1) := by decide +kernel
theorem dX12_liesOf_22 : decode cX12_liesOf 22 = .ok (.getfield 50, 3) := by decide +kernel
theorem dX12_liesOf_25 : decode cX12_liesOf 25 = .ok (.iload_n 3, 1) := by decide +kernel
theorem dX12_liesOf_26 : decode cX12_liesOf 26 = .ok (.iaload, 1) := by decide +kernel
theorem dX12_liesOf_27 : decode cX12_liesOf 27 = .ok (.iconst (-1), 1) := by decide +kernel
theorem dX12_liesOf_28 : decode cX12_liesOf 28 = .ok (.if_icmp .eq 22, 3) := by decide +kernel
theorem dX12_liesOf_31 : decode cX12_liesOf 31 = .ok (.aload_n 0, 1) := by decide +kernel
theorem dX12_liesOf_32 : decode cX12_liesOf 32 = .ok (.getfield 50, 3) := by decide +kernel
theorem dX12_liesOf_35 : decode cX12_liesOf 35 = .ok (.iload_n 3, 1) := by decide +kernel
theorem dX12_liesOf_36 : decode cX12_liesOf 36 = .ok (.iaload, 1) := by decide +kernel
theorem dX12_liesOf_37 : decode cX12_liesOf 37 = .ok (.aload_n 0, 1) := by decide +kernel
theorem dX12_liesOf_38 : decode cX12_liesOf 38 = .ok (.getfield 59, 3) := by decide +kernel
theorem dX12_liesOf_41 : decode cX12_liesOf 41 = .ok (.iload_n 3, 1) := by decide +kernel
theorem dX12_liesOf_42 : decode cX12_liesOf 42 = .ok (.iaload, 1) := by decide +kernel
theorem dX12_liesOf_43 : decode cX12_liesOf 43 = .ok (.if_icmp .eq 7, 3) := by decide +kernel
theorem dX12_liesOf_46 : decode cX12_liesOf 46 = .ok (.iconst 1, 1) := by decide +kernel
theorem dX12_liesOf_47 : decode cX12_liesOf 47 = .ok (.goto 4, 3) := by decide +kernel
theorem dX12_liesOf_50 : decode cX12_liesOf 50 = .ok (.iconst 0, 1) := by decide +kernel
theorem dX12_liesOf_51 : decode cX12_liesOf 51 = .ok (.iadd, 1) := by decide +kernel
theorem dX12_liesOf_52 : decode cX12_liesOf 52 = .ok (.istore_n 2, 1) := by decide +kernel
theorem dX12_liesOf_53 : decode cX12_liesOf 53 = .ok (.iinc 3 1, 3) := by decide +kernel
theorem dX12_liesOf_56 : decode cX12_liesOf 56 = .ok (.goto (-44), 3) := by decide +kernel
theorem dX12_liesOf_59 : decode cX12_liesOf 59 = .ok (.iload_n 2, 1) := by decide +kernel
theorem dX12_liesOf_60 : decode cX12_liesOf 60 = .ok (.ireturn, 1) := by decide +kernel
theorem dX12_by_0 : decode cX12_by 0 = .ok (.iload_n 2, 1) := by decide +kernel
theorem dX12_by_1 : decode cX12_by 1 = .ok (.iconst (-1), 1) := by decide +kernel
theorem dX12_by_2 : decode cX12_by 2 = .ok (.if_icmp .eq 14, 3) := by decide +kernel
theorem dX12_by_5 : decode cX12_by 5 = .ok (.aload_n 0, 1) := by decide +kernel
theorem dX12_by_6 : decode cX12_by 6 = .ok (.iload_n 2, 1) := by decide +kernel
theorem dX12_by_7 : decode cX12_by 7 = .ok (.invokevirtual 140, 3) := by decide +kernel
theorem dX12_by_10 : decode cX12_by 10 = .ok (.ifCond .ne 6, 3) := by decide +kernel
theorem dX12_by_13 : decode cX12_by 13 = .ok (.bipush (-101), 2) := by decide +kernel
theorem dX12_by_15 : decode cX12_by 15 = .ok (.ireturn, 1) := by decide +kernel
theorem dX12_by_16 : decode cX12_by 16 = .ok (.iload_n 1, 1) := by decide +kernel
theorem dX12_by_17 : decode cX12_by 17 = .ok (.i2l, 1) := by decide +kernel
theorem dX12_by_18 : decode cX12_by 18 = .ok (.lconst 0, 1) := by decide +kernel
theorem dX12_by_19 : decode cX12_by 19 = .ok (.iconst 1, 1) := by decide +kernel
theorem dX12_by_20 : decode cX12_by 20 = .ok (.aload_n 0, 1) := by decide +kernel
theorem dX12_by_21 : decode cX12_by 21 = .ok (.getfield 193, 3) := by decide +kernel
theorem dX12_by_24 : decode cX12_by 24 = .ok (.ishl, 1) := by decide +kernel
theorem dX12_by_25 : decode cX12_by 25 = .ok (.iconst 1, 1) := by decide +kernel
theorem dX12_by_26 : decode cX12_by 26 = .ok (.isub, 1) := by decide +kernel
theorem dX12_by_27 : decode cX12_by 27 = .ok (.i2l, 1) := by decide +kernel
theorem dX12_by_28 : decode cX12_by 28 = .ok (.invokestatic 93, 3) := by decide +kernel
theorem dX12_by_31 : decode cX12_by 31 = .ok (.ifCond .ne 6, 3) := by decide +kernel
theorem dX12_by_34 : decode cX12_by 34 = .ok (.bipush (-102), 2) := by decide +kernel
theorem dX12_by_36 : decode cX12_by 36 = .ok (.ireturn, 1) := by decide +kernel
theorem dX12_by_37 : decode cX12_by 37 = .ok (.aload_n 0, 1) := by decide +kernel
theorem dX12_by_38 : decode cX12_by 38 = .ok (.iload_n 1, 1) := by decide +kernel
theorem dX12_by_39 : decode cX12_by 39 = .ok (.invokevirtual 201, 3) := by decide +kernel
theorem dX12_by_42 : decode cX12_by 42 = .ok (.istore_n 3, 1) := by decide +kernel
theorem dX12_by_43 : decode cX12_by 43 = .ok (.iload_n 2, 1) := by decide +kernel
theorem dX12_by_44 : decode cX12_by 44 = .ok (.iconst (-1), 1) := by decide +kernel
theorem dX12_by_45 : decode cX12_by 45 = .ok (.if_icmp .ne 13, 3) := by decide +kernel
theorem dX12_by_48 : decode cX12_by 48 = .ok (.iload_n 3, 1) := by decide +kernel
theorem dX12_by_49 : decode cX12_by 49 = .ok (.ifCond .eq 7, 3) := by decide +kernel
theorem dX12_by_52 : decode cX12_by 52 = .ok (.iconst 1, 1) := by decide +kernel
theorem dX12_by_53 : decode cX12_by 53 = .ok (.goto 4, 3) := by decide +kernel
theorem dX12_by_56 : decode cX12_by 56 = .ok (.iconst 0, 1) := by decide +kernel
theorem dX12_by_57 : decode cX12_by 57 = .ok (.ireturn, 1) := by decide +kernel
theorem dX12_by_58 : decode cX12_by 58 = .ok (.iload_n 3, 1) := by decide +kernel
theorem dX12_by_59 : decode cX12_by 59 = .ok (.ifCond .eq 12, 3) := by decide +kernel
theorem dX12_by_62 : decode cX12_by 62 = .ok (.aload_n 0, 1) := by decide +kernel
theorem dX12_by_63 : decode cX12_by 63 = .ok (.getfield 59, 3) := by decide +kernel
theorem dX12_by_66 : decode cX12_by 66 = .ok (.iload_n 2, 1) := by decide +kernel
theorem dX12_by_67 : decode cX12_by 67 = .ok (.iaload, 1) := by decide +kernel
theorem dX12_by_68 : decode cX12_by 68 = .ok (.goto 5, 3) := by decide +kernel
theorem dX12_by_71 : decode cX12_by 71 = .ok (.bipush (-103), 2) := by decide +kernel
