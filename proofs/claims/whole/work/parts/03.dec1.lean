set_option maxRecDepth 20000 in
theorem dX5_parseHead_70 : decode cX5_parseHead 70 = .ok (.istore 7, 2) := by decide +kernel
set_option maxRecDepth 20000 in
theorem dX5_parseHead_72 : decode cX5_parseHead 72 = .ok (.aload_n 0, 1) := by decide +kernel
set_option maxRecDepth 20000 in
theorem dX5_parseHead_73 : decode cX5_parseHead 73 = .ok (.getfield 23, 3) := by decide +kernel
set_option maxRecDepth 20000 in
theorem dX5_parseHead_76 : decode cX5_parseHead 76 = .ok (.iload_n 2, 1) := by decide +kernel
set_option maxRecDepth 20000 in
theorem dX5_parseHead_77 : decode cX5_parseHead 77 = .ok (.iload_n 3, 1) := by decide +kernel
set_option maxRecDepth 20000 in
theorem dX5_parseHead_78 : decode cX5_parseHead 78 = .ok (.iload 4, 2) := by decide +kernel
set_option maxRecDepth 20000 in
theorem dX5_parseHead_80 : decode cX5_parseHead 80 = .ok (.iload 6, 2) := by decide +kernel
set_option maxRecDepth 20000 in
theorem dX5_parseHead_82 : decode cX5_parseHead 82 = .ok (.iload 5, 2) := by decide +kernel
set_option maxRecDepth 20000 in
theorem dX5_parseHead_84 : decode cX5_parseHead 84 = .ok (.iload 7, 2) := by decide +kernel
set_option maxRecDepth 20000 in
theorem dX5_parseHead_86 : decode cX5_parseHead 86 = .ok (.invokevirtual 65, 3) := by decide +kernel
set_option maxRecDepth 20000 in
theorem dX5_parseHead_89 : decode cX5_parseHead 89 = .ok (.pop, 1) := by decide +kernel
set_option maxRecDepth 20000 in
theorem dX5_parseHead_90 : decode cX5_parseHead 90 = .ok (.return_, 1) := by decide +kernel
set_option maxRecDepth 20000 in
theorem dX5_partAfter_0 : decode cX5_partAfter 0 = .ok (.aload_n 0, 1) := by decide +kernel
set_option maxRecDepth 20000 in
theorem dX5_partAfter_1 : decode cX5_partAfter 1 = .ok (.iload_n 1, 1) := by decide +kernel
set_option maxRecDepth 20000 in
theorem dX5_partAfter_2 : decode cX5_partAfter 2 = .ok (.invokevirtual 61, 3) := by decide +kernel
set_option maxRecDepth 20000 in
theorem dX5_partAfter_5 : decode cX5_partAfter 5 = .ok (.ifCond .eq 13, 3) := by decide +kernel
set_option maxRecDepth 20000 in
theorem dX5_partAfter_8 : decode cX5_partAfter 8 = .ok (.aload_n 0, 1) := by decide +kernel
set_option maxRecDepth 20000 in
theorem dX5_partAfter_9 : decode cX5_partAfter 9 = .ok (.iload_n 2, 1) := by decide +kernel
set_option maxRecDepth 20000 in
theorem dX5_partAfter_10 : decode cX5_partAfter 10 = .ok (.iconst 0, 1) := by decide +kernel
set_option maxRecDepth 20000 in
theorem dX5_partAfter_11 : decode cX5_partAfter 11 = .ok (.iload_n 3, 1) := by decide +kernel
set_option maxRecDepth 20000 in
theorem dX5_partAfter_12 : decode cX5_partAfter 12 = .ok (.invokevirtual 69, 3) := by decide +kernel
set_option maxRecDepth 20000 in
theorem dX5_partAfter_15 : decode cX5_partAfter 15 = .ok (.goto 5, 3) := by decide +kernel
set_option maxRecDepth 20000 in
theorem dX5_partAfter_18 : decode cX5_partAfter 18 = .ok (.iload 4, 2) := by decide +kernel
set_option maxRecDepth 20000 in
theorem dX5_partAfter_20 : decode cX5_partAfter 20 = .ok (.ireturn, 1) := by decide +kernel
set_option maxRecDepth 20000 in
theorem dX5_parseBody_0 : decode cX5_parseBody 0 = .ok (.aload_n 0, 1) := by decide +kernel
set_option maxRecDepth 20000 in
theorem dX5_parseBody_1 : decode cX5_parseBody 1 = .ok (.bipush 123, 2) := by decide +kernel
set_option maxRecDepth 20000 in
theorem dX5_parseBody_3 : decode cX5_parseBody 3 = .ok (.invokevirtual 73, 3) := by decide +kernel
set_option maxRecDepth 20000 in
theorem dX5_parseBody_6 : decode cX5_parseBody 6 = .ok (.iconst 0, 1) := by decide +kernel
set_option maxRecDepth 20000 in
theorem dX5_parseBody_7 : decode cX5_parseBody 7 = .ok (.istore_n 1, 1) := by decide +kernel
set_option maxRecDepth 20000 in
theorem dX5_parseBody_8 : decode cX5_parseBody 8 = .ok (.iconst 0, 1) := by decide +kernel
set_option maxRecDepth 20000 in
theorem dX5_parseBody_9 : decode cX5_parseBody 9 = .ok (.istore_n 2, 1) := by decide +kernel
set_option maxRecDepth 20000 in
theorem dX5_parseBody_10 : decode cX5_parseBody 10 = .ok (.iload_n 2, 1) := by decide +kernel
set_option maxRecDepth 20000 in
theorem dX5_parseBody_11 : decode cX5_parseBody 11 = .ok (.bipush 80, 2) := by decide +kernel
set_option maxRecDepth 20000 in
theorem dX5_parseBody_13 : decode cX5_parseBody 13 = .ok (.if_icmp .ge 36, 3) := by decide +kernel
set_option maxRecDepth 20000 in
theorem dX5_parseBody_16 : decode cX5_parseBody 16 = .ok (.aload_n 0, 1) := by decide +kernel
set_option maxRecDepth 20000 in
theorem dX5_parseBody_17 : decode cX5_parseBody 17 = .ok (.getfield 38, 3) := by decide +kernel
set_option maxRecDepth 20000 in
theorem dX5_parseBody_20 : decode cX5_parseBody 20 = .ok (.iconst (-1), 1) := by decide +kernel
set_option maxRecDepth 20000 in
theorem dX5_parseBody_21 : decode cX5_parseBody 21 = .ok (.if_icmp .ne 28, 3) := by decide +kernel
set_option maxRecDepth 20000 in
theorem dX5_parseBody_24 : decode cX5_parseBody 24 = .ok (.iload_n 1, 1) := by decide +kernel
set_option maxRecDepth 20000 in
theorem dX5_parseBody_25 : decode cX5_parseBody 25 = .ok (.ifCond .ne 24, 3) := by decide +kernel
set_option maxRecDepth 20000 in
theorem dX5_parseBody_28 : decode cX5_parseBody 28 = .ok (.aload_n 0, 1) := by decide +kernel
set_option maxRecDepth 20000 in
theorem dX5_parseBody_29 : decode cX5_parseBody 29 = .ok (.bipush 125, 2) := by decide +kernel
set_option maxRecDepth 20000 in
theorem dX5_parseBody_31 : decode cX5_parseBody 31 = .ok (.invokevirtual 61, 3) := by decide +kernel
set_option maxRecDepth 20000 in
theorem dX5_parseBody_34 : decode cX5_parseBody 34 = .ok (.istore_n 1, 1) := by decide +kernel
set_option maxRecDepth 20000 in
theorem dX5_parseBody_35 : decode cX5_parseBody 35 = .ok (.iload_n 1, 1) := by decide +kernel
set_option maxRecDepth 20000 in
theorem dX5_parseBody_36 : decode cX5_parseBody 36 = .ok (.ifCond .ne 7, 3) := by decide +kernel
set_option maxRecDepth 20000 in
theorem dX5_parseBody_39 : decode cX5_parseBody 39 = .ok (.aload_n 0, 1) := by decide +kernel
set_option maxRecDepth 20000 in
theorem dX5_parseBody_40 : decode cX5_parseBody 40 = .ok (.invokevirtual 77, 3) := by decide +kernel
set_option maxRecDepth 20000 in
theorem dX5_parseBody_43 : decode cX5_parseBody 43 = .ok (.iinc 2 1, 3) := by decide +kernel
set_option maxRecDepth 20000 in
theorem dX5_parseBody_46 : decode cX5_parseBody 46 = .ok (.goto (-36), 3) := by decide +kernel
set_option maxRecDepth 20000 in
theorem dX5_parseBody_49 : decode cX5_parseBody 49 = .ok (.aload_n 0, 1) := by decide +kernel
set_option maxRecDepth 20000 in
theorem dX5_parseBody_50 : decode cX5_parseBody 50 = .ok (.getfield 35, 3) := by decide +kernel
set_option maxRecDepth 20000 in
theorem dX5_parseBody_53 : decode cX5_parseBody 53 = .ok (.aload_n 0, 1) := by decide +kernel
set_option maxRecDepth 20000 in
theorem dX5_parseBody_54 : decode cX5_parseBody 54 = .ok (.getfield 27, 3) := by decide +kernel
set_option maxRecDepth 20000 in
theorem dX5_parseBody_57 : decode cX5_parseBody 57 = .ok (.if_icmp .ge 7, 3) := by decide +kernel
set_option maxRecDepth 20000 in
theorem dX5_parseBody_60 : decode cX5_parseBody 60 = .ok (.aload_n 0, 1) := by decide +kernel
set_option maxRecDepth 20000 in
theorem dX5_parseBody_61 : decode cX5_parseBody 61 = .ok (.invokevirtual 80, 3) := by decide +kernel
set_option maxRecDepth 20000 in
theorem dX5_parseBody_64 : decode cX5_parseBody 64 = .ok (.return_, 1) := by decide +kernel
set_option maxRecDepth 20000 in
theorem dX5_parseDeclaration_0 : decode cX5_parseDeclaration 0 = .ok (.aload_n 0, 1) := by decide +kernel
set_option maxRecDepth 20000 in
theorem dX5_parseDeclaration_1 : decode cX5_parseDeclaration 1 = .ok (.getfield 35, 3) := by decide +kernel
set_option maxRecDepth 20000 in
theorem dX5_parseDeclaration_4 : decode cX5_parseDeclaration 4 = .ok (.istore_n 1, 1) := by decide +kernel
set_option maxRecDepth 20000 in
theorem dX5_parseDeclaration_5 : decode cX5_parseDeclaration 5 = .ok (.aload_n 0, 1) := by decide +kernel
set_option maxRecDepth 20000 in
theorem dX5_parseDeclaration_6 : decode cX5_parseDeclaration 6 = .ok (.iconst 2, 1) := by decide +kernel
set_option maxRecDepth 20000 in
theorem dX5_parseDeclaration_7 : decode cX5_parseDeclaration 7 = .ok (.iconst 0, 1) := by decide +kernel
set_option maxRecDepth 20000 in
theorem dX5_parseDeclaration_8 : decode cX5_parseDeclaration 8 = .ok (.bipush 15, 2) := by decide +kernel
set_option maxRecDepth 20000 in
theorem dX5_parseDeclaration_10 : decode cX5_parseDeclaration 10 = .ok (.invokevirtual 69, 3) := by decide +kernel
set_option maxRecDepth 20000 in
theorem dX5_parseDeclaration_13 : decode cX5_parseDeclaration 13 = .ok (.istore_n 2, 1) := by decide +kernel
set_option maxRecDepth 20000 in
theorem dX5_parseDeclaration_14 : decode cX5_parseDeclaration 14 = .ok (.aload_n 0, 1) := by decide +kernel
set_option maxRecDepth 20000 in
theorem dX5_parseDeclaration_15 : decode cX5_parseDeclaration 15 = .ok (.getfield 23, 3) := by decide +kernel
set_option maxRecDepth 20000 in
theorem dX5_parseDeclaration_18 : decode cX5_parseDeclaration 18 = .ok (.iconst 0, 1) := by decide +kernel
set_option maxRecDepth 20000 in
theorem dX5_parseDeclaration_19 : decode cX5_parseDeclaration 19 = .ok (.iload_n 2, 1) := by decide +kernel
set_option maxRecDepth 20000 in
theorem dX5_parseDeclaration_20 : decode cX5_parseDeclaration 20 = .ok (.invokevirtual 83, 3) := by decide +kernel
set_option maxRecDepth 20000 in
theorem dX5_parseDeclaration_23 : decode cX5_parseDeclaration 23 = .ok (.ifCond .eq 8, 3) := by decide +kernel
set_option maxRecDepth 20000 in
theorem dX5_parseDeclaration_26 : decode cX5_parseDeclaration 26 = .ok (.aload_n 0, 1) := by decide +kernel
set_option maxRecDepth 20000 in
theorem dX5_parseDeclaration_27 : decode cX5_parseDeclaration 27 = .ok (.iload_n 1, 1) := by decide +kernel
set_option maxRecDepth 20000 in
theorem dX5_parseDeclaration_28 : decode cX5_parseDeclaration 28 = .ok (.invokevirtual 87, 3) := by decide +kernel
set_option maxRecDepth 20000 in
theorem dX5_parseDeclaration_31 : decode cX5_parseDeclaration 31 = .ok (.aload_n 0, 1) := by decide +kernel
set_option maxRecDepth 20000 in
theorem dX5_parseDeclaration_32 : decode cX5_parseDeclaration 32 = .ok (.bipush 61, 2) := by decide +kernel
set_option maxRecDepth 20000 in
theorem dX5_parseDeclaration_34 : decode cX5_parseDeclaration 34 = .ok (.invokevirtual 73, 3) := by decide +kernel
set_option maxRecDepth 20000 in
theorem dX5_parseDeclaration_37 : decode cX5_parseDeclaration 37 = .ok (.aload_n 0, 1) := by decide +kernel
set_option maxRecDepth 20000 in
theorem dX5_parseDeclaration_38 : decode cX5_parseDeclaration 38 = .ok (.bipush 36, 2) := by decide +kernel
set_option maxRecDepth 20000 in
theorem dX5_parseDeclaration_40 : decode cX5_parseDeclaration 40 = .ok (.invokevirtual 61, 3) := by decide +kernel
set_option maxRecDepth 20000 in
theorem dX5_parseDeclaration_43 : decode cX5_parseDeclaration 43 = .ok (.ifCond .eq 53, 3) := by decide +kernel
set_option maxRecDepth 20000 in
theorem dX5_parseDeclaration_46 : decode cX5_parseDeclaration 46 = .ok (.aload_n 0, 1) := by decide +kernel
set_option maxRecDepth 20000 in
theorem dX5_parseDeclaration_47 : decode cX5_parseDeclaration 47 = .ok (.iconst 2, 1) := by decide +kernel
set_option maxRecDepth 20000 in
theorem dX5_parseDeclaration_48 : decode cX5_parseDeclaration 48 = .ok (.bipush 8, 2) := by decide +kernel
set_option maxRecDepth 20000 in
theorem dX5_parseDeclaration_50 : decode cX5_parseDeclaration 50 = .ok (.bipush 15, 2) := by decide +kernel
set_option maxRecDepth 20000 in
theorem dX5_parseDeclaration_52 : decode cX5_parseDeclaration 52 = .ok (.invokevirtual 69, 3) := by decide +kernel
set_option maxRecDepth 20000 in
theorem dX5_parseDeclaration_55 : decode cX5_parseDeclaration 55 = .ok (.istore_n 3, 1) := by decide +kernel
set_option maxRecDepth 20000 in
theorem dX5_parseDeclaration_56 : decode cX5_parseDeclaration 56 = .ok (.aload_n 0, 1) := by decide +kernel
set_option maxRecDepth 20000 in
theorem dX5_parseDeclaration_57 : decode cX5_parseDeclaration 57 = .ok (.bipush 47, 2) := by decide +kernel
set_option maxRecDepth 20000 in
theorem dX5_parseDeclaration_59 : decode cX5_parseDeclaration 59 = .ok (.invokevirtual 61, 3) := by decide +kernel
set_option maxRecDepth 20000 in
theorem dX5_parseDeclaration_62 : decode cX5_parseDeclaration 62 = .ok (.ifCond .eq 15, 3) := by decide +kernel
set_option maxRecDepth 20000 in
theorem dX5_parseDeclaration_65 : decode cX5_parseDeclaration 65 = .ok (.aload_n 0, 1) := by decide +kernel
set_option maxRecDepth 20000 in
theorem dX5_parseDeclaration_66 : decode cX5_parseDeclaration 66 = .ok (.iconst 3, 1) := by decide +kernel
set_option maxRecDepth 20000 in
theorem dX5_parseDeclaration_67 : decode cX5_parseDeclaration 67 = .ok (.iconst 0, 1) := by decide +kernel
set_option maxRecDepth 20000 in
theorem dX5_parseDeclaration_68 : decode cX5_parseDeclaration 68 = .ok (.sipush 999, 3) := by decide +kernel
set_option maxRecDepth 20000 in
theorem dX5_parseDeclaration_71 : decode cX5_parseDeclaration 71 = .ok (.invokevirtual 69, 3) := by decide +kernel
set_option maxRecDepth 20000 in
theorem dX5_parseDeclaration_74 : decode cX5_parseDeclaration 74 = .ok (.goto 4, 3) := by decide +kernel
set_option maxRecDepth 20000 in
theorem dX5_parseDeclaration_77 : decode cX5_parseDeclaration 77 = .ok (.iconst (-1), 1) := by decide +kernel
set_option maxRecDepth 20000 in
theorem dX5_parseDeclaration_78 : decode cX5_parseDeclaration 78 = .ok (.istore 4, 2) := by decide +kernel
set_option maxRecDepth 20000 in
theorem dX5_parseDeclaration_80 : decode cX5_parseDeclaration 80 = .ok (.aload_n 0, 1) := by decide +kernel
set_option maxRecDepth 20000 in
theorem dX5_parseDeclaration_81 : decode cX5_parseDeclaration 81 = .ok (.getfield 23, 3) := by decide +kernel
set_option maxRecDepth 20000 in
theorem dX5_parseDeclaration_84 : decode cX5_parseDeclaration 84 = .ok (.iconst 0, 1) := by decide +kernel
set_option maxRecDepth 20000 in
theorem dX5_parseDeclaration_85 : decode cX5_parseDeclaration 85 = .ok (.iload_n 2, 1) := by decide +kernel
set_option maxRecDepth 20000 in
theorem dX5_parseDeclaration_86 : decode cX5_parseDeclaration 86 = .ok (.iconst (-1), 1) := by decide +kernel
set_option maxRecDepth 20000 in
theorem dX5_parseDeclaration_87 : decode cX5_parseDeclaration 87 = .ok (.iload_n 3, 1) := by decide +kernel
set_option maxRecDepth 20000 in
theorem dX5_parseDeclaration_88 : decode cX5_parseDeclaration 88 = .ok (.iload 4, 2) := by decide +kernel
set_option maxRecDepth 20000 in
theorem dX5_parseDeclaration_90 : decode cX5_parseDeclaration 90 = .ok (.invokevirtual 90, 3) := by decide +kernel
set_option maxRecDepth 20000 in
theorem dX5_parseDeclaration_93 : decode cX5_parseDeclaration 93 = .ok (.goto 23, 3) := by decide +kernel
set_option maxRecDepth 20000 in
theorem dX5_parseDeclaration_96 : decode cX5_parseDeclaration 96 = .ok (.aload_n 0, 1) := by decide +kernel
set_option maxRecDepth 20000 in
theorem dX5_parseDeclaration_97 : decode cX5_parseDeclaration 97 = .ok (.getfield 23, 3) := by decide +kernel
set_option maxRecDepth 20000 in
theorem dX5_parseDeclaration_100 : decode cX5_parseDeclaration 100 = .ok (.iconst 0, 1) := by decide +kernel
set_option maxRecDepth 20000 in
theorem dX5_parseDeclaration_101 : decode cX5_parseDeclaration 101 = .ok (.iload_n 2, 1) := by decide +kernel
set_option maxRecDepth 20000 in
theorem dX5_parseDeclaration_102 : decode cX5_parseDeclaration 102 = .ok (.aload_n 0, 1) := by decide +kernel
set_option maxRecDepth 20000 in
theorem dX5_parseDeclaration_103 : decode cX5_parseDeclaration 103 = .ok (.iconst 3, 1) := by decide +kernel
set_option maxRecDepth 20000 in
theorem dX5_parseDeclaration_104 : decode cX5_parseDeclaration 104 = .ok (.iconst 0, 1) := by decide +kernel
set_option maxRecDepth 20000 in
theorem dX5_parseDeclaration_105 : decode cX5_parseDeclaration 105 = .ok (.sipush 999, 3) := by decide +kernel
set_option maxRecDepth 20000 in
theorem dX5_parseDeclaration_108 : decode cX5_parseDeclaration 108 = .ok (.invokevirtual 69, 3) := by decide +kernel
set_option maxRecDepth 20000 in
theorem dX5_parseDeclaration_111 : decode cX5_parseDeclaration 111 = .ok (.iconst (-1), 1) := by decide +kernel
set_option maxRecDepth 20000 in
theorem dX5_parseDeclaration_112 : decode cX5_parseDeclaration 112 = .ok (.iconst (-1), 1) := by decide +kernel
set_option maxRecDepth 20000 in
theorem dX5_parseDeclaration_113 : decode cX5_parseDeclaration 113 = .ok (.invokevirtual 90, 3) := by decide +kernel
set_option maxRecDepth 20000 in
theorem dX5_parseDeclaration_116 : decode cX5_parseDeclaration 116 = .ok (.aload_n 0, 1) := by decide +kernel
set_option maxRecDepth 20000 in
theorem dX5_parseDeclaration_117 : decode cX5_parseDeclaration 117 = .ok (.bipush 59, 2) := by decide +kernel
set_option maxRecDepth 20000 in
theorem dX5_parseDeclaration_119 : decode cX5_parseDeclaration 119 = .ok (.invokevirtual 73, 3) := by decide +kernel
set_option maxRecDepth 20000 in
theorem dX5_parseDeclaration_122 : decode cX5_parseDeclaration 122 = .ok (.return_, 1) := by decide +kernel
set_option maxRecDepth 20000 in
theorem dX5_number_0 : decode cX5_number 0 = .ok (.aload_n 0, 1) := by decide +kernel
set_option maxRecDepth 20000 in
theorem dX5_number_1 : decode cX5_number 1 = .ok (.getfield 35, 3) := by decide +kernel
set_option maxRecDepth 20000 in
theorem dX5_number_4 : decode cX5_number 4 = .ok (.istore 4, 2) := by decide +kernel
set_option maxRecDepth 20000 in
theorem dX5_number_6 : decode cX5_number 6 = .ok (.iconst 0, 1) := by decide +kernel
set_option maxRecDepth 20000 in
theorem dX5_number_7 : decode cX5_number 7 = .ok (.istore 5, 2) := by decide +kernel
set_option maxRecDepth 20000 in
theorem dX5_number_9 : decode cX5_number 9 = .ok (.iconst 0, 1) := by decide +kernel
set_option maxRecDepth 20000 in
theorem dX5_number_10 : decode cX5_number 10 = .ok (.istore 6, 2) := by decide +kernel
set_option maxRecDepth 20000 in
theorem dX5_number_12 : decode cX5_number 12 = .ok (.iload 6, 2) := by decide +kernel
set_option maxRecDepth 20000 in
theorem dX5_number_14 : decode cX5_number 14 = .ok (.iload_n 1, 1) := by decide +kernel
set_option maxRecDepth 20000 in
theorem dX5_number_15 : decode cX5_number 15 = .ok (.if_icmp .ge 48, 3) := by decide +kernel
set_option maxRecDepth 20000 in
theorem dX5_number_18 : decode cX5_number 18 = .ok (.aload_n 0, 1) := by decide +kernel
set_option maxRecDepth 20000 in
theorem dX5_number_19 : decode cX5_number 19 = .ok (.invokevirtual 94, 3) := by decide +kernel
set_option maxRecDepth 20000 in
theorem dX5_number_22 : decode cX5_number 22 = .ok (.bipush 48, 2) := by decide +kernel
set_option maxRecDepth 20000 in
theorem dX5_number_24 : decode cX5_number 24 = .ok (.bipush 57, 2) := by decide +kernel
set_option maxRecDepth 20000 in
theorem dX5_number_26 : decode cX5_number 26 = .ok (.invokestatic 98, 3) := by decide +kernel
set_option maxRecDepth 20000 in
theorem dX5_number_29 : decode cX5_number 29 = .ok (.ifCond .eq 34, 3) := by decide +kernel
set_option maxRecDepth 20000 in
theorem dX5_number_32 : decode cX5_number 32 = .ok (.bipush 10, 2) := by decide +kernel
set_option maxRecDepth 20000 in
theorem dX5_number_34 : decode cX5_number 34 = .ok (.iload 5, 2) := by decide +kernel
set_option maxRecDepth 20000 in
theorem dX5_number_36 : decode cX5_number 36 = .ok (.imul, 1) := by decide +kernel
set_option maxRecDepth 20000 in
theorem dX5_number_37 : decode cX5_number 37 = .ok (.aload_n 0, 1) := by decide +kernel
set_option maxRecDepth 20000 in
theorem dX5_number_38 : decode cX5_number 38 = .ok (.invokevirtual 94, 3) := by decide +kernel
set_option maxRecDepth 20000 in
theorem dX5_number_41 : decode cX5_number 41 = .ok (.iadd, 1) := by decide +kernel
set_option maxRecDepth 20000 in
theorem dX5_number_42 : decode cX5_number 42 = .ok (.bipush 48, 2) := by decide +kernel
set_option maxRecDepth 20000 in
theorem dX5_number_44 : decode cX5_number 44 = .ok (.isub, 1) := by decide +kernel
set_option maxRecDepth 20000 in
theorem dX5_number_45 : decode cX5_number 45 = .ok (.istore 5, 2) := by decide +kernel
set_option maxRecDepth 20000 in
theorem dX5_number_47 : decode cX5_number 47 = .ok (.aload_n 0, 1) := by decide +kernel
set_option maxRecDepth 20000 in
theorem dX5_number_48 : decode cX5_number 48 = .ok (.dup, 1) := by decide +kernel
set_option maxRecDepth 20000 in
theorem dX5_number_49 : decode cX5_number 49 = .ok (.getfield 35, 3) := by decide +kernel
set_option maxRecDepth 20000 in
theorem dX5_number_52 : decode cX5_number 52 = .ok (.iconst 1, 1) := by decide +kernel
set_option maxRecDepth 20000 in
theorem dX5_number_53 : decode cX5_number 53 = .ok (.iadd, 1) := by decide +kernel
set_option maxRecDepth 20000 in
theorem dX5_number_54 : decode cX5_number 54 = .ok (.putfield 35, 3) := by decide +kernel
set_option maxRecDepth 20000 in
theorem dX5_number_57 : decode cX5_number 57 = .ok (.iinc 6 1, 3) := by decide +kernel
set_option maxRecDepth 20000 in
theorem dX5_number_60 : decode cX5_number 60 = .ok (.goto (-48), 3) := by decide +kernel
set_option maxRecDepth 20000 in
theorem dX5_number_63 : decode cX5_number 63 = .ok (.aload_n 0, 1) := by decide +kernel
set_option maxRecDepth 20000 in
theorem dX5_number_64 : decode cX5_number 64 = .ok (.getfield 35, 3) := by decide +kernel
set_option maxRecDepth 20000 in
theorem dX5_number_67 : decode cX5_number 67 = .ok (.iload 4, 2) := by decide +kernel
set_option maxRecDepth 20000 in
theorem dX5_number_69 : decode cX5_number 69 = .ok (.if_icmp .ne 10, 3) := by decide +kernel
set_option maxRecDepth 20000 in
theorem dX5_number_72 : decode cX5_number 72 = .ok (.aload_n 0, 1) := by decide +kernel
set_option maxRecDepth 20000 in
theorem dX5_number_73 : decode cX5_number 73 = .ok (.invokevirtual 80, 3) := by decide +kernel
set_option maxRecDepth 20000 in
theorem dX5_number_76 : decode cX5_number 76 = .ok (.goto 19, 3) := by decide +kernel
set_option maxRecDepth 20000 in
theorem dX5_number_79 : decode cX5_number 79 = .ok (.iload 5, 2) := by decide +kernel
set_option maxRecDepth 20000 in
theorem dX5_number_81 : decode cX5_number 81 = .ok (.iload_n 2, 1) := by decide +kernel
set_option maxRecDepth 20000 in
theorem dX5_number_82 : decode cX5_number 82 = .ok (.iload_n 3, 1) := by decide +kernel
set_option maxRecDepth 20000 in
theorem dX5_number_83 : decode cX5_number 83 = .ok (.invokestatic 98, 3) := by decide +kernel
set_option maxRecDepth 20000 in
theorem dX5_number_86 : decode cX5_number 86 = .ok (.ifCond .ne 9, 3) := by decide +kernel
set_option maxRecDepth 20000 in
theorem dX5_number_89 : decode cX5_number 89 = .ok (.aload_n 0, 1) := by decide +kernel
set_option maxRecDepth 20000 in
theorem dX5_number_90 : decode cX5_number 90 = .ok (.iload 4, 2) := by decide +kernel
set_option maxRecDepth 20000 in
theorem dX5_number_92 : decode cX5_number 92 = .ok (.invokevirtual 87, 3) := by decide +kernel
set_option maxRecDepth 20000 in
theorem dX5_number_95 : decode cX5_number 95 = .ok (.iload 5, 2) := by decide +kernel
set_option maxRecDepth 20000 in
theorem dX5_number_97 : decode cX5_number 97 = .ok (.ireturn, 1) := by decide +kernel
set_option maxRecDepth 20000 in
theorem dX5_demand_0 : decode cX5_demand 0 = .ok (.aload_n 0, 1) := by decide +kernel
set_option maxRecDepth 20000 in
theorem dX5_demand_1 : decode cX5_demand 1 = .ok (.invokevirtual 94, 3) := by decide +kernel
set_option maxRecDepth 20000 in
theorem dX5_demand_4 : decode cX5_demand 4 = .ok (.iload_n 1, 1) := by decide +kernel
set_option maxRecDepth 20000 in
theorem dX5_demand_5 : decode cX5_demand 5 = .ok (.if_icmp .ne 16, 3) := by decide +kernel
set_option maxRecDepth 20000 in
theorem dX5_demand_8 : decode cX5_demand 8 = .ok (.aload_n 0, 1) := by decide +kernel
set_option maxRecDepth 20000 in
theorem dX5_demand_9 : decode cX5_demand 9 = .ok (.dup, 1) := by decide +kernel
set_option maxRecDepth 20000 in
theorem dX5_demand_10 : decode cX5_demand 10 = .ok (.getfield 35, 3) := by decide +kernel
set_option maxRecDepth 20000 in
theorem dX5_demand_13 : decode cX5_demand 13 = .ok (.iconst 1, 1) := by decide +kernel
set_option maxRecDepth 20000 in
theorem dX5_demand_14 : decode cX5_demand 14 = .ok (.iadd, 1) := by decide +kernel
set_option maxRecDepth 20000 in
theorem dX5_demand_15 : decode cX5_demand 15 = .ok (.putfield 35, 3) := by decide +kernel
set_option maxRecDepth 20000 in
theorem dX5_demand_18 : decode cX5_demand 18 = .ok (.goto 7, 3) := by decide +kernel
set_option maxRecDepth 20000 in
theorem dX5_demand_21 : decode cX5_demand 21 = .ok (.aload_n 0, 1) := by decide +kernel
set_option maxRecDepth 20000 in
theorem dX5_demand_22 : decode cX5_demand 22 = .ok (.invokevirtual 80, 3) := by decide +kernel
set_option maxRecDepth 20000 in
theorem dX5_demand_25 : decode cX5_demand 25 = .ok (.return_, 1) := by decide +kernel
set_option maxRecDepth 20000 in
theorem dX5_accepts_0 : decode cX5_accepts 0 = .ok (.aload_n 0, 1) := by decide +kernel
set_option maxRecDepth 20000 in
theorem dX5_accepts_1 : decode cX5_accepts 1 = .ok (.invokevirtual 94, 3) := by decide +kernel
set_option maxRecDepth 20000 in
theorem dX5_accepts_4 : decode cX5_accepts 4 = .ok (.iload_n 1, 1) := by decide +kernel
set_option maxRecDepth 20000 in
theorem dX5_accepts_5 : decode cX5_accepts 5 = .ok (.if_icmp .eq 5, 3) := by decide +kernel
set_option maxRecDepth 20000 in
theorem dX5_accepts_8 : decode cX5_accepts 8 = .ok (.iconst 0, 1) := by decide +kernel
set_option maxRecDepth 20000 in
theorem dX5_accepts_9 : decode cX5_accepts 9 = .ok (.ireturn, 1) := by decide +kernel
set_option maxRecDepth 20000 in
theorem dX5_accepts_10 : decode cX5_accepts 10 = .ok (.aload_n 0, 1) := by decide +kernel
set_option maxRecDepth 20000 in
theorem dX5_accepts_11 : decode cX5_accepts 11 = .ok (.dup, 1) := by decide +kernel
set_option maxRecDepth 20000 in
theorem dX5_accepts_12 : decode cX5_accepts 12 = .ok (.getfield 35, 3) := by decide +kernel
set_option maxRecDepth 20000 in
theorem dX5_accepts_15 : decode cX5_accepts 15 = .ok (.iconst 1, 1) := by decide +kernel
set_option maxRecDepth 20000 in
theorem dX5_accepts_16 : decode cX5_accepts 16 = .ok (.iadd, 1) := by decide +kernel
set_option maxRecDepth 20000 in
theorem dX5_accepts_17 : decode cX5_accepts 17 = .ok (.putfield 35, 3) := by decide +kernel
set_option maxRecDepth 20000 in
theorem dX5_accepts_20 : decode cX5_accepts 20 = .ok (.iconst 1, 1) := by decide +kernel
set_option maxRecDepth 20000 in
theorem dX5_accepts_21 : decode cX5_accepts 21 = .ok (.ireturn, 1) := by decide +kernel
set_option maxRecDepth 20000 in
theorem dX5_current_0 : decode cX5_current 0 = .ok (.aload_n 0, 1) := by decide +kernel
set_option maxRecDepth 20000 in
theorem dX5_current_1 : decode cX5_current 1 = .ok (.getfield 38, 3) := by decide +kernel
set_option maxRecDepth 20000 in
theorem dX5_current_4 : decode cX5_current 4 = .ok (.iconst (-1), 1) := by decide +kernel
set_option maxRecDepth 20000 in
theorem dX5_current_5 : decode cX5_current 5 = .ok (.if_icmp .ne 28, 3) := by decide +kernel
set_option maxRecDepth 20000 in
theorem dX5_current_8 : decode cX5_current 8 = .ok (.aload_n 0, 1) := by decide +kernel
set_option maxRecDepth 20000 in
theorem dX5_current_9 : decode cX5_current 9 = .ok (.getfield 35, 3) := by decide +kernel
set_option maxRecDepth 20000 in
theorem dX5_current_12 : decode cX5_current 12 = .ok (.aload_n 0, 1) := by decide +kernel
set_option maxRecDepth 20000 in
theorem dX5_current_13 : decode cX5_current 13 = .ok (.getfield 27, 3) := by decide +kernel
set_option maxRecDepth 20000 in
theorem dX5_current_16 : decode cX5_current 16 = .ok (.if_icmp .ge 17, 3) := by decide +kernel
set_option maxRecDepth 20000 in
theorem dX5_current_19 : decode cX5_current 19 = .ok (.aload_n 0, 1) := by decide +kernel
set_option maxRecDepth 20000 in
theorem dX5_current_20 : decode cX5_current 20 = .ok (.getfield 14, 3) := by decide +kernel
set_option maxRecDepth 20000 in
theorem dX5_current_23 : decode cX5_current 23 = .ok (.aload_n 0, 1) := by decide +kernel
set_option maxRecDepth 20000 in
theorem dX5_current_24 : decode cX5_current 24 = .ok (.getfield 35, 3) := by decide +kernel
set_option maxRecDepth 20000 in
theorem dX5_current_27 : decode cX5_current 27 = .ok (.invokevirtual 102, 3) := by decide +kernel
set_option maxRecDepth 20000 in
theorem dX5_current_30 : decode cX5_current 30 = .ok (.goto 4, 3) := by decide +kernel
set_option maxRecDepth 20000 in
theorem dX5_current_33 : decode cX5_current 33 = .ok (.iconst (-1), 1) := by decide +kernel
set_option maxRecDepth 20000 in
theorem dX5_current_34 : decode cX5_current 34 = .ok (.ireturn, 1) := by decide +kernel
set_option maxRecDepth 20000 in
theorem dX5_failForm_0 : decode cX5_failForm 0 = .ok (.aload_n 0, 1) := by decide +kernel
set_option maxRecDepth 20000 in
theorem dX5_failForm_1 : decode cX5_failForm 1 = .ok (.getfield 38, 3) := by decide +kernel
set_option maxRecDepth 20000 in
theorem dX5_failForm_4 : decode cX5_failForm 4 = .ok (.iconst (-1), 1) := by decide +kernel
set_option maxRecDepth 20000 in
theorem dX5_failForm_5 : decode cX5_failForm 5 = .ok (.if_icmp .ne 11, 3) := by decide +kernel
set_option maxRecDepth 20000 in
theorem dX5_failForm_8 : decode cX5_failForm 8 = .ok (.aload_n 0, 1) := by decide +kernel
set_option maxRecDepth 20000 in
theorem dX5_failForm_9 : decode cX5_failForm 9 = .ok (.aload_n 0, 1) := by decide +kernel
set_option maxRecDepth 20000 in
theorem dX5_failForm_10 : decode cX5_failForm 10 = .ok (.getfield 35, 3) := by decide +kernel
set_option maxRecDepth 20000 in
theorem dX5_failForm_13 : decode cX5_failForm 13 = .ok (.putfield 38, 3) := by decide +kernel
set_option maxRecDepth 20000 in
theorem dX5_failForm_16 : decode cX5_failForm 16 = .ok (.return_, 1) := by decide +kernel
set_option maxRecDepth 20000 in
theorem dX5_failRange_0 : decode cX5_failRange 0 = .ok (.aload_n 0, 1) := by decide +kernel
set_option maxRecDepth 20000 in
theorem dX5_failRange_1 : decode cX5_failRange 1 = .ok (.getfield 41, 3) := by decide +kernel
set_option maxRecDepth 20000 in
theorem dX5_failRange_4 : decode cX5_failRange 4 = .ok (.iconst (-1), 1) := by decide +kernel
set_option maxRecDepth 20000 in
theorem dX5_failRange_5 : decode cX5_failRange 5 = .ok (.if_icmp .ne 8, 3) := by decide +kernel
set_option maxRecDepth 20000 in
theorem dX5_failRange_8 : decode cX5_failRange 8 = .ok (.aload_n 0, 1) := by decide +kernel
set_option maxRecDepth 20000 in
theorem dX5_failRange_9 : decode cX5_failRange 9 = .ok (.iload_n 1, 1) := by decide +kernel
set_option maxRecDepth 20000 in
theorem dX5_failRange_10 : decode cX5_failRange 10 = .ok (.putfield 41, 3) := by decide +kernel
set_option maxRecDepth 20000 in
theorem dX5_failRange_13 : decode cX5_failRange 13 = .ok (.return_, 1) := by decide +kernel
set_option maxRecDepth 20000 in
theorem dX6_init_0 : decode cX6_init 0 = .ok (.aload_n 0, 1) := by decide +kernel
set_option maxRecDepth 20000 in
theorem dX6_init_1 : decode cX6_init 1 = .ok (.invokespecial 3, 3) := by decide +kernel
set_option maxRecDepth 20000 in
theorem dX6_init_4 : decode cX6_init 4 = .ok (.aload_n 0, 1) := by decide +kernel
set_option maxRecDepth 20000 in
theorem dX6_init_5 : decode cX6_init 5 = .ok (.new 9, 3) := by decide +kernel
set_option maxRecDepth 20000 in
theorem dX6_init_8 : decode cX6_init 8 = .ok (.dup, 1) := by decide +kernel
set_option maxRecDepth 20000 in
theorem dX6_init_9 : decode cX6_init 9 = .ok (.bipush 16, 2) := by decide +kernel
set_option maxRecDepth 20000 in
theorem dX6_init_11 : decode cX6_init 11 = .ok (.invokespecial 11, 3) := by decide +kernel
set_option maxRecDepth 20000 in
theorem dX6_init_14 : decode cX6_init 14 = .ok (.putfield 14, 3) := by decide +kernel
set_option maxRecDepth 20000 in
theorem dX6_init_17 : decode cX6_init 17 = .ok (.aload_n 0, 1) := by decide +kernel
set_option maxRecDepth 20000 in
theorem dX6_init_18 : decode cX6_init 18 = .ok (.new 9, 3) := by decide +kernel
set_option maxRecDepth 20000 in
theorem dX6_init_21 : decode cX6_init 21 = .ok (.dup, 1) := by decide +kernel
set_option maxRecDepth 20000 in
theorem dX6_init_22 : decode cX6_init 22 = .ok (.bipush 16, 2) := by decide +kernel
set_option maxRecDepth 20000 in
theorem dX6_init_24 : decode cX6_init 24 = .ok (.invokespecial 11, 3) := by decide +kernel
set_option maxRecDepth 20000 in
theorem dX6_init_27 : decode cX6_init 27 = .ok (.putfield 20, 3) := by decide +kernel
set_option maxRecDepth 20000 in
theorem dX6_init_30 : decode cX6_init 30 = .ok (.aload_n 0, 1) := by decide +kernel
set_option maxRecDepth 20000 in
theorem dX6_init_31 : decode cX6_init 31 = .ok (.new 9, 3) := by decide +kernel
set_option maxRecDepth 20000 in
theorem dX6_init_34 : decode cX6_init 34 = .ok (.dup, 1) := by decide +kernel
set_option maxRecDepth 20000 in
theorem dX6_init_35 : decode cX6_init 35 = .ok (.bipush 16, 2) := by decide +kernel
set_option maxRecDepth 20000 in
theorem dX6_init_37 : decode cX6_init 37 = .ok (.invokespecial 11, 3) := by decide +kernel
set_option maxRecDepth 20000 in
theorem dX6_init_40 : decode cX6_init 40 = .ok (.putfield 23, 3) := by decide +kernel
set_option maxRecDepth 20000 in
theorem dX6_init_43 : decode cX6_init 43 = .ok (.aload_n 0, 1) := by decide +kernel
set_option maxRecDepth 20000 in
theorem dX6_init_44 : decode cX6_init 44 = .ok (.getfield 14, 3) := by decide +kernel
set_option maxRecDepth 20000 in
theorem dX6_init_47 : decode cX6_init 47 = .ok (.iconst 0, 1) := by decide +kernel
set_option maxRecDepth 20000 in
theorem dX6_init_48 : decode cX6_init 48 = .ok (.iconst (-1), 1) := by decide +kernel
set_option maxRecDepth 20000 in
theorem dX6_init_49 : decode cX6_init 49 = .ok (.invokevirtual 26, 3) := by decide +kernel
set_option maxRecDepth 20000 in
theorem dX6_init_52 : decode cX6_init 52 = .ok (.aload_n 0, 1) := by decide +kernel
set_option maxRecDepth 20000 in
theorem dX6_init_53 : decode cX6_init 53 = .ok (.iconst 1, 1) := by decide +kernel
set_option maxRecDepth 20000 in
theorem dX6_init_54 : decode cX6_init 54 = .ok (.putfield 30, 3) := by decide +kernel
set_option maxRecDepth 20000 in
theorem dX6_init_57 : decode cX6_init 57 = .ok (.return_, 1) := by decide +kernel
set_option maxRecDepth 20000 in
theorem dX6_size_0 : decode cX6_size 0 = .ok (.aload_n 0, 1) := by decide +kernel
set_option maxRecDepth 20000 in
theorem dX6_size_1 : decode cX6_size 1 = .ok (.getfield 30, 3) := by decide +kernel
set_option maxRecDepth 20000 in
theorem dX6_size_4 : decode cX6_size 4 = .ok (.ireturn, 1) := by decide +kernel
set_option maxRecDepth 20000 in
theorem dX6_has_0 : decode cX6_has 0 = .ok (.iload_n 1, 1) := by decide +kernel
set_option maxRecDepth 20000 in
theorem dX6_has_1 : decode cX6_has 1 = .ok (.iconst 0, 1) := by decide +kernel
set_option maxRecDepth 20000 in
theorem dX6_has_2 : decode cX6_has 2 = .ok (.aload_n 0, 1) := by decide +kernel
set_option maxRecDepth 20000 in
theorem dX6_has_3 : decode cX6_has 3 = .ok (.getfield 30, 3) := by decide +kernel
set_option maxRecDepth 20000 in
theorem dX6_has_6 : decode cX6_has 6 = .ok (.iconst 1, 1) := by decide +kernel
set_option maxRecDepth 20000 in
theorem dX6_has_7 : decode cX6_has 7 = .ok (.isub, 1) := by decide +kernel
set_option maxRecDepth 20000 in
theorem dX6_has_8 : decode cX6_has 8 = .ok (.invokestatic 34, 3) := by decide +kernel
set_option maxRecDepth 20000 in
theorem dX6_has_11 : decode cX6_has 11 = .ok (.ireturn, 1) := by decide +kernel
set_option maxRecDepth 20000 in
theorem dX6_parentOf_0 : decode cX6_parentOf 0 = .ok (.aload_n 0, 1) := by decide +kernel
set_option maxRecDepth 20000 in
theorem dX6_parentOf_1 : decode cX6_parentOf 1 = .ok (.getfield 14, 3) := by decide +kernel
set_option maxRecDepth 20000 in
theorem dX6_parentOf_4 : decode cX6_parentOf 4 = .ok (.iload_n 1, 1) := by decide +kernel
set_option maxRecDepth 20000 in
theorem dX6_parentOf_5 : decode cX6_parentOf 5 = .ok (.invokevirtual 38, 3) := by decide +kernel
set_option maxRecDepth 20000 in
theorem dX6_parentOf_8 : decode cX6_parentOf 8 = .ok (.ireturn, 1) := by decide +kernel
set_option maxRecDepth 20000 in
theorem dX6_kindOf_0 : decode cX6_kindOf 0 = .ok (.aload_n 0, 1) := by decide +kernel
set_option maxRecDepth 20000 in
theorem dX6_kindOf_1 : decode cX6_kindOf 1 = .ok (.getfield 20, 3) := by decide +kernel
set_option maxRecDepth 20000 in
theorem dX6_kindOf_4 : decode cX6_kindOf 4 = .ok (.iload_n 1, 1) := by decide +kernel
set_option maxRecDepth 20000 in
theorem dX6_kindOf_5 : decode cX6_kindOf 5 = .ok (.invokevirtual 38, 3) := by decide +kernel
set_option maxRecDepth 20000 in
theorem dX6_kindOf_8 : decode cX6_kindOf 8 = .ok (.ireturn, 1) := by decide +kernel
set_option maxRecDepth 20000 in
theorem dX6_classesOf_0 : decode cX6_classesOf 0 = .ok (.aload_n 0, 1) := by decide +kernel
set_option maxRecDepth 20000 in
theorem dX6_classesOf_1 : decode cX6_classesOf 1 = .ok (.getfield 23, 3) := by decide +kernel
set_option maxRecDepth 20000 in
theorem dX6_classesOf_4 : decode cX6_classesOf 4 = .ok (.iload_n 1, 1) := by decide +kernel
set_option maxRecDepth 20000 in
theorem dX6_classesOf_5 : decode cX6_classesOf 5 = .ok (.invokevirtual 38, 3) := by decide +kernel
set_option maxRecDepth 20000 in
theorem dX6_classesOf_8 : decode cX6_classesOf 8 = .ok (.ireturn, 1) := by decide +kernel
set_option maxRecDepth 20000 in
theorem dX6_append_0 : decode cX6_append 0 = .ok (.aload_n 0, 1) := by decide +kernel
set_option maxRecDepth 20000 in
theorem dX6_append_1 : decode cX6_append 1 = .ok (.getfield 30, 3) := by decide +kernel
set_option maxRecDepth 20000 in
theorem dX6_append_4 : decode cX6_append 4 = .ok (.istore 4, 2) := by decide +kernel
set_option maxRecDepth 20000 in
theorem dX6_append_6 : decode cX6_append 6 = .ok (.aload_n 0, 1) := by decide +kernel
set_option maxRecDepth 20000 in
theorem dX6_append_7 : decode cX6_append 7 = .ok (.getfield 14, 3) := by decide +kernel
set_option maxRecDepth 20000 in
theorem dX6_append_10 : decode cX6_append 10 = .ok (.iload 4, 2) := by decide +kernel
set_option maxRecDepth 20000 in
theorem dX6_append_12 : decode cX6_append 12 = .ok (.iload_n 1, 1) := by decide +kernel
set_option maxRecDepth 20000 in
theorem dX6_append_13 : decode cX6_append 13 = .ok (.invokevirtual 26, 3) := by decide +kernel
set_option maxRecDepth 20000 in
theorem dX6_append_16 : decode cX6_append 16 = .ok (.aload_n 0, 1) := by decide +kernel
set_option maxRecDepth 20000 in
theorem dX6_append_17 : decode cX6_append 17 = .ok (.iload 4, 2) := by decide +kernel
set_option maxRecDepth 20000 in
theorem dX6_append_19 : decode cX6_append 19 = .ok (.iload_n 2, 1) := by decide +kernel
set_option maxRecDepth 20000 in
theorem dX6_append_20 : decode cX6_append 20 = .ok (.iload_n 3, 1) := by decide +kernel
set_option maxRecDepth 20000 in
theorem dX6_append_21 : decode cX6_append 21 = .ok (.invokevirtual 42, 3) := by decide +kernel
set_option maxRecDepth 20000 in
theorem dX6_append_24 : decode cX6_append 24 = .ok (.aload_n 0, 1) := by decide +kernel
set_option maxRecDepth 20000 in
theorem dX6_append_25 : decode cX6_append 25 = .ok (.dup, 1) := by decide +kernel
set_option maxRecDepth 20000 in
theorem dX6_append_26 : decode cX6_append 26 = .ok (.getfield 30, 3) := by decide +kernel
set_option maxRecDepth 20000 in
theorem dX6_append_29 : decode cX6_append 29 = .ok (.iconst 1, 1) := by decide +kernel
set_option maxRecDepth 20000 in
theorem dX6_append_30 : decode cX6_append 30 = .ok (.iadd, 1) := by decide +kernel
set_option maxRecDepth 20000 in
theorem dX6_append_31 : decode cX6_append 31 = .ok (.putfield 30, 3) := by decide +kernel
set_option maxRecDepth 20000 in
theorem dX6_append_34 : decode cX6_append 34 = .ok (.iload 4, 2) := by decide +kernel
set_option maxRecDepth 20000 in
theorem dX6_append_36 : decode cX6_append 36 = .ok (.ireturn, 1) := by decide +kernel
set_option maxRecDepth 20000 in
theorem dX6_shorten_0 : decode cX6_shorten 0 = .ok (.aload_n 0, 1) := by decide +kernel
set_option maxRecDepth 20000 in
theorem dX6_shorten_1 : decode cX6_shorten 1 = .ok (.dup, 1) := by decide +kernel
set_option maxRecDepth 20000 in
theorem dX6_shorten_2 : decode cX6_shorten 2 = .ok (.getfield 30, 3) := by decide +kernel
set_option maxRecDepth 20000 in
theorem dX6_shorten_5 : decode cX6_shorten 5 = .ok (.iconst 1, 1) := by decide +kernel
set_option maxRecDepth 20000 in
theorem dX6_shorten_6 : decode cX6_shorten 6 = .ok (.isub, 1) := by decide +kernel
set_option maxRecDepth 20000 in
theorem dX6_shorten_7 : decode cX6_shorten 7 = .ok (.putfield 30, 3) := by decide +kernel
set_option maxRecDepth 20000 in
theorem dX6_shorten_10 : decode cX6_shorten 10 = .ok (.aload_n 0, 1) := by decide +kernel
set_option maxRecDepth 20000 in
theorem dX6_shorten_11 : decode cX6_shorten 11 = .ok (.getfield 30, 3) := by decide +kernel
set_option maxRecDepth 20000 in
theorem dX6_shorten_14 : decode cX6_shorten 14 = .ok (.ireturn, 1) := by decide +kernel
set_option maxRecDepth 20000 in
theorem dX6_setLook_0 : decode cX6_setLook 0 = .ok (.aload_n 0, 1) := by decide +kernel
set_option maxRecDepth 20000 in
theorem dX6_setLook_1 : decode cX6_setLook 1 = .ok (.getfield 20, 3) := by decide +kernel
set_option maxRecDepth 20000 in
theorem dX6_setLook_4 : decode cX6_setLook 4 = .ok (.iload_n 1, 1) := by decide +kernel
set_option maxRecDepth 20000 in
theorem dX6_setLook_5 : decode cX6_setLook 5 = .ok (.iload_n 2, 1) := by decide +kernel
set_option maxRecDepth 20000 in
theorem dX6_setLook_6 : decode cX6_setLook 6 = .ok (.invokevirtual 26, 3) := by decide +kernel
set_option maxRecDepth 20000 in
theorem dX6_setLook_9 : decode cX6_setLook 9 = .ok (.aload_n 0, 1) := by decide +kernel
set_option maxRecDepth 20000 in
theorem dX6_setLook_10 : decode cX6_setLook 10 = .ok (.getfield 23, 3) := by decide +kernel
set_option maxRecDepth 20000 in
theorem dX6_setLook_13 : decode cX6_setLook 13 = .ok (.iload_n 1, 1) := by decide +kernel
set_option maxRecDepth 20000 in
theorem dX6_setLook_14 : decode cX6_setLook 14 = .ok (.iload_n 3, 1) := by decide +kernel
set_option maxRecDepth 20000 in
theorem dX6_setLook_15 : decode cX6_setLook 15 = .ok (.invokevirtual 26, 3) := by decide +kernel
set_option maxRecDepth 20000 in
theorem dX6_setLook_18 : decode cX6_setLook 18 = .ok (.return_, 1) := by decide +kernel
set_option maxRecDepth 20000 in
theorem dX6_stepsUp_0 : decode cX6_stepsUp 0 = .ok (.iload_n 1, 1) := by decide +kernel
set_option maxRecDepth 20000 in
theorem dX6_stepsUp_1 : decode cX6_stepsUp 1 = .ok (.istore_n 3, 1) := by decide +kernel
set_option maxRecDepth 20000 in
theorem dX6_stepsUp_2 : decode cX6_stepsUp 2 = .ok (.iconst 0, 1) := by decide +kernel
set_option maxRecDepth 20000 in
theorem dX6_stepsUp_3 : decode cX6_stepsUp 3 = .ok (.istore 4, 2) := by decide +kernel
set_option maxRecDepth 20000 in
theorem dX6_stepsUp_5 : decode cX6_stepsUp 5 = .ok (.iload 4, 2) := by decide +kernel
set_option maxRecDepth 20000 in
theorem dX6_stepsUp_7 : decode cX6_stepsUp 7 = .ok (.bipush 16, 2) := by decide +kernel
set_option maxRecDepth 20000 in
theorem dX6_stepsUp_9 : decode cX6_stepsUp 9 = .ok (.if_icmp .ge 30, 3) := by decide +kernel
set_option maxRecDepth 20000 in
theorem dX6_stepsUp_12 : decode cX6_stepsUp 12 = .ok (.iload_n 3, 1) := by decide +kernel
set_option maxRecDepth 20000 in
theorem dX6_stepsUp_13 : decode cX6_stepsUp 13 = .ok (.ifCond .lt 26, 3) := by decide +kernel
set_option maxRecDepth 20000 in
theorem dX6_stepsUp_16 : decode cX6_stepsUp 16 = .ok (.iload_n 3, 1) := by decide +kernel
set_option maxRecDepth 20000 in
theorem dX6_stepsUp_17 : decode cX6_stepsUp 17 = .ok (.iload_n 2, 1) := by decide +kernel
set_option maxRecDepth 20000 in
theorem dX6_stepsUp_18 : decode cX6_stepsUp 18 = .ok (.if_icmp .ne 6, 3) := by decide +kernel
set_option maxRecDepth 20000 in
theorem dX6_stepsUp_21 : decode cX6_stepsUp 21 = .ok (.iload 4, 2) := by decide +kernel
set_option maxRecDepth 20000 in
theorem dX6_stepsUp_23 : decode cX6_stepsUp 23 = .ok (.ireturn, 1) := by decide +kernel
set_option maxRecDepth 20000 in
theorem dX6_stepsUp_24 : decode cX6_stepsUp 24 = .ok (.aload_n 0, 1) := by decide +kernel
set_option maxRecDepth 20000 in
theorem dX6_stepsUp_25 : decode cX6_stepsUp 25 = .ok (.getfield 14, 3) := by decide +kernel
set_option maxRecDepth 20000 in
theorem dX6_stepsUp_28 : decode cX6_stepsUp 28 = .ok (.iload_n 3, 1) := by decide +kernel
set_option maxRecDepth 20000 in
theorem dX6_stepsUp_29 : decode cX6_stepsUp 29 = .ok (.invokevirtual 38, 3) := by decide +kernel
set_option maxRecDepth 20000 in
theorem dX6_stepsUp_32 : decode cX6_stepsUp 32 = .ok (.istore_n 3, 1) := by decide +kernel
set_option maxRecDepth 20000 in
theorem dX6_stepsUp_33 : decode cX6_stepsUp 33 = .ok (.iinc 4 1, 3) := by decide +kernel
set_option maxRecDepth 20000 in
theorem dX6_stepsUp_36 : decode cX6_stepsUp 36 = .ok (.goto (-31), 3) := by decide +kernel
set_option maxRecDepth 20000 in
theorem dX6_stepsUp_39 : decode cX6_stepsUp 39 = .ok (.iconst (-1), 1) := by decide +kernel
set_option maxRecDepth 20000 in
theorem dX6_stepsUp_40 : decode cX6_stepsUp 40 = .ok (.ireturn, 1) := by decide +kernel
set_option maxRecDepth 20000 in
theorem dX6_hasKindAbove_0 : decode cX6_hasKindAbove 0 = .ok (.aload_n 0, 1) := by decide +kernel
set_option maxRecDepth 20000 in
theorem dX6_hasKindAbove_1 : decode cX6_hasKindAbove 1 = .ok (.getfield 14, 3) := by decide +kernel
set_option maxRecDepth 20000 in
theorem dX6_hasKindAbove_4 : decode cX6_hasKindAbove 4 = .ok (.iload_n 1, 1) := by decide +kernel
set_option maxRecDepth 20000 in
theorem dX6_hasKindAbove_5 : decode cX6_hasKindAbove 5 = .ok (.invokevirtual 38, 3) := by decide +kernel
set_option maxRecDepth 20000 in
theorem dX6_hasKindAbove_8 : decode cX6_hasKindAbove 8 = .ok (.istore_n 3, 1) := by decide +kernel
set_option maxRecDepth 20000 in
theorem dX6_hasKindAbove_9 : decode cX6_hasKindAbove 9 = .ok (.iconst 0, 1) := by decide +kernel
set_option maxRecDepth 20000 in
theorem dX6_hasKindAbove_10 : decode cX6_hasKindAbove 10 = .ok (.istore 4, 2) := by decide +kernel
set_option maxRecDepth 20000 in
theorem dX6_hasKindAbove_12 : decode cX6_hasKindAbove 12 = .ok (.iload 4, 2) := by decide +kernel
set_option maxRecDepth 20000 in
theorem dX6_hasKindAbove_14 : decode cX6_hasKindAbove 14 = .ok (.bipush 16, 2) := by decide +kernel
set_option maxRecDepth 20000 in
theorem dX6_hasKindAbove_16 : decode cX6_hasKindAbove 16 = .ok (.if_icmp .ge 36, 3) := by decide +kernel
set_option maxRecDepth 20000 in
theorem dX6_hasKindAbove_19 : decode cX6_hasKindAbove 19 = .ok (.iload_n 3, 1) := by decide +kernel
set_option maxRecDepth 20000 in
theorem dX6_hasKindAbove_20 : decode cX6_hasKindAbove 20 = .ok (.ifCond .lt 32, 3) := by decide +kernel
set_option maxRecDepth 20000 in
theorem dX6_hasKindAbove_23 : decode cX6_hasKindAbove 23 = .ok (.aload_n 0, 1) := by decide +kernel
set_option maxRecDepth 20000 in
theorem dX6_hasKindAbove_24 : decode cX6_hasKindAbove 24 = .ok (.getfield 20, 3) := by decide +kernel
set_option maxRecDepth 20000 in
theorem dX6_hasKindAbove_27 : decode cX6_hasKindAbove 27 = .ok (.iload_n 3, 1) := by decide +kernel
set_option maxRecDepth 20000 in
theorem dX6_hasKindAbove_28 : decode cX6_hasKindAbove 28 = .ok (.invokevirtual 38, 3) := by decide +kernel
set_option maxRecDepth 20000 in
theorem dX6_hasKindAbove_31 : decode cX6_hasKindAbove 31 = .ok (.iload_n 2, 1) := by decide +kernel
set_option maxRecDepth 20000 in
theorem dX6_hasKindAbove_32 : decode cX6_hasKindAbove 32 = .ok (.if_icmp .ne 5, 3) := by decide +kernel
set_option maxRecDepth 20000 in
theorem dX6_hasKindAbove_35 : decode cX6_hasKindAbove 35 = .ok (.iconst 1, 1) := by decide +kernel
set_option maxRecDepth 20000 in
theorem dX6_hasKindAbove_36 : decode cX6_hasKindAbove 36 = .ok (.ireturn, 1) := by decide +kernel
set_option maxRecDepth 20000 in
theorem dX6_hasKindAbove_37 : decode cX6_hasKindAbove 37 = .ok (.aload_n 0, 1) := by decide +kernel
set_option maxRecDepth 20000 in
theorem dX6_hasKindAbove_38 : decode cX6_hasKindAbove 38 = .ok (.getfield 14, 3) := by decide +kernel
set_option maxRecDepth 20000 in
theorem dX6_hasKindAbove_41 : decode cX6_hasKindAbove 41 = .ok (.iload_n 3, 1) := by decide +kernel
set_option maxRecDepth 20000 in
theorem dX6_hasKindAbove_42 : decode cX6_hasKindAbove 42 = .ok (.invokevirtual 38, 3) := by decide +kernel
set_option maxRecDepth 20000 in
theorem dX6_hasKindAbove_45 : decode cX6_hasKindAbove 45 = .ok (.istore_n 3, 1) := by decide +kernel
set_option maxRecDepth 20000 in
theorem dX6_hasKindAbove_46 : decode cX6_hasKindAbove 46 = .ok (.iinc 4 1, 3) := by decide +kernel
set_option maxRecDepth 20000 in
theorem dX6_hasKindAbove_49 : decode cX6_hasKindAbove 49 = .ok (.goto (-37), 3) := by decide +kernel
set_option maxRecDepth 20000 in
theorem dX6_hasKindAbove_52 : decode cX6_hasKindAbove 52 = .ok (.iconst 0, 1) := by decide +kernel
set_option maxRecDepth 20000 in
theorem dX6_hasKindAbove_53 : decode cX6_hasKindAbove 53 = .ok (.ireturn, 1) := by decide +kernel
set_option maxRecDepth 20000 in
theorem dX6_copy_0 : decode cX6_copy 0 = .ok (.aload_n 1, 1) := by decide +kernel
set_option maxRecDepth 20000 in
theorem dX6_copy_1 : decode cX6_copy 1 = .ok (.ifnull 44, 3) := by decide +kernel
set_option maxRecDepth 20000 in
theorem dX6_copy_4 : decode cX6_copy 4 = .ok (.aload_n 0, 1) := by decide +kernel
set_option maxRecDepth 20000 in
theorem dX6_copy_5 : decode cX6_copy 5 = .ok (.aload_n 1, 1) := by decide +kernel
set_option maxRecDepth 20000 in
theorem dX6_copy_6 : decode cX6_copy 6 = .ok (.getfield 30, 3) := by decide +kernel
set_option maxRecDepth 20000 in
theorem dX6_copy_9 : decode cX6_copy 9 = .ok (.putfield 30, 3) := by decide +kernel
set_option maxRecDepth 20000 in
theorem dX6_copy_12 : decode cX6_copy 12 = .ok (.aload_n 0, 1) := by decide +kernel
set_option maxRecDepth 20000 in
theorem dX6_copy_13 : decode cX6_copy 13 = .ok (.getfield 14, 3) := by decide +kernel
set_option maxRecDepth 20000 in
theorem dX6_copy_16 : decode cX6_copy 16 = .ok (.aload_n 1, 1) := by decide +kernel
set_option maxRecDepth 20000 in
theorem dX6_copy_17 : decode cX6_copy 17 = .ok (.getfield 14, 3) := by decide +kernel
set_option maxRecDepth 20000 in
theorem dX6_copy_20 : decode cX6_copy 20 = .ok (.invokevirtual 46, 3) := by decide +kernel
set_option maxRecDepth 20000 in
theorem dX6_copy_23 : decode cX6_copy 23 = .ok (.aload_n 0, 1) := by decide +kernel
set_option maxRecDepth 20000 in
theorem dX6_copy_24 : decode cX6_copy 24 = .ok (.getfield 20, 3) := by decide +kernel
set_option maxRecDepth 20000 in
theorem dX6_copy_27 : decode cX6_copy 27 = .ok (.aload_n 1, 1) := by decide +kernel
set_option maxRecDepth 20000 in
theorem dX6_copy_28 : decode cX6_copy 28 = .ok (.getfield 20, 3) := by decide +kernel
set_option maxRecDepth 20000 in
theorem dX6_copy_31 : decode cX6_copy 31 = .ok (.invokevirtual 46, 3) := by decide +kernel
set_option maxRecDepth 20000 in
theorem dX6_copy_34 : decode cX6_copy 34 = .ok (.aload_n 0, 1) := by decide +kernel
set_option maxRecDepth 20000 in
theorem dX6_copy_35 : decode cX6_copy 35 = .ok (.getfield 23, 3) := by decide +kernel
set_option maxRecDepth 20000 in
theorem dX6_copy_38 : decode cX6_copy 38 = .ok (.aload_n 1, 1) := by decide +kernel
set_option maxRecDepth 20000 in
theorem dX6_copy_39 : decode cX6_copy 39 = .ok (.getfield 23, 3) := by decide +kernel
set_option maxRecDepth 20000 in
theorem dX6_copy_42 : decode cX6_copy 42 = .ok (.invokevirtual 46, 3) := by decide +kernel
set_option maxRecDepth 20000 in
theorem dX6_copy_45 : decode cX6_copy 45 = .ok (.return_, 1) := by decide +kernel
set_option maxRecDepth 20000 in
theorem dX7_init_0 : decode cX7_init 0 = .ok (.aload_n 0, 1) := by decide +kernel
set_option maxRecDepth 20000 in
theorem dX7_init_1 : decode cX7_init 1 = .ok (.invokespecial 1, 3) := by decide +kernel
set_option maxRecDepth 20000 in
theorem dX7_init_4 : decode cX7_init 4 = .ok (.aload_n 0, 1) := by decide +kernel
set_option maxRecDepth 20000 in
theorem dX7_init_5 : decode cX7_init 5 = .ok (.new 7, 3) := by decide +kernel
set_option maxRecDepth 20000 in
theorem dX7_init_8 : decode cX7_init 8 = .ok (.dup, 1) := by decide +kernel
set_option maxRecDepth 20000 in
theorem dX7_init_9 : decode cX7_init 9 = .ok (.invokespecial 9, 3) := by decide +kernel
set_option maxRecDepth 20000 in
theorem dX7_init_12 : decode cX7_init 12 = .ok (.putfield 10, 3) := by decide +kernel
set_option maxRecDepth 20000 in
theorem dX7_init_15 : decode cX7_init 15 = .ok (.aload_n 0, 1) := by decide +kernel
set_option maxRecDepth 20000 in
theorem dX7_init_16 : decode cX7_init 16 = .ok (.new 16, 3) := by decide +kernel
set_option maxRecDepth 20000 in
theorem dX7_init_19 : decode cX7_init 19 = .ok (.dup, 1) := by decide +kernel
set_option maxRecDepth 20000 in
theorem dX7_init_20 : decode cX7_init 20 = .ok (.invokespecial 18, 3) := by decide +kernel
set_option maxRecDepth 20000 in
theorem dX7_init_23 : decode cX7_init 23 = .ok (.putfield 19, 3) := by decide +kernel
set_option maxRecDepth 20000 in
theorem dX7_init_26 : decode cX7_init 26 = .ok (.aload_n 0, 1) := by decide +kernel
set_option maxRecDepth 20000 in
theorem dX7_init_27 : decode cX7_init 27 = .ok (.new 23, 3) := by decide +kernel
set_option maxRecDepth 20000 in
theorem dX7_init_30 : decode cX7_init 30 = .ok (.dup, 1) := by decide +kernel
set_option maxRecDepth 20000 in
theorem dX7_init_31 : decode cX7_init 31 = .ok (.invokespecial 25, 3) := by decide +kernel
set_option maxRecDepth 20000 in
theorem dX7_init_34 : decode cX7_init 34 = .ok (.putfield 26, 3) := by decide +kernel
set_option maxRecDepth 20000 in
theorem dX7_init_37 : decode cX7_init 37 = .ok (.aload_n 0, 1) := by decide +kernel
set_option maxRecDepth 20000 in
theorem dX7_init_38 : decode cX7_init 38 = .ok (.new 30, 3) := by decide +kernel
set_option maxRecDepth 20000 in
theorem dX7_init_41 : decode cX7_init 41 = .ok (.dup, 1) := by decide +kernel
set_option maxRecDepth 20000 in
theorem dX7_init_42 : decode cX7_init 42 = .ok (.invokespecial 32, 3) := by decide +kernel
set_option maxRecDepth 20000 in
theorem dX7_init_45 : decode cX7_init 45 = .ok (.putfield 33, 3) := by decide +kernel
set_option maxRecDepth 20000 in
theorem dX7_init_48 : decode cX7_init 48 = .ok (.return_, 1) := by decide +kernel
set_option maxRecDepth 20000 in
theorem dX7_add_0 : decode cX7_add 0 = .ok (.aload_n 0, 1) := by decide +kernel
set_option maxRecDepth 20000 in
theorem dX7_add_1 : decode cX7_add 1 = .ok (.getfield 10, 3) := by decide +kernel
set_option maxRecDepth 20000 in
theorem dX7_add_4 : decode cX7_add 4 = .ok (.getfield 37, 3) := by decide +kernel
set_option maxRecDepth 20000 in
theorem dX7_add_7 : decode cX7_add 7 = .ok (.iload_n 1, 1) := by decide +kernel
set_option maxRecDepth 20000 in
theorem dX7_add_8 : decode cX7_add 8 = .ok (.invokevirtual 41, 3) := by decide +kernel
set_option maxRecDepth 20000 in
theorem dX7_add_11 : decode cX7_add 11 = .ok (.ifCond .eq 22, 3) := by decide +kernel
set_option maxRecDepth 20000 in
theorem dX7_add_14 : decode cX7_add 14 = .ok (.iload_n 2, 1) := by decide +kernel
set_option maxRecDepth 20000 in
theorem dX7_add_15 : decode cX7_add 15 = .ok (.iconst 0, 1) := by decide +kernel
set_option maxRecDepth 20000 in
theorem dX7_add_16 : decode cX7_add 16 = .ok (.iconst 5, 1) := by decide +kernel
set_option maxRecDepth 20000 in
theorem dX7_add_17 : decode cX7_add 17 = .ok (.invokestatic 47, 3) := by decide +kernel
set_option maxRecDepth 20000 in
theorem dX7_add_20 : decode cX7_add 20 = .ok (.ifCond .eq 13, 3) := by decide +kernel
set_option maxRecDepth 20000 in
theorem dX7_add_23 : decode cX7_add 23 = .ok (.iload_n 3, 1) := by decide +kernel
set_option maxRecDepth 20000 in
theorem dX7_add_24 : decode cX7_add 24 = .ok (.iconst 0, 1) := by decide +kernel
set_option maxRecDepth 20000 in
theorem dX7_add_25 : decode cX7_add 25 = .ok (.bipush 15, 2) := by decide +kernel
set_option maxRecDepth 20000 in
theorem dX7_add_27 : decode cX7_add 27 = .ok (.invokestatic 47, 3) := by decide +kernel
set_option maxRecDepth 20000 in
theorem dX7_add_30 : decode cX7_add 30 = .ok (.ifCond .ne 6, 3) := by decide +kernel
set_option maxRecDepth 20000 in
theorem dX7_add_33 : decode cX7_add 33 = .ok (.bipush (-11), 2) := by decide +kernel
set_option maxRecDepth 20000 in
theorem dX7_add_35 : decode cX7_add 35 = .ok (.ireturn, 1) := by decide +kernel
set_option maxRecDepth 20000 in
theorem dX7_add_36 : decode cX7_add 36 = .ok (.aload_n 0, 1) := by decide +kernel
set_option maxRecDepth 20000 in
theorem dX7_add_37 : decode cX7_add 37 = .ok (.getfield 10, 3) := by decide +kernel
set_option maxRecDepth 20000 in
theorem dX7_add_40 : decode cX7_add 40 = .ok (.getfield 37, 3) := by decide +kernel
set_option maxRecDepth 20000 in
theorem dX7_add_43 : decode cX7_add 43 = .ok (.invokevirtual 51, 3) := by decide +kernel
set_option maxRecDepth 20000 in
theorem dX7_add_46 : decode cX7_add 46 = .ok (.bipush 16, 2) := by decide +kernel
set_option maxRecDepth 20000 in
theorem dX7_add_48 : decode cX7_add 48 = .ok (.if_icmp .lt 6, 3) := by decide +kernel
set_option maxRecDepth 20000 in
theorem dX7_add_51 : decode cX7_add 51 = .ok (.bipush (-13), 2) := by decide +kernel
set_option maxRecDepth 20000 in
theorem dX7_add_53 : decode cX7_add 53 = .ok (.ireturn, 1) := by decide +kernel
set_option maxRecDepth 20000 in
theorem dX7_add_54 : decode cX7_add 54 = .ok (.aload_n 0, 1) := by decide +kernel
set_option maxRecDepth 20000 in
theorem dX7_add_55 : decode cX7_add 55 = .ok (.invokevirtual 55, 3) := by decide +kernel
set_option maxRecDepth 20000 in
theorem dX7_add_58 : decode cX7_add 58 = .ok (.aload_n 0, 1) := by decide +kernel
set_option maxRecDepth 20000 in
theorem dX7_add_59 : decode cX7_add 59 = .ok (.getfield 10, 3) := by decide +kernel
set_option maxRecDepth 20000 in
theorem dX7_add_62 : decode cX7_add 62 = .ok (.getfield 37, 3) := by decide +kernel
set_option maxRecDepth 20000 in
theorem dX7_add_65 : decode cX7_add 65 = .ok (.iload_n 1, 1) := by decide +kernel
set_option maxRecDepth 20000 in
theorem dX7_add_66 : decode cX7_add 66 = .ok (.iload_n 2, 1) := by decide +kernel
set_option maxRecDepth 20000 in
theorem dX7_add_67 : decode cX7_add 67 = .ok (.iload_n 3, 1) := by decide +kernel
set_option maxRecDepth 20000 in
theorem dX7_add_68 : decode cX7_add 68 = .ok (.invokevirtual 58, 3) := by decide +kernel
set_option maxRecDepth 20000 in
theorem dX7_add_71 : decode cX7_add 71 = .ok (.ireturn, 1) := by decide +kernel
set_option maxRecDepth 20000 in
theorem dX7_remove_0 : decode cX7_remove 0 = .ok (.aload_n 0, 1) := by decide +kernel
set_option maxRecDepth 20000 in
theorem dX7_remove_1 : decode cX7_remove 1 = .ok (.getfield 10, 3) := by decide +kernel
set_option maxRecDepth 20000 in
theorem dX7_remove_4 : decode cX7_remove 4 = .ok (.getfield 37, 3) := by decide +kernel
set_option maxRecDepth 20000 in
theorem dX7_remove_7 : decode cX7_remove 7 = .ok (.invokevirtual 51, 3) := by decide +kernel
set_option maxRecDepth 20000 in
theorem dX7_remove_10 : decode cX7_remove 10 = .ok (.iconst 1, 1) := by decide +kernel
set_option maxRecDepth 20000 in
theorem dX7_remove_11 : decode cX7_remove 11 = .ok (.isub, 1) := by decide +kernel
set_option maxRecDepth 20000 in
theorem dX7_remove_12 : decode cX7_remove 12 = .ok (.istore_n 1, 1) := by decide +kernel
set_option maxRecDepth 20000 in
theorem dX7_remove_13 : decode cX7_remove 13 = .ok (.iload_n 1, 1) := by decide +kernel
set_option maxRecDepth 20000 in
theorem dX7_remove_14 : decode cX7_remove 14 = .ok (.ifCond .le 17, 3) := by decide +kernel
set_option maxRecDepth 20000 in
theorem dX7_remove_17 : decode cX7_remove 17 = .ok (.aload_n 0, 1) := by decide +kernel
set_option maxRecDepth 20000 in
theorem dX7_remove_18 : decode cX7_remove 18 = .ok (.getfield 10, 3) := by decide +kernel
set_option maxRecDepth 20000 in
theorem dX7_remove_21 : decode cX7_remove 21 = .ok (.getfield 62, 3) := by decide +kernel
set_option maxRecDepth 20000 in
theorem dX7_remove_24 : decode cX7_remove 24 = .ok (.iload_n 1, 1) := by decide +kernel
set_option maxRecDepth 20000 in
theorem dX7_remove_25 : decode cX7_remove 25 = .ok (.invokevirtual 66, 3) := by decide +kernel
set_option maxRecDepth 20000 in
theorem dX7_remove_28 : decode cX7_remove 28 = .ok (.ifCond .eq 6, 3) := by decide +kernel
set_option maxRecDepth 20000 in
theorem dX7_remove_31 : decode cX7_remove 31 = .ok (.bipush (-12), 2) := by decide +kernel
set_option maxRecDepth 20000 in
theorem dX7_remove_33 : decode cX7_remove 33 = .ok (.ireturn, 1) := by decide +kernel
set_option maxRecDepth 20000 in
theorem dX7_remove_34 : decode cX7_remove 34 = .ok (.aload_n 0, 1) := by decide +kernel
set_option maxRecDepth 20000 in
theorem dX7_remove_35 : decode cX7_remove 35 = .ok (.invokevirtual 55, 3) := by decide +kernel
set_option maxRecDepth 20000 in
theorem dX7_remove_38 : decode cX7_remove 38 = .ok (.aload_n 0, 1) := by decide +kernel
set_option maxRecDepth 20000 in
theorem dX7_remove_39 : decode cX7_remove 39 = .ok (.getfield 10, 3) := by decide +kernel
set_option maxRecDepth 20000 in
theorem dX7_remove_42 : decode cX7_remove 42 = .ok (.getfield 37, 3) := by decide +kernel
set_option maxRecDepth 20000 in
theorem dX7_remove_45 : decode cX7_remove 45 = .ok (.invokevirtual 71, 3) := by decide +kernel
set_option maxRecDepth 20000 in
theorem dX7_remove_48 : decode cX7_remove 48 = .ok (.ireturn, 1) := by decide +kernel
set_option maxRecDepth 20000 in
theorem dX7_dress_0 : decode cX7_dress 0 = .ok (.aload_n 0, 1) := by decide +kernel
set_option maxRecDepth 20000 in
theorem dX7_dress_1 : decode cX7_dress 1 = .ok (.getfield 10, 3) := by decide +kernel
set_option maxRecDepth 20000 in
theorem dX7_dress_4 : decode cX7_dress 4 = .ok (.getfield 37, 3) := by decide +kernel
set_option maxRecDepth 20000 in
theorem dX7_dress_7 : decode cX7_dress 7 = .ok (.iload_n 1, 1) := by decide +kernel
set_option maxRecDepth 20000 in
theorem dX7_dress_8 : decode cX7_dress 8 = .ok (.invokevirtual 41, 3) := by decide +kernel
set_option maxRecDepth 20000 in
theorem dX7_dress_11 : decode cX7_dress 11 = .ok (.ifCond .eq 22, 3) := by decide +kernel
set_option maxRecDepth 20000 in
theorem dX7_dress_14 : decode cX7_dress 14 = .ok (.iload_n 2, 1) := by decide +kernel
set_option maxRecDepth 20000 in
theorem dX7_dress_15 : decode cX7_dress 15 = .ok (.iconst 0, 1) := by decide +kernel
set_option maxRecDepth 20000 in
theorem dX7_dress_16 : decode cX7_dress 16 = .ok (.iconst 5, 1) := by decide +kernel
set_option maxRecDepth 20000 in
theorem dX7_dress_17 : decode cX7_dress 17 = .ok (.invokestatic 47, 3) := by decide +kernel
set_option maxRecDepth 20000 in
theorem dX7_dress_20 : decode cX7_dress 20 = .ok (.ifCond .eq 13, 3) := by decide +kernel
set_option maxRecDepth 20000 in
theorem dX7_dress_23 : decode cX7_dress 23 = .ok (.iload_n 3, 1) := by decide +kernel
set_option maxRecDepth 20000 in
theorem dX7_dress_24 : decode cX7_dress 24 = .ok (.iconst 0, 1) := by decide +kernel
set_option maxRecDepth 20000 in
theorem dX7_dress_25 : decode cX7_dress 25 = .ok (.bipush 15, 2) := by decide +kernel
set_option maxRecDepth 20000 in
theorem dX7_dress_27 : decode cX7_dress 27 = .ok (.invokestatic 47, 3) := by decide +kernel
set_option maxRecDepth 20000 in
theorem dX7_dress_30 : decode cX7_dress 30 = .ok (.ifCond .ne 6, 3) := by decide +kernel
set_option maxRecDepth 20000 in
theorem dX7_dress_33 : decode cX7_dress 33 = .ok (.bipush (-11), 2) := by decide +kernel
set_option maxRecDepth 20000 in
theorem dX7_dress_35 : decode cX7_dress 35 = .ok (.ireturn, 1) := by decide +kernel
set_option maxRecDepth 20000 in
theorem dX7_dress_36 : decode cX7_dress 36 = .ok (.bipush 16, 2) := by decide +kernel
set_option maxRecDepth 20000 in
theorem dX7_dress_38 : decode cX7_dress 38 = .ok (.aload_n 0, 1) := by decide +kernel
set_option maxRecDepth 20000 in
theorem dX7_dress_39 : decode cX7_dress 39 = .ok (.getfield 10, 3) := by decide +kernel
set_option maxRecDepth 20000 in
theorem dX7_dress_42 : decode cX7_dress 42 = .ok (.getfield 37, 3) := by decide +kernel
set_option maxRecDepth 20000 in
theorem dX7_dress_45 : decode cX7_dress 45 = .ok (.iload_n 1, 1) := by decide +kernel
set_option maxRecDepth 20000 in
theorem dX7_dress_46 : decode cX7_dress 46 = .ok (.invokevirtual 74, 3) := by decide +kernel
set_option maxRecDepth 20000 in
theorem dX7_dress_49 : decode cX7_dress 49 = .ok (.imul, 1) := by decide +kernel
set_option maxRecDepth 20000 in
theorem dX7_dress_50 : decode cX7_dress 50 = .ok (.aload_n 0, 1) := by decide +kernel
set_option maxRecDepth 20000 in
theorem dX7_dress_51 : decode cX7_dress 51 = .ok (.getfield 10, 3) := by decide +kernel
set_option maxRecDepth 20000 in
theorem dX7_dress_54 : decode cX7_dress 54 = .ok (.getfield 37, 3) := by decide +kernel
set_option maxRecDepth 20000 in
theorem dX7_dress_57 : decode cX7_dress 57 = .ok (.iload_n 1, 1) := by decide +kernel
set_option maxRecDepth 20000 in
theorem dX7_dress_58 : decode cX7_dress 58 = .ok (.invokevirtual 78, 3) := by decide +kernel
set_option maxRecDepth 20000 in
theorem dX7_dress_61 : decode cX7_dress 61 = .ok (.iadd, 1) := by decide +kernel
set_option maxRecDepth 20000 in
theorem dX7_dress_62 : decode cX7_dress 62 = .ok (.istore 4, 2) := by decide +kernel
set_option maxRecDepth 20000 in
theorem dX7_dress_64 : decode cX7_dress 64 = .ok (.aload_n 0, 1) := by decide +kernel
set_option maxRecDepth 20000 in
theorem dX7_dress_65 : decode cX7_dress 65 = .ok (.invokevirtual 55, 3) := by decide +kernel
set_option maxRecDepth 20000 in
theorem dX7_dress_68 : decode cX7_dress 68 = .ok (.aload_n 0, 1) := by decide +kernel
set_option maxRecDepth 20000 in
theorem dX7_dress_69 : decode cX7_dress 69 = .ok (.getfield 10, 3) := by decide +kernel
set_option maxRecDepth 20000 in
theorem dX7_dress_72 : decode cX7_dress 72 = .ok (.getfield 37, 3) := by decide +kernel
set_option maxRecDepth 20000 in
theorem dX7_dress_75 : decode cX7_dress 75 = .ok (.iload_n 1, 1) := by decide +kernel
set_option maxRecDepth 20000 in
theorem dX7_dress_76 : decode cX7_dress 76 = .ok (.iload_n 2, 1) := by decide +kernel
set_option maxRecDepth 20000 in
theorem dX7_dress_77 : decode cX7_dress 77 = .ok (.iload_n 3, 1) := by decide +kernel
set_option maxRecDepth 20000 in
theorem dX7_dress_78 : decode cX7_dress 78 = .ok (.invokevirtual 81, 3) := by decide +kernel
set_option maxRecDepth 20000 in
theorem dX7_dress_81 : decode cX7_dress 81 = .ok (.iload 4, 2) := by decide +kernel
set_option maxRecDepth 20000 in
theorem dX7_dress_83 : decode cX7_dress 83 = .ok (.ireturn, 1) := by decide +kernel
set_option maxRecDepth 20000 in
theorem dX7_element_0 : decode cX7_element 0 = .ok (.aload_n 0, 1) := by decide +kernel
set_option maxRecDepth 20000 in
theorem dX7_element_1 : decode cX7_element 1 = .ok (.getfield 10, 3) := by decide +kernel
set_option maxRecDepth 20000 in
theorem dX7_element_4 : decode cX7_element 4 = .ok (.getfield 37, 3) := by decide +kernel
set_option maxRecDepth 20000 in
theorem dX7_element_7 : decode cX7_element 7 = .ok (.iload_n 1, 1) := by decide +kernel
set_option maxRecDepth 20000 in
theorem dX7_element_8 : decode cX7_element 8 = .ok (.invokevirtual 41, 3) := by decide +kernel
set_option maxRecDepth 20000 in
theorem dX7_element_11 : decode cX7_element 11 = .ok (.ifCond .ne 6, 3) := by decide +kernel
set_option maxRecDepth 20000 in
theorem dX7_element_14 : decode cX7_element 14 = .ok (.bipush (-11), 2) := by decide +kernel
set_option maxRecDepth 20000 in
theorem dX7_element_16 : decode cX7_element 16 = .ok (.ireturn, 1) := by decide +kernel
set_option maxRecDepth 20000 in
theorem dX7_element_17 : decode cX7_element 17 = .ok (.iload_n 2, 1) := by decide +kernel
set_option maxRecDepth 20000 in
theorem dX7_element_18 : decode cX7_element 18 = .ok (.tableswitch 128 0 5 #[38, 59, 71, 83, 96, 112], 38) := by decide +kernel
set_option maxRecDepth 20000 in
theorem dX7_element_56 : decode cX7_element 56 = .ok (.iload_n 1, 1) := by decide +kernel
set_option maxRecDepth 20000 in
theorem dX7_element_57 : decode cX7_element 57 = .ok (.ifCond .ne 8, 3) := by decide +kernel
set_option maxRecDepth 20000 in
theorem dX7_element_60 : decode cX7_element 60 = .ok (.bipush (-14), 2) := by decide +kernel
set_option maxRecDepth 20000 in
theorem dX7_element_62 : decode cX7_element 62 = .ok (.goto 14, 3) := by decide +kernel
set_option maxRecDepth 20000 in
theorem dX7_element_65 : decode cX7_element 65 = .ok (.aload_n 0, 1) := by decide +kernel
set_option maxRecDepth 20000 in
theorem dX7_element_66 : decode cX7_element 66 = .ok (.getfield 10, 3) := by decide +kernel
set_option maxRecDepth 20000 in
theorem dX7_element_69 : decode cX7_element 69 = .ok (.getfield 37, 3) := by decide +kernel
set_option maxRecDepth 20000 in
theorem dX7_element_72 : decode cX7_element 72 = .ok (.iload_n 1, 1) := by decide +kernel
set_option maxRecDepth 20000 in
theorem dX7_element_73 : decode cX7_element 73 = .ok (.invokevirtual 85, 3) := by decide +kernel
set_option maxRecDepth 20000 in
theorem dX7_element_76 : decode cX7_element 76 = .ok (.ireturn, 1) := by decide +kernel
set_option maxRecDepth 20000 in
theorem dX7_element_77 : decode cX7_element 77 = .ok (.aload_n 0, 1) := by decide +kernel
set_option maxRecDepth 20000 in
theorem dX7_element_78 : decode cX7_element 78 = .ok (.getfield 10, 3) := by decide +kernel
set_option maxRecDepth 20000 in
theorem dX7_element_81 : decode cX7_element 81 = .ok (.getfield 37, 3) := by decide +kernel
set_option maxRecDepth 20000 in
theorem dX7_element_84 : decode cX7_element 84 = .ok (.iload_n 1, 1) := by decide +kernel
set_option maxRecDepth 20000 in
theorem dX7_element_85 : decode cX7_element 85 = .ok (.invokevirtual 74, 3) := by decide +kernel
set_option maxRecDepth 20000 in
theorem dX7_element_88 : decode cX7_element 88 = .ok (.ireturn, 1) := by decide +kernel
set_option maxRecDepth 20000 in
theorem dX7_element_89 : decode cX7_element 89 = .ok (.aload_n 0, 1) := by decide +kernel
set_option maxRecDepth 20000 in
theorem dX7_element_90 : decode cX7_element 90 = .ok (.getfield 10, 3) := by decide +kernel
set_option maxRecDepth 20000 in
theorem dX7_element_93 : decode cX7_element 93 = .ok (.getfield 37, 3) := by decide +kernel
set_option maxRecDepth 20000 in
theorem dX7_element_96 : decode cX7_element 96 = .ok (.iload_n 1, 1) := by decide +kernel
set_option maxRecDepth 20000 in
theorem dX7_element_97 : decode cX7_element 97 = .ok (.invokevirtual 78, 3) := by decide +kernel
set_option maxRecDepth 20000 in
theorem dX7_element_100 : decode cX7_element 100 = .ok (.ireturn, 1) := by decide +kernel
set_option maxRecDepth 20000 in
theorem dX7_element_101 : decode cX7_element 101 = .ok (.aload_n 0, 1) := by decide +kernel
set_option maxRecDepth 20000 in
theorem dX7_element_102 : decode cX7_element 102 = .ok (.getfield 10, 3) := by decide +kernel
set_option maxRecDepth 20000 in
theorem dX7_element_105 : decode cX7_element 105 = .ok (.getfield 37, 3) := by decide +kernel
set_option maxRecDepth 20000 in
theorem dX7_element_108 : decode cX7_element 108 = .ok (.iload_n 1, 1) := by decide +kernel
set_option maxRecDepth 20000 in
theorem dX7_element_109 : decode cX7_element 109 = .ok (.iconst 0, 1) := by decide +kernel
set_option maxRecDepth 20000 in
theorem dX7_element_110 : decode cX7_element 110 = .ok (.invokevirtual 88, 3) := by decide +kernel
set_option maxRecDepth 20000 in
theorem dX7_element_113 : decode cX7_element 113 = .ok (.ireturn, 1) := by decide +kernel
set_option maxRecDepth 20000 in
theorem dX7_element_114 : decode cX7_element 114 = .ok (.aload_n 0, 1) := by decide +kernel
set_option maxRecDepth 20000 in
theorem dX7_element_115 : decode cX7_element 115 = .ok (.getfield 26, 3) := by decide +kernel
set_option maxRecDepth 20000 in
theorem dX7_element_118 : decode cX7_element 118 = .ok (.aload_n 0, 1) := by decide +kernel
set_option maxRecDepth 20000 in
theorem dX7_element_119 : decode cX7_element 119 = .ok (.getfield 10, 3) := by decide +kernel
set_option maxRecDepth 20000 in
theorem dX7_element_122 : decode cX7_element 122 = .ok (.invokevirtual 92, 3) := by decide +kernel
set_option maxRecDepth 20000 in
theorem dX7_element_125 : decode cX7_element 125 = .ok (.iload_n 1, 1) := by decide +kernel
set_option maxRecDepth 20000 in
theorem dX7_element_126 : decode cX7_element 126 = .ok (.invokevirtual 96, 3) := by decide +kernel
set_option maxRecDepth 20000 in
theorem dX7_element_129 : decode cX7_element 129 = .ok (.ireturn, 1) := by decide +kernel
set_option maxRecDepth 20000 in
theorem dX7_element_130 : decode cX7_element 130 = .ok (.aload_n 0, 1) := by decide +kernel
set_option maxRecDepth 20000 in
theorem dX7_element_131 : decode cX7_element 131 = .ok (.getfield 26, 3) := by decide +kernel
set_option maxRecDepth 20000 in
theorem dX7_element_134 : decode cX7_element 134 = .ok (.aload_n 0, 1) := by decide +kernel
set_option maxRecDepth 20000 in
theorem dX7_element_135 : decode cX7_element 135 = .ok (.getfield 10, 3) := by decide +kernel
set_option maxRecDepth 20000 in
theorem dX7_element_138 : decode cX7_element 138 = .ok (.invokevirtual 92, 3) := by decide +kernel
set_option maxRecDepth 20000 in
theorem dX7_element_141 : decode cX7_element 141 = .ok (.iload_n 1, 1) := by decide +kernel
set_option maxRecDepth 20000 in
theorem dX7_element_142 : decode cX7_element 142 = .ok (.invokevirtual 99, 3) := by decide +kernel
set_option maxRecDepth 20000 in
theorem dX7_element_145 : decode cX7_element 145 = .ok (.ireturn, 1) := by decide +kernel
set_option maxRecDepth 20000 in
theorem dX7_element_146 : decode cX7_element 146 = .ok (.bipush (-11), 2) := by decide +kernel
set_option maxRecDepth 20000 in
theorem dX7_element_148 : decode cX7_element 148 = .ok (.ireturn, 1) := by decide +kernel
set_option maxRecDepth 20000 in
theorem dX7_count_0 : decode cX7_count 0 = .ok (.iload_n 1, 1) := by decide +kernel
set_option maxRecDepth 20000 in
theorem dX7_count_1 : decode cX7_count 1 = .ok (.tableswitch 118 0 6 #[43, 54, 65, 76, 87, 102, 110], 43) := by decide +kernel
set_option maxRecDepth 20000 in
theorem dX7_count_44 : decode cX7_count 44 = .ok (.aload_n 0, 1) := by decide +kernel
set_option maxRecDepth 20000 in
theorem dX7_count_45 : decode cX7_count 45 = .ok (.getfield 10, 3) := by decide +kernel
set_option maxRecDepth 20000 in
theorem dX7_count_48 : decode cX7_count 48 = .ok (.getfield 37, 3) := by decide +kernel
set_option maxRecDepth 20000 in
theorem dX7_count_51 : decode cX7_count 51 = .ok (.invokevirtual 51, 3) := by decide +kernel
set_option maxRecDepth 20000 in
theorem dX7_count_54 : decode cX7_count 54 = .ok (.ireturn, 1) := by decide +kernel
set_option maxRecDepth 20000 in
theorem dX7_count_55 : decode cX7_count 55 = .ok (.aload_n 0, 1) := by decide +kernel
set_option maxRecDepth 20000 in
theorem dX7_count_56 : decode cX7_count 56 = .ok (.getfield 10, 3) := by decide +kernel
set_option maxRecDepth 20000 in
theorem dX7_count_59 : decode cX7_count 59 = .ok (.getfield 62, 3) := by decide +kernel
set_option maxRecDepth 20000 in
theorem dX7_count_62 : decode cX7_count 62 = .ok (.invokevirtual 102, 3) := by decide +kernel
set_option maxRecDepth 20000 in
theorem dX7_count_65 : decode cX7_count 65 = .ok (.ireturn, 1) := by decide +kernel
set_option maxRecDepth 20000 in
theorem dX7_count_66 : decode cX7_count 66 = .ok (.aload_n 0, 1) := by decide +kernel
set_option maxRecDepth 20000 in
theorem dX7_count_67 : decode cX7_count 67 = .ok (.getfield 10, 3) := by decide +kernel
set_option maxRecDepth 20000 in
theorem dX7_count_70 : decode cX7_count 70 = .ok (.getfield 62, 3) := by decide +kernel
set_option maxRecDepth 20000 in
theorem dX7_count_73 : decode cX7_count 73 = .ok (.invokevirtual 103, 3) := by decide +kernel
set_option maxRecDepth 20000 in
theorem dX7_count_76 : decode cX7_count 76 = .ok (.ireturn, 1) := by decide +kernel
set_option maxRecDepth 20000 in
theorem dX7_count_77 : decode cX7_count 77 = .ok (.aload_n 0, 1) := by decide +kernel
set_option maxRecDepth 20000 in
theorem dX7_count_78 : decode cX7_count 78 = .ok (.getfield 10, 3) := by decide +kernel
set_option maxRecDepth 20000 in
theorem dX7_count_81 : decode cX7_count 81 = .ok (.getfield 62, 3) := by decide +kernel
set_option maxRecDepth 20000 in
theorem dX7_count_84 : decode cX7_count 84 = .ok (.invokevirtual 106, 3) := by decide +kernel
set_option maxRecDepth 20000 in
theorem dX7_count_87 : decode cX7_count 87 = .ok (.ireturn, 1) := by decide +kernel
set_option maxRecDepth 20000 in
theorem dX7_count_88 : decode cX7_count 88 = .ok (.aload_n 0, 1) := by decide +kernel
set_option maxRecDepth 20000 in
theorem dX7_count_89 : decode cX7_count 89 = .ok (.getfield 26, 3) := by decide +kernel
set_option maxRecDepth 20000 in
theorem dX7_count_92 : decode cX7_count 92 = .ok (.aload_n 0, 1) := by decide +kernel
set_option maxRecDepth 20000 in
theorem dX7_count_93 : decode cX7_count 93 = .ok (.getfield 10, 3) := by decide +kernel
set_option maxRecDepth 20000 in
theorem dX7_count_96 : decode cX7_count 96 = .ok (.invokevirtual 92, 3) := by decide +kernel
set_option maxRecDepth 20000 in
theorem dX7_count_99 : decode cX7_count 99 = .ok (.invokevirtual 109, 3) := by decide +kernel
set_option maxRecDepth 20000 in
theorem dX7_count_102 : decode cX7_count 102 = .ok (.ireturn, 1) := by decide +kernel
set_option maxRecDepth 20000 in
theorem dX7_count_103 : decode cX7_count 103 = .ok (.aload_n 0, 1) := by decide +kernel
set_option maxRecDepth 20000 in
theorem dX7_count_104 : decode cX7_count 104 = .ok (.getfield 19, 3) := by decide +kernel
set_option maxRecDepth 20000 in
theorem dX7_count_107 : decode cX7_count 107 = .ok (.invokevirtual 112, 3) := by decide +kernel
set_option maxRecDepth 20000 in
theorem dX7_count_110 : decode cX7_count 110 = .ok (.ireturn, 1) := by decide +kernel
set_option maxRecDepth 20000 in
theorem dX7_count_111 : decode cX7_count 111 = .ok (.aload_n 0, 1) := by decide +kernel
set_option maxRecDepth 20000 in
theorem dX7_count_112 : decode cX7_count 112 = .ok (.getfield 33, 3) := by decide +kernel
set_option maxRecDepth 20000 in
theorem dX7_count_115 : decode cX7_count 115 = .ok (.invokevirtual 113, 3) := by decide +kernel
set_option maxRecDepth 20000 in
theorem dX7_count_118 : decode cX7_count 118 = .ok (.ireturn, 1) := by decide +kernel
set_option maxRecDepth 20000 in
theorem dX7_count_119 : decode cX7_count 119 = .ok (.bipush (-11), 2) := by decide +kernel
set_option maxRecDepth 20000 in
theorem dX7_count_121 : decode cX7_count 121 = .ok (.ireturn, 1) := by decide +kernel
set_option maxRecDepth 20000 in
theorem dX7_undo_0 : decode cX7_undo 0 = .ok (.aload_n 0, 1) := by decide +kernel
set_option maxRecDepth 20000 in
theorem dX7_undo_1 : decode cX7_undo 1 = .ok (.getfield 19, 3) := by decide +kernel
set_option maxRecDepth 20000 in
theorem dX7_undo_4 : decode cX7_undo 4 = .ok (.invokevirtual 112, 3) := by decide +kernel
set_option maxRecDepth 20000 in
theorem dX7_undo_7 : decode cX7_undo 7 = .ok (.ifCond .gt 6, 3) := by decide +kernel
set_option maxRecDepth 20000 in
theorem dX7_undo_10 : decode cX7_undo 10 = .ok (.bipush (-12), 2) := by decide +kernel
set_option maxRecDepth 20000 in
theorem dX7_undo_12 : decode cX7_undo 12 = .ok (.ireturn, 1) := by decide +kernel
set_option maxRecDepth 20000 in
theorem dX7_undo_13 : decode cX7_undo 13 = .ok (.aload_n 0, 1) := by decide +kernel
set_option maxRecDepth 20000 in
theorem dX7_undo_14 : decode cX7_undo 14 = .ok (.getfield 19, 3) := by decide +kernel
set_option maxRecDepth 20000 in
theorem dX7_undo_17 : decode cX7_undo 17 = .ok (.aload_n 0, 1) := by decide +kernel
set_option maxRecDepth 20000 in
theorem dX7_undo_18 : decode cX7_undo 18 = .ok (.getfield 10, 3) := by decide +kernel
set_option maxRecDepth 20000 in
theorem dX7_undo_21 : decode cX7_undo 21 = .ok (.invokevirtual 116, 3) := by decide +kernel
set_option maxRecDepth 20000 in
theorem dX7_undo_24 : decode cX7_undo 24 = .ok (.aload_n 0, 1) := by decide +kernel
set_option maxRecDepth 20000 in
theorem dX7_undo_25 : decode cX7_undo 25 = .ok (.getfield 26, 3) := by decide +kernel
set_option maxRecDepth 20000 in
theorem dX7_undo_28 : decode cX7_undo 28 = .ok (.invokevirtual 120, 3) := by decide +kernel
set_option maxRecDepth 20000 in
theorem dX7_undo_31 : decode cX7_undo 31 = .ok (.aload_n 0, 1) := by decide +kernel
set_option maxRecDepth 20000 in
theorem dX7_undo_32 : decode cX7_undo 32 = .ok (.getfield 19, 3) := by decide +kernel
set_option maxRecDepth 20000 in
theorem dX7_undo_35 : decode cX7_undo 35 = .ok (.invokevirtual 112, 3) := by decide +kernel
set_option maxRecDepth 20000 in
theorem dX7_undo_38 : decode cX7_undo 38 = .ok (.ireturn, 1) := by decide +kernel
set_option maxRecDepth 20000 in
theorem dX7_rule_0 : decode cX7_rule 0 = .ok (.iload_n 1, 1) := by decide +kernel
set_option maxRecDepth 20000 in
theorem dX7_rule_1 : decode cX7_rule 1 = .ok (.iconst (-1), 1) := by decide +kernel
set_option maxRecDepth 20000 in
theorem dX7_rule_2 : decode cX7_rule 2 = .ok (.iconst 5, 1) := by decide +kernel
set_option maxRecDepth 20000 in
theorem dX7_rule_3 : decode cX7_rule 3 = .ok (.invokestatic 47, 3) := by decide +kernel
set_option maxRecDepth 20000 in
theorem dX7_rule_6 : decode cX7_rule 6 = .ok (.ifCond .eq 26, 3) := by decide +kernel
set_option maxRecDepth 20000 in
theorem dX7_rule_9 : decode cX7_rule 9 = .ok (.iload_n 2, 1) := by decide +kernel
set_option maxRecDepth 20000 in
theorem dX7_rule_10 : decode cX7_rule 10 = .ok (.iconst 0, 1) := by decide +kernel
set_option maxRecDepth 20000 in
theorem dX7_rule_11 : decode cX7_rule 11 = .ok (.bipush 15, 2) := by decide +kernel
set_option maxRecDepth 20000 in
theorem dX7_rule_13 : decode cX7_rule 13 = .ok (.invokestatic 47, 3) := by decide +kernel
set_option maxRecDepth 20000 in
theorem dX7_rule_16 : decode cX7_rule 16 = .ok (.ifCond .eq 16, 3) := by decide +kernel
set_option maxRecDepth 20000 in
theorem dX7_rule_19 : decode cX7_rule 19 = .ok (.iload_n 3, 1) := by decide +kernel
set_option maxRecDepth 20000 in
theorem dX7_rule_20 : decode cX7_rule 20 = .ok (.iconst (-1), 1) := by decide +kernel
set_option maxRecDepth 20000 in
theorem dX7_rule_21 : decode cX7_rule 21 = .ok (.iconst 5, 1) := by decide +kernel
set_option maxRecDepth 20000 in
theorem dX7_rule_22 : decode cX7_rule 22 = .ok (.invokestatic 47, 3) := by decide +kernel
set_option maxRecDepth 20000 in
theorem dX7_rule_25 : decode cX7_rule 25 = .ok (.ifCond .eq 7, 3) := by decide +kernel
set_option maxRecDepth 20000 in
theorem dX7_rule_28 : decode cX7_rule 28 = .ok (.iconst 1, 1) := by decide +kernel
set_option maxRecDepth 20000 in
theorem dX7_rule_29 : decode cX7_rule 29 = .ok (.goto 4, 3) := by decide +kernel
set_option maxRecDepth 20000 in
theorem dX7_rule_32 : decode cX7_rule 32 = .ok (.iconst 0, 1) := by decide +kernel
set_option maxRecDepth 20000 in
theorem dX7_rule_33 : decode cX7_rule 33 = .ok (.istore 7, 2) := by decide +kernel
set_option maxRecDepth 20000 in
theorem dX7_rule_35 : decode cX7_rule 35 = .ok (.iload 4, 2) := by decide +kernel
set_option maxRecDepth 20000 in
theorem dX7_rule_37 : decode cX7_rule 37 = .ok (.iconst 0, 1) := by decide +kernel
set_option maxRecDepth 20000 in
theorem dX7_rule_38 : decode cX7_rule 38 = .ok (.iconst 3, 1) := by decide +kernel
set_option maxRecDepth 20000 in
theorem dX7_rule_39 : decode cX7_rule 39 = .ok (.invokestatic 47, 3) := by decide +kernel
set_option maxRecDepth 20000 in
theorem dX7_rule_42 : decode cX7_rule 42 = .ok (.ifCond .eq 38, 3) := by decide +kernel
set_option maxRecDepth 20000 in
theorem dX7_rule_45 : decode cX7_rule 45 = .ok (.iload 6, 2) := by decide +kernel
set_option maxRecDepth 20000 in
theorem dX7_rule_47 : decode cX7_rule 47 = .ok (.iconst 0, 1) := by decide +kernel
set_option maxRecDepth 20000 in
theorem dX7_rule_48 : decode cX7_rule 48 = .ok (.iconst 1, 1) := by decide +kernel
set_option maxRecDepth 20000 in
theorem dX7_rule_49 : decode cX7_rule 49 = .ok (.invokestatic 47, 3) := by decide +kernel
set_option maxRecDepth 20000 in
theorem dX7_rule_52 : decode cX7_rule 52 = .ok (.ifCond .eq 28, 3) := by decide +kernel
set_option maxRecDepth 20000 in
theorem dX7_rule_55 : decode cX7_rule 55 = .ok (.iload 5, 2) := by decide +kernel
set_option maxRecDepth 20000 in
theorem dX7_rule_57 : decode cX7_rule 57 = .ok (.iconst (-1), 1) := by decide +kernel
set_option maxRecDepth 20000 in
theorem dX7_rule_58 : decode cX7_rule 58 = .ok (.if_icmp .eq 18, 3) := by decide +kernel
set_option maxRecDepth 20000 in
theorem dX7_rule_61 : decode cX7_rule 61 = .ok (.aload_n 0, 1) := by decide +kernel
set_option maxRecDepth 20000 in
theorem dX7_rule_62 : decode cX7_rule 62 = .ok (.getfield 10, 3) := by decide +kernel
set_option maxRecDepth 20000 in
theorem dX7_rule_65 : decode cX7_rule 65 = .ok (.getfield 37, 3) := by decide +kernel
set_option maxRecDepth 20000 in
theorem dX7_rule_68 : decode cX7_rule 68 = .ok (.iload 5, 2) := by decide +kernel
set_option maxRecDepth 20000 in
theorem dX7_rule_70 : decode cX7_rule 70 = .ok (.invokevirtual 41, 3) := by decide +kernel
set_option maxRecDepth 20000 in
theorem dX7_rule_73 : decode cX7_rule 73 = .ok (.ifCond .eq 7, 3) := by decide +kernel
set_option maxRecDepth 20000 in
theorem dX7_rule_76 : decode cX7_rule 76 = .ok (.iconst 1, 1) := by decide +kernel
set_option maxRecDepth 20000 in
theorem dX7_rule_77 : decode cX7_rule 77 = .ok (.goto 4, 3) := by decide +kernel
set_option maxRecDepth 20000 in
theorem dX7_rule_80 : decode cX7_rule 80 = .ok (.iconst 0, 1) := by decide +kernel
set_option maxRecDepth 20000 in
theorem dX7_rule_81 : decode cX7_rule 81 = .ok (.istore 8, 2) := by decide +kernel
set_option maxRecDepth 20000 in
theorem dX7_rule_83 : decode cX7_rule 83 = .ok (.iload 7, 2) := by decide +kernel
set_option maxRecDepth 20000 in
theorem dX7_rule_85 : decode cX7_rule 85 = .ok (.ifCond .eq 8, 3) := by decide +kernel
set_option maxRecDepth 20000 in
theorem dX7_rule_88 : decode cX7_rule 88 = .ok (.iload 8, 2) := by decide +kernel
set_option maxRecDepth 20000 in
theorem dX7_rule_90 : decode cX7_rule 90 = .ok (.ifCond .ne 6, 3) := by decide +kernel
set_option maxRecDepth 20000 in
theorem dX7_rule_93 : decode cX7_rule 93 = .ok (.bipush (-11), 2) := by decide +kernel
set_option maxRecDepth 20000 in
theorem dX7_rule_95 : decode cX7_rule 95 = .ok (.ireturn, 1) := by decide +kernel
set_option maxRecDepth 20000 in
theorem dX7_rule_96 : decode cX7_rule 96 = .ok (.aload_n 0, 1) := by decide +kernel
set_option maxRecDepth 20000 in
theorem dX7_rule_97 : decode cX7_rule 97 = .ok (.getfield 10, 3) := by decide +kernel
set_option maxRecDepth 20000 in
theorem dX7_rule_100 : decode cX7_rule 100 = .ok (.getfield 62, 3) := by decide +kernel
set_option maxRecDepth 20000 in
theorem dX7_rule_103 : decode cX7_rule 103 = .ok (.invokevirtual 102, 3) := by decide +kernel
set_option maxRecDepth 20000 in
theorem dX7_rule_106 : decode cX7_rule 106 = .ok (.bipush 16, 2) := by decide +kernel
set_option maxRecDepth 20000 in
theorem dX7_rule_108 : decode cX7_rule 108 = .ok (.if_icmp .lt 6, 3) := by decide +kernel
set_option maxRecDepth 20000 in
theorem dX7_rule_111 : decode cX7_rule 111 = .ok (.bipush (-13), 2) := by decide +kernel
set_option maxRecDepth 20000 in
theorem dX7_rule_113 : decode cX7_rule 113 = .ok (.ireturn, 1) := by decide +kernel
set_option maxRecDepth 20000 in
theorem dX7_rule_114 : decode cX7_rule 114 = .ok (.aload_n 0, 1) := by decide +kernel
set_option maxRecDepth 20000 in
theorem dX7_rule_115 : decode cX7_rule 115 = .ok (.invokevirtual 55, 3) := by decide +kernel
set_option maxRecDepth 20000 in
theorem dX7_rule_118 : decode cX7_rule 118 = .ok (.aload_n 0, 1) := by decide +kernel
set_option maxRecDepth 20000 in
theorem dX7_rule_119 : decode cX7_rule 119 = .ok (.getfield 10, 3) := by decide +kernel
set_option maxRecDepth 20000 in
theorem dX7_rule_122 : decode cX7_rule 122 = .ok (.getfield 62, 3) := by decide +kernel
set_option maxRecDepth 20000 in
theorem dX7_rule_125 : decode cX7_rule 125 = .ok (.iload_n 1, 1) := by decide +kernel
set_option maxRecDepth 20000 in
theorem dX7_rule_126 : decode cX7_rule 126 = .ok (.iload_n 2, 1) := by decide +kernel
set_option maxRecDepth 20000 in
theorem dX7_rule_127 : decode cX7_rule 127 = .ok (.iload_n 3, 1) := by decide +kernel
set_option maxRecDepth 20000 in
theorem dX7_rule_128 : decode cX7_rule 128 = .ok (.iload 4, 2) := by decide +kernel
set_option maxRecDepth 20000 in
theorem dX7_rule_130 : decode cX7_rule 130 = .ok (.iload 5, 2) := by decide +kernel
set_option maxRecDepth 20000 in
theorem dX7_rule_132 : decode cX7_rule 132 = .ok (.iload 6, 2) := by decide +kernel
set_option maxRecDepth 20000 in
theorem dX7_rule_134 : decode cX7_rule 134 = .ok (.invokevirtual 123, 3) := by decide +kernel
set_option maxRecDepth 20000 in
theorem dX7_rule_137 : decode cX7_rule 137 = .ok (.ireturn, 1) := by decide +kernel
set_option maxRecDepth 20000 in
theorem dX7_drop_0 : decode cX7_drop 0 = .ok (.aload_n 0, 1) := by decide +kernel
set_option maxRecDepth 20000 in
theorem dX7_drop_1 : decode cX7_drop 1 = .ok (.getfield 10, 3) := by decide +kernel
set_option maxRecDepth 20000 in
theorem dX7_drop_4 : decode cX7_drop 4 = .ok (.getfield 62, 3) := by decide +kernel
set_option maxRecDepth 20000 in
theorem dX7_drop_7 : decode cX7_drop 7 = .ok (.iload_n 1, 1) := by decide +kernel
set_option maxRecDepth 20000 in
theorem dX7_drop_8 : decode cX7_drop 8 = .ok (.invokevirtual 126, 3) := by decide +kernel
set_option maxRecDepth 20000 in
theorem dX7_drop_11 : decode cX7_drop 11 = .ok (.ifCond .ne 6, 3) := by decide +kernel
set_option maxRecDepth 20000 in
theorem dX7_drop_14 : decode cX7_drop 14 = .ok (.bipush (-11), 2) := by decide +kernel
set_option maxRecDepth 20000 in
theorem dX7_drop_16 : decode cX7_drop 16 = .ok (.ireturn, 1) := by decide +kernel
set_option maxRecDepth 20000 in
theorem dX7_drop_17 : decode cX7_drop 17 = .ok (.aload_n 0, 1) := by decide +kernel
set_option maxRecDepth 20000 in
theorem dX7_drop_18 : decode cX7_drop 18 = .ok (.invokevirtual 55, 3) := by decide +kernel
set_option maxRecDepth 20000 in
theorem dX7_drop_21 : decode cX7_drop 21 = .ok (.aload_n 0, 1) := by decide +kernel
set_option maxRecDepth 20000 in
theorem dX7_drop_22 : decode cX7_drop 22 = .ok (.getfield 10, 3) := by decide +kernel
set_option maxRecDepth 20000 in
theorem dX7_drop_25 : decode cX7_drop 25 = .ok (.getfield 62, 3) := by decide +kernel
set_option maxRecDepth 20000 in
theorem dX7_drop_28 : decode cX7_drop 28 = .ok (.iload_n 1, 1) := by decide +kernel
set_option maxRecDepth 20000 in
theorem dX7_drop_29 : decode cX7_drop 29 = .ok (.invokevirtual 127, 3) := by decide +kernel
set_option maxRecDepth 20000 in
theorem dX7_drop_32 : decode cX7_drop 32 = .ok (.ireturn, 1) := by decide +kernel
set_option maxRecDepth 20000 in
theorem dX7_declare_0 : decode cX7_declare 0 = .ok (.aload_n 0, 1) := by decide +kernel
set_option maxRecDepth 20000 in
theorem dX7_declare_1 : decode cX7_declare 1 = .ok (.getfield 10, 3) := by decide +kernel
set_option maxRecDepth 20000 in
theorem dX7_declare_4 : decode cX7_declare 4 = .ok (.getfield 62, 3) := by decide +kernel
set_option maxRecDepth 20000 in
theorem dX7_declare_7 : decode cX7_declare 7 = .ok (.iload_n 1, 1) := by decide +kernel
set_option maxRecDepth 20000 in
theorem dX7_declare_8 : decode cX7_declare 8 = .ok (.invokevirtual 126, 3) := by decide +kernel
set_option maxRecDepth 20000 in
theorem dX7_declare_11 : decode cX7_declare 11 = .ok (.ifCond .eq 21, 3) := by decide +kernel
set_option maxRecDepth 20000 in
theorem dX7_declare_14 : decode cX7_declare 14 = .ok (.iload_n 2, 1) := by decide +kernel
set_option maxRecDepth 20000 in
theorem dX7_declare_15 : decode cX7_declare 15 = .ok (.invokestatic 130, 3) := by decide +kernel
set_option maxRecDepth 20000 in
theorem dX7_declare_18 : decode cX7_declare 18 = .ok (.ifCond .eq 14, 3) := by decide +kernel
set_option maxRecDepth 20000 in
theorem dX7_declare_21 : decode cX7_declare 21 = .ok (.iload_n 3, 1) := by decide +kernel
set_option maxRecDepth 20000 in
theorem dX7_declare_22 : decode cX7_declare 22 = .ok (.iconst 0, 1) := by decide +kernel
set_option maxRecDepth 20000 in
theorem dX7_declare_23 : decode cX7_declare 23 = .ok (.sipush 999, 3) := by decide +kernel
set_option maxRecDepth 20000 in
theorem dX7_declare_26 : decode cX7_declare 26 = .ok (.invokestatic 47, 3) := by decide +kernel
set_option maxRecDepth 20000 in
theorem dX7_declare_29 : decode cX7_declare 29 = .ok (.ifCond .ne 6, 3) := by decide +kernel
set_option maxRecDepth 20000 in
theorem dX7_declare_32 : decode cX7_declare 32 = .ok (.bipush (-11), 2) := by decide +kernel
set_option maxRecDepth 20000 in
theorem dX7_declare_34 : decode cX7_declare 34 = .ok (.ireturn, 1) := by decide +kernel
set_option maxRecDepth 20000 in
theorem dX7_declare_35 : decode cX7_declare 35 = .ok (.aload_n 0, 1) := by decide +kernel
set_option maxRecDepth 20000 in
theorem dX7_declare_36 : decode cX7_declare 36 = .ok (.invokevirtual 55, 3) := by decide +kernel
set_option maxRecDepth 20000 in
theorem dX7_declare_39 : decode cX7_declare 39 = .ok (.aload_n 0, 1) := by decide +kernel
set_option maxRecDepth 20000 in
theorem dX7_declare_40 : decode cX7_declare 40 = .ok (.getfield 10, 3) := by decide +kernel
set_option maxRecDepth 20000 in
theorem dX7_declare_43 : decode cX7_declare 43 = .ok (.getfield 62, 3) := by decide +kernel
set_option maxRecDepth 20000 in
theorem dX7_declare_46 : decode cX7_declare 46 = .ok (.iload_n 1, 1) := by decide +kernel
set_option maxRecDepth 20000 in
theorem dX7_declare_47 : decode cX7_declare 47 = .ok (.iload_n 2, 1) := by decide +kernel
set_option maxRecDepth 20000 in
theorem dX7_declare_48 : decode cX7_declare 48 = .ok (.iload_n 3, 1) := by decide +kernel
set_option maxRecDepth 20000 in
theorem dX7_declare_49 : decode cX7_declare 49 = .ok (.iconst (-1), 1) := by decide +kernel
set_option maxRecDepth 20000 in
theorem dX7_declare_50 : decode cX7_declare 50 = .ok (.iconst (-1), 1) := by decide +kernel
set_option maxRecDepth 20000 in
theorem dX7_declare_51 : decode cX7_declare 51 = .ok (.invokevirtual 133, 3) := by decide +kernel
set_option maxRecDepth 20000 in
theorem dX7_declare_54 : decode cX7_declare 54 = .ok (.aload_n 0, 1) := by decide +kernel
set_option maxRecDepth 20000 in
theorem dX7_declare_55 : decode cX7_declare 55 = .ok (.getfield 10, 3) := by decide +kernel
set_option maxRecDepth 20000 in
theorem dX7_declare_58 : decode cX7_declare 58 = .ok (.getfield 62, 3) := by decide +kernel
set_option maxRecDepth 20000 in
theorem dX7_declare_61 : decode cX7_declare 61 = .ok (.iload_n 1, 1) := by decide +kernel
set_option maxRecDepth 20000 in
theorem dX7_declare_62 : decode cX7_declare 62 = .ok (.invokevirtual 137, 3) := by decide +kernel
set_option maxRecDepth 20000 in
theorem dX7_declare_65 : decode cX7_declare 65 = .ok (.ireturn, 1) := by decide +kernel
set_option maxRecDepth 20000 in
theorem dX7_refer_0 : decode cX7_refer 0 = .ok (.aload_n 0, 1) := by decide +kernel
set_option maxRecDepth 20000 in
theorem dX7_refer_1 : decode cX7_refer 1 = .ok (.getfield 10, 3) := by decide +kernel
set_option maxRecDepth 20000 in
theorem dX7_refer_4 : decode cX7_refer 4 = .ok (.getfield 62, 3) := by decide +kernel
set_option maxRecDepth 20000 in
theorem dX7_refer_7 : decode cX7_refer 7 = .ok (.iload_n 1, 1) := by decide +kernel
set_option maxRecDepth 20000 in
theorem dX7_refer_8 : decode cX7_refer 8 = .ok (.invokevirtual 126, 3) := by decide +kernel
set_option maxRecDepth 20000 in
theorem dX7_refer_11 : decode cX7_refer 11 = .ok (.ifCond .eq 29, 3) := by decide +kernel
set_option maxRecDepth 20000 in
theorem dX7_refer_14 : decode cX7_refer 14 = .ok (.iload_n 2, 1) := by decide +kernel
set_option maxRecDepth 20000 in
theorem dX7_refer_15 : decode cX7_refer 15 = .ok (.invokestatic 130, 3) := by decide +kernel
set_option maxRecDepth 20000 in
theorem dX7_refer_18 : decode cX7_refer 18 = .ok (.ifCond .eq 22, 3) := by decide +kernel
set_option maxRecDepth 20000 in
theorem dX7_refer_21 : decode cX7_refer 21 = .ok (.iload_n 3, 1) := by decide +kernel
set_option maxRecDepth 20000 in
theorem dX7_refer_22 : decode cX7_refer 22 = .ok (.invokestatic 140, 3) := by decide +kernel
set_option maxRecDepth 20000 in
theorem dX7_refer_25 : decode cX7_refer 25 = .ok (.ifCond .eq 15, 3) := by decide +kernel
set_option maxRecDepth 20000 in
theorem dX7_refer_28 : decode cX7_refer 28 = .ok (.iload 4, 2) := by decide +kernel
set_option maxRecDepth 20000 in
theorem dX7_refer_30 : decode cX7_refer 30 = .ok (.iconst (-1), 1) := by decide +kernel
set_option maxRecDepth 20000 in
theorem dX7_refer_31 : decode cX7_refer 31 = .ok (.sipush 999, 3) := by decide +kernel
set_option maxRecDepth 20000 in
theorem dX7_refer_34 : decode cX7_refer 34 = .ok (.invokestatic 47, 3) := by decide +kernel
set_option maxRecDepth 20000 in
theorem dX7_refer_37 : decode cX7_refer 37 = .ok (.ifCond .ne 6, 3) := by decide +kernel
set_option maxRecDepth 20000 in
theorem dX7_refer_40 : decode cX7_refer 40 = .ok (.bipush (-11), 2) := by decide +kernel
set_option maxRecDepth 20000 in
theorem dX7_refer_42 : decode cX7_refer 42 = .ok (.ireturn, 1) := by decide +kernel
set_option maxRecDepth 20000 in
theorem dX7_refer_43 : decode cX7_refer 43 = .ok (.aload_n 0, 1) := by decide +kernel
set_option maxRecDepth 20000 in
theorem dX7_refer_44 : decode cX7_refer 44 = .ok (.invokevirtual 55, 3) := by decide +kernel
set_option maxRecDepth 20000 in
theorem dX7_refer_47 : decode cX7_refer 47 = .ok (.aload_n 0, 1) := by decide +kernel
set_option maxRecDepth 20000 in
theorem dX7_refer_48 : decode cX7_refer 48 = .ok (.getfield 10, 3) := by decide +kernel
set_option maxRecDepth 20000 in
theorem dX7_refer_51 : decode cX7_refer 51 = .ok (.getfield 62, 3) := by decide +kernel
set_option maxRecDepth 20000 in
theorem dX7_refer_54 : decode cX7_refer 54 = .ok (.iload_n 1, 1) := by decide +kernel
set_option maxRecDepth 20000 in
theorem dX7_refer_55 : decode cX7_refer 55 = .ok (.iload_n 2, 1) := by decide +kernel
set_option maxRecDepth 20000 in
theorem dX7_refer_56 : decode cX7_refer 56 = .ok (.iconst (-1), 1) := by decide +kernel
set_option maxRecDepth 20000 in
theorem dX7_refer_57 : decode cX7_refer 57 = .ok (.iload_n 3, 1) := by decide +kernel
set_option maxRecDepth 20000 in
theorem dX7_refer_58 : decode cX7_refer 58 = .ok (.iload 4, 2) := by decide +kernel
set_option maxRecDepth 20000 in
theorem dX7_refer_60 : decode cX7_refer 60 = .ok (.invokevirtual 133, 3) := by decide +kernel
set_option maxRecDepth 20000 in
theorem dX7_refer_63 : decode cX7_refer 63 = .ok (.aload_n 0, 1) := by decide +kernel
set_option maxRecDepth 20000 in
theorem dX7_refer_64 : decode cX7_refer 64 = .ok (.getfield 10, 3) := by decide +kernel
set_option maxRecDepth 20000 in
theorem dX7_refer_67 : decode cX7_refer 67 = .ok (.getfield 62, 3) := by decide +kernel
set_option maxRecDepth 20000 in
theorem dX7_refer_70 : decode cX7_refer 70 = .ok (.iload_n 1, 1) := by decide +kernel
set_option maxRecDepth 20000 in
theorem dX7_refer_71 : decode cX7_refer 71 = .ok (.invokevirtual 137, 3) := by decide +kernel
set_option maxRecDepth 20000 in
theorem dX7_refer_74 : decode cX7_refer 74 = .ok (.ireturn, 1) := by decide +kernel
set_option maxRecDepth 20000 in
theorem dX7_undeclare_0 : decode cX7_undeclare 0 = .ok (.aload_n 0, 1) := by decide +kernel
set_option maxRecDepth 20000 in
theorem dX7_undeclare_1 : decode cX7_undeclare 1 = .ok (.getfield 10, 3) := by decide +kernel
set_option maxRecDepth 20000 in
theorem dX7_undeclare_4 : decode cX7_undeclare 4 = .ok (.getfield 62, 3) := by decide +kernel
set_option maxRecDepth 20000 in
theorem dX7_undeclare_7 : decode cX7_undeclare 7 = .ok (.iload_n 1, 1) := by decide +kernel
set_option maxRecDepth 20000 in
theorem dX7_undeclare_8 : decode cX7_undeclare 8 = .ok (.invokevirtual 126, 3) := by decide +kernel
set_option maxRecDepth 20000 in
theorem dX7_undeclare_11 : decode cX7_undeclare 11 = .ok (.ifCond .eq 10, 3) := by decide +kernel
set_option maxRecDepth 20000 in
theorem dX7_undeclare_14 : decode cX7_undeclare 14 = .ok (.iload_n 2, 1) := by decide +kernel
set_option maxRecDepth 20000 in
theorem dX7_undeclare_15 : decode cX7_undeclare 15 = .ok (.invokestatic 130, 3) := by decide +kernel
set_option maxRecDepth 20000 in
theorem dX7_undeclare_18 : decode cX7_undeclare 18 = .ok (.ifCond .ne 6, 3) := by decide +kernel
set_option maxRecDepth 20000 in
theorem dX7_undeclare_21 : decode cX7_undeclare 21 = .ok (.bipush (-11), 2) := by decide +kernel
set_option maxRecDepth 20000 in
theorem dX7_undeclare_23 : decode cX7_undeclare 23 = .ok (.ireturn, 1) := by decide +kernel
set_option maxRecDepth 20000 in
theorem dX7_undeclare_24 : decode cX7_undeclare 24 = .ok (.aload_n 0, 1) := by decide +kernel
set_option maxRecDepth 20000 in
theorem dX7_undeclare_25 : decode cX7_undeclare 25 = .ok (.getfield 10, 3) := by decide +kernel
set_option maxRecDepth 20000 in
theorem dX7_undeclare_28 : decode cX7_undeclare 28 = .ok (.getfield 62, 3) := by decide +kernel
set_option maxRecDepth 20000 in
theorem dX7_undeclare_31 : decode cX7_undeclare 31 = .ok (.iload_n 1, 1) := by decide +kernel
set_option maxRecDepth 20000 in
theorem dX7_undeclare_32 : decode cX7_undeclare 32 = .ok (.iload_n 2, 1) := by decide +kernel
set_option maxRecDepth 20000 in
theorem dX7_undeclare_33 : decode cX7_undeclare 33 = .ok (.invokevirtual 143, 3) := by decide +kernel
set_option maxRecDepth 20000 in
theorem dX7_undeclare_36 : decode cX7_undeclare 36 = .ok (.ifCond .ne 6, 3) := by decide +kernel
set_option maxRecDepth 20000 in
theorem dX7_undeclare_39 : decode cX7_undeclare 39 = .ok (.bipush (-12), 2) := by decide +kernel
set_option maxRecDepth 20000 in
theorem dX7_undeclare_41 : decode cX7_undeclare 41 = .ok (.ireturn, 1) := by decide +kernel
set_option maxRecDepth 20000 in
theorem dX7_undeclare_42 : decode cX7_undeclare 42 = .ok (.aload_n 0, 1) := by decide +kernel
set_option maxRecDepth 20000 in
theorem dX7_undeclare_43 : decode cX7_undeclare 43 = .ok (.invokevirtual 55, 3) := by decide +kernel
set_option maxRecDepth 20000 in
theorem dX7_undeclare_46 : decode cX7_undeclare 46 = .ok (.aload_n 0, 1) := by decide +kernel
set_option maxRecDepth 20000 in
theorem dX7_undeclare_47 : decode cX7_undeclare 47 = .ok (.getfield 10, 3) := by decide +kernel
set_option maxRecDepth 20000 in
theorem dX7_undeclare_50 : decode cX7_undeclare 50 = .ok (.getfield 62, 3) := by decide +kernel
set_option maxRecDepth 20000 in
theorem dX7_undeclare_53 : decode cX7_undeclare 53 = .ok (.iload_n 1, 1) := by decide +kernel
set_option maxRecDepth 20000 in
theorem dX7_undeclare_54 : decode cX7_undeclare 54 = .ok (.iload_n 2, 1) := by decide +kernel
set_option maxRecDepth 20000 in
theorem dX7_undeclare_55 : decode cX7_undeclare 55 = .ok (.iconst (-1), 1) := by decide +kernel
set_option maxRecDepth 20000 in
theorem dX7_undeclare_56 : decode cX7_undeclare 56 = .ok (.iconst (-1), 1) := by decide +kernel
set_option maxRecDepth 20000 in
theorem dX7_undeclare_57 : decode cX7_undeclare 57 = .ok (.iconst (-1), 1) := by decide +kernel
set_option maxRecDepth 20000 in
theorem dX7_undeclare_58 : decode cX7_undeclare 58 = .ok (.invokevirtual 133, 3) := by decide +kernel
set_option maxRecDepth 20000 in
theorem dX7_undeclare_61 : decode cX7_undeclare 61 = .ok (.aload_n 0, 1) := by decide +kernel
set_option maxRecDepth 20000 in
theorem dX7_undeclare_62 : decode cX7_undeclare 62 = .ok (.getfield 10, 3) := by decide +kernel
set_option maxRecDepth 20000 in
theorem dX7_undeclare_65 : decode cX7_undeclare 65 = .ok (.getfield 62, 3) := by decide +kernel
set_option maxRecDepth 20000 in
theorem dX7_undeclare_68 : decode cX7_undeclare 68 = .ok (.iload_n 1, 1) := by decide +kernel
set_option maxRecDepth 20000 in
theorem dX7_undeclare_69 : decode cX7_undeclare 69 = .ok (.invokevirtual 137, 3) := by decide +kernel
set_option maxRecDepth 20000 in
theorem dX7_undeclare_72 : decode cX7_undeclare 72 = .ok (.ireturn, 1) := by decide +kernel
set_option maxRecDepth 20000 in
theorem dX7_ruleOf_0 : decode cX7_ruleOf 0 = .ok (.aload_n 0, 1) := by decide +kernel
set_option maxRecDepth 20000 in
theorem dX7_ruleOf_1 : decode cX7_ruleOf 1 = .ok (.getfield 10, 3) := by decide +kernel
set_option maxRecDepth 20000 in
theorem dX7_ruleOf_4 : decode cX7_ruleOf 4 = .ok (.getfield 62, 3) := by decide +kernel
set_option maxRecDepth 20000 in
theorem dX7_ruleOf_7 : decode cX7_ruleOf 7 = .ok (.iload_n 1, 1) := by decide +kernel
set_option maxRecDepth 20000 in
theorem dX7_ruleOf_8 : decode cX7_ruleOf 8 = .ok (.invokevirtual 126, 3) := by decide +kernel
set_option maxRecDepth 20000 in
theorem dX7_ruleOf_11 : decode cX7_ruleOf 11 = .ok (.ifCond .ne 6, 3) := by decide +kernel
set_option maxRecDepth 20000 in
theorem dX7_ruleOf_14 : decode cX7_ruleOf 14 = .ok (.bipush (-11), 2) := by decide +kernel
set_option maxRecDepth 20000 in
theorem dX7_ruleOf_16 : decode cX7_ruleOf 16 = .ok (.ireturn, 1) := by decide +kernel
set_option maxRecDepth 20000 in
theorem dX7_ruleOf_17 : decode cX7_ruleOf 17 = .ok (.iload_n 2, 1) := by decide +kernel
set_option maxRecDepth 20000 in
theorem dX7_ruleOf_18 : decode cX7_ruleOf 18 = .ok (.tableswitch 103 0 8 #[50, 50, 50, 50, 50, 50, 63, 75, 87], 50) := by decide +kernel
set_option maxRecDepth 20000 in
theorem dX7_ruleOf_68 : decode cX7_ruleOf 68 = .ok (.aload_n 0, 1) := by decide +kernel
set_option maxRecDepth 20000 in
theorem dX7_ruleOf_69 : decode cX7_ruleOf 69 = .ok (.getfield 10, 3) := by decide +kernel
set_option maxRecDepth 20000 in
theorem dX7_ruleOf_72 : decode cX7_ruleOf 72 = .ok (.getfield 62, 3) := by decide +kernel
set_option maxRecDepth 20000 in
theorem dX7_ruleOf_75 : decode cX7_ruleOf 75 = .ok (.iload_n 1, 1) := by decide +kernel
set_option maxRecDepth 20000 in
theorem dX7_ruleOf_76 : decode cX7_ruleOf 76 = .ok (.iload_n 2, 1) := by decide +kernel
set_option maxRecDepth 20000 in
theorem dX7_ruleOf_77 : decode cX7_ruleOf 77 = .ok (.invokevirtual 147, 3) := by decide +kernel
set_option maxRecDepth 20000 in
theorem dX7_ruleOf_80 : decode cX7_ruleOf 80 = .ok (.ireturn, 1) := by decide +kernel
set_option maxRecDepth 20000 in
theorem dX7_ruleOf_81 : decode cX7_ruleOf 81 = .ok (.aload_n 0, 1) := by decide +kernel
set_option maxRecDepth 20000 in
theorem dX7_ruleOf_82 : decode cX7_ruleOf 82 = .ok (.getfield 10, 3) := by decide +kernel
set_option maxRecDepth 20000 in
theorem dX7_ruleOf_85 : decode cX7_ruleOf 85 = .ok (.getfield 62, 3) := by decide +kernel
set_option maxRecDepth 20000 in
theorem dX7_ruleOf_88 : decode cX7_ruleOf 88 = .ok (.iload_n 1, 1) := by decide +kernel
set_option maxRecDepth 20000 in
theorem dX7_ruleOf_89 : decode cX7_ruleOf 89 = .ok (.invokevirtual 150, 3) := by decide +kernel
set_option maxRecDepth 20000 in
theorem dX7_ruleOf_92 : decode cX7_ruleOf 92 = .ok (.ireturn, 1) := by decide +kernel
set_option maxRecDepth 20000 in
theorem dX7_ruleOf_93 : decode cX7_ruleOf 93 = .ok (.aload_n 0, 1) := by decide +kernel
set_option maxRecDepth 20000 in
theorem dX7_ruleOf_94 : decode cX7_ruleOf 94 = .ok (.getfield 10, 3) := by decide +kernel
set_option maxRecDepth 20000 in
theorem dX7_ruleOf_97 : decode cX7_ruleOf 97 = .ok (.getfield 62, 3) := by decide +kernel
set_option maxRecDepth 20000 in
theorem dX7_ruleOf_100 : decode cX7_ruleOf 100 = .ok (.iload_n 1, 1) := by decide +kernel
set_option maxRecDepth 20000 in
theorem dX7_ruleOf_101 : decode cX7_ruleOf 101 = .ok (.invokevirtual 137, 3) := by decide +kernel
set_option maxRecDepth 20000 in
theorem dX7_ruleOf_104 : decode cX7_ruleOf 104 = .ok (.ireturn, 1) := by decide +kernel
set_option maxRecDepth 20000 in
theorem dX7_ruleOf_105 : decode cX7_ruleOf 105 = .ok (.aload_n 0, 1) := by decide +kernel
set_option maxRecDepth 20000 in
theorem dX7_ruleOf_106 : decode cX7_ruleOf 106 = .ok (.getfield 26, 3) := by decide +kernel
set_option maxRecDepth 20000 in
theorem dX7_ruleOf_109 : decode cX7_ruleOf 109 = .ok (.aload_n 0, 1) := by decide +kernel
set_option maxRecDepth 20000 in
theorem dX7_ruleOf_110 : decode cX7_ruleOf 110 = .ok (.getfield 10, 3) := by decide +kernel
set_option maxRecDepth 20000 in
theorem dX7_ruleOf_113 : decode cX7_ruleOf 113 = .ok (.invokevirtual 92, 3) := by decide +kernel
set_option maxRecDepth 20000 in
theorem dX7_ruleOf_116 : decode cX7_ruleOf 116 = .ok (.iload_n 1, 1) := by decide +kernel
set_option maxRecDepth 20000 in
theorem dX7_ruleOf_117 : decode cX7_ruleOf 117 = .ok (.invokevirtual 153, 3) := by decide +kernel
set_option maxRecDepth 20000 in
theorem dX7_ruleOf_120 : decode cX7_ruleOf 120 = .ok (.ireturn, 1) := by decide +kernel
set_option maxRecDepth 20000 in
theorem dX7_ruleOf_121 : decode cX7_ruleOf 121 = .ok (.bipush (-11), 2) := by decide +kernel
set_option maxRecDepth 20000 in
theorem dX7_ruleOf_123 : decode cX7_ruleOf 123 = .ok (.ireturn, 1) := by decide +kernel
set_option maxRecDepth 20000 in
theorem dX7_declared_0 : decode cX7_declared 0 = .ok (.aload_n 0, 1) := by decide +kernel
set_option maxRecDepth 20000 in
theorem dX7_declared_1 : decode cX7_declared 1 = .ok (.getfield 10, 3) := by decide +kernel
set_option maxRecDepth 20000 in
theorem dX7_declared_4 : decode cX7_declared 4 = .ok (.getfield 62, 3) := by decide +kernel
set_option maxRecDepth 20000 in
theorem dX7_declared_7 : decode cX7_declared 7 = .ok (.iload_n 1, 1) := by decide +kernel
set_option maxRecDepth 20000 in
theorem dX7_declared_8 : decode cX7_declared 8 = .ok (.invokevirtual 126, 3) := by decide +kernel
set_option maxRecDepth 20000 in
theorem dX7_declared_11 : decode cX7_declared 11 = .ok (.ifCond .eq 19, 3) := by decide +kernel
set_option maxRecDepth 20000 in
theorem dX7_declared_14 : decode cX7_declared 14 = .ok (.iload_n 2, 1) := by decide +kernel
set_option maxRecDepth 20000 in
theorem dX7_declared_15 : decode cX7_declared 15 = .ok (.invokestatic 130, 3) := by decide +kernel
set_option maxRecDepth 20000 in
theorem dX7_declared_18 : decode cX7_declared 18 = .ok (.ifCond .eq 12, 3) := by decide +kernel
set_option maxRecDepth 20000 in
theorem dX7_declared_21 : decode cX7_declared 21 = .ok (.iload_n 3, 1) := by decide +kernel
set_option maxRecDepth 20000 in
theorem dX7_declared_22 : decode cX7_declared 22 = .ok (.iconst 0, 1) := by decide +kernel
set_option maxRecDepth 20000 in
theorem dX7_declared_23 : decode cX7_declared 23 = .ok (.iconst 2, 1) := by decide +kernel
set_option maxRecDepth 20000 in
theorem dX7_declared_24 : decode cX7_declared 24 = .ok (.invokestatic 47, 3) := by decide +kernel
set_option maxRecDepth 20000 in
theorem dX7_declared_27 : decode cX7_declared 27 = .ok (.ifCond .ne 6, 3) := by decide +kernel
set_option maxRecDepth 20000 in
theorem dX7_declared_30 : decode cX7_declared 30 = .ok (.bipush (-11), 2) := by decide +kernel
set_option maxRecDepth 20000 in
theorem dX7_declared_32 : decode cX7_declared 32 = .ok (.ireturn, 1) := by decide +kernel
set_option maxRecDepth 20000 in
theorem dX7_declared_33 : decode cX7_declared 33 = .ok (.aload_n 0, 1) := by decide +kernel
set_option maxRecDepth 20000 in
theorem dX7_declared_34 : decode cX7_declared 34 = .ok (.getfield 10, 3) := by decide +kernel
set_option maxRecDepth 20000 in
theorem dX7_declared_37 : decode cX7_declared 37 = .ok (.getfield 62, 3) := by decide +kernel
set_option maxRecDepth 20000 in
theorem dX7_declared_40 : decode cX7_declared 40 = .ok (.iload_n 1, 1) := by decide +kernel
set_option maxRecDepth 20000 in
theorem dX7_declared_41 : decode cX7_declared 41 = .ok (.iload_n 2, 1) := by decide +kernel
set_option maxRecDepth 20000 in
theorem dX7_declared_42 : decode cX7_declared 42 = .ok (.iload_n 3, 1) := by decide +kernel
set_option maxRecDepth 20000 in
theorem dX7_declared_43 : decode cX7_declared 43 = .ok (.invokevirtual 156, 3) := by decide +kernel
set_option maxRecDepth 20000 in
theorem dX7_declared_46 : decode cX7_declared 46 = .ok (.bipush (-14), 2) := by decide +kernel
set_option maxRecDepth 20000 in
theorem dX7_declared_48 : decode cX7_declared 48 = .ok (.invokestatic 159, 3) := by decide +kernel
set_option maxRecDepth 20000 in
theorem dX7_declared_51 : decode cX7_declared 51 = .ok (.ireturn, 1) := by decide +kernel
set_option maxRecDepth 20000 in
theorem dX7_matches_0 : decode cX7_matches 0 = .ok (.aload_n 0, 1) := by decide +kernel
set_option maxRecDepth 20000 in
theorem dX7_matches_1 : decode cX7_matches 1 = .ok (.getfield 10, 3) := by decide +kernel
set_option maxRecDepth 20000 in
theorem dX7_matches_4 : decode cX7_matches 4 = .ok (.getfield 62, 3) := by decide +kernel
set_option maxRecDepth 20000 in
theorem dX7_matches_7 : decode cX7_matches 7 = .ok (.iload_n 1, 1) := by decide +kernel
set_option maxRecDepth 20000 in
theorem dX7_matches_8 : decode cX7_matches 8 = .ok (.invokevirtual 126, 3) := by decide +kernel
set_option maxRecDepth 20000 in
theorem dX7_matches_11 : decode cX7_matches 11 = .ok (.ifCond .eq 17, 3) := by decide +kernel
set_option maxRecDepth 20000 in
theorem dX7_matches_14 : decode cX7_matches 14 = .ok (.aload_n 0, 1) := by decide +kernel
set_option maxRecDepth 20000 in
theorem dX7_matches_15 : decode cX7_matches 15 = .ok (.getfield 10, 3) := by decide +kernel
set_option maxRecDepth 20000 in
theorem dX7_matches_18 : decode cX7_matches 18 = .ok (.getfield 37, 3) := by decide +kernel
set_option maxRecDepth 20000 in
theorem dX7_matches_21 : decode cX7_matches 21 = .ok (.iload_n 2, 1) := by decide +kernel
set_option maxRecDepth 20000 in
theorem dX7_matches_22 : decode cX7_matches 22 = .ok (.invokevirtual 41, 3) := by decide +kernel
set_option maxRecDepth 20000 in
theorem dX7_matches_25 : decode cX7_matches 25 = .ok (.ifCond .ne 6, 3) := by decide +kernel
set_option maxRecDepth 20000 in
theorem dX7_matches_28 : decode cX7_matches 28 = .ok (.bipush (-11), 2) := by decide +kernel
set_option maxRecDepth 20000 in
theorem dX7_matches_30 : decode cX7_matches 30 = .ok (.ireturn, 1) := by decide +kernel
set_option maxRecDepth 20000 in
theorem dX7_matches_31 : decode cX7_matches 31 = .ok (.aload_n 0, 1) := by decide +kernel
set_option maxRecDepth 20000 in
theorem dX7_matches_32 : decode cX7_matches 32 = .ok (.getfield 26, 3) := by decide +kernel
set_option maxRecDepth 20000 in
theorem dX7_matches_35 : decode cX7_matches 35 = .ok (.aload_n 0, 1) := by decide +kernel
set_option maxRecDepth 20000 in
theorem dX7_matches_36 : decode cX7_matches 36 = .ok (.getfield 10, 3) := by decide +kernel
set_option maxRecDepth 20000 in
theorem dX7_matches_39 : decode cX7_matches 39 = .ok (.invokevirtual 92, 3) := by decide +kernel
set_option maxRecDepth 20000 in
theorem dX7_matches_42 : decode cX7_matches 42 = .ok (.iload_n 1, 1) := by decide +kernel
set_option maxRecDepth 20000 in
theorem dX7_matches_43 : decode cX7_matches 43 = .ok (.iload_n 2, 1) := by decide +kernel
set_option maxRecDepth 20000 in
theorem dX7_matches_44 : decode cX7_matches 44 = .ok (.invokevirtual 162, 3) := by decide +kernel
set_option maxRecDepth 20000 in
theorem dX7_matches_47 : decode cX7_matches 47 = .ok (.ifCond .eq 7, 3) := by decide +kernel
set_option maxRecDepth 20000 in
theorem dX7_matches_50 : decode cX7_matches 50 = .ok (.iconst 1, 1) := by decide +kernel
set_option maxRecDepth 20000 in
theorem dX7_matches_51 : decode cX7_matches 51 = .ok (.goto 4, 3) := by decide +kernel
set_option maxRecDepth 20000 in
theorem dX7_matches_54 : decode cX7_matches 54 = .ok (.iconst 0, 1) := by decide +kernel
set_option maxRecDepth 20000 in
theorem dX7_matches_55 : decode cX7_matches 55 = .ok (.ireturn, 1) := by decide +kernel
set_option maxRecDepth 20000 in
theorem dX7_value_0 : decode cX7_value 0 = .ok (.aload_n 0, 1) := by decide +kernel
set_option maxRecDepth 20000 in
theorem dX7_value_1 : decode cX7_value 1 = .ok (.getfield 10, 3) := by decide +kernel
set_option maxRecDepth 20000 in
theorem dX7_value_4 : decode cX7_value 4 = .ok (.getfield 37, 3) := by decide +kernel
set_option maxRecDepth 20000 in
theorem dX7_value_7 : decode cX7_value 7 = .ok (.iload_n 1, 1) := by decide +kernel
set_option maxRecDepth 20000 in
theorem dX7_value_8 : decode cX7_value 8 = .ok (.invokevirtual 41, 3) := by decide +kernel
set_option maxRecDepth 20000 in
theorem dX7_value_11 : decode cX7_value 11 = .ok (.ifCond .eq 10, 3) := by decide +kernel
set_option maxRecDepth 20000 in
theorem dX7_value_14 : decode cX7_value 14 = .ok (.iload_n 2, 1) := by decide +kernel
set_option maxRecDepth 20000 in
theorem dX7_value_15 : decode cX7_value 15 = .ok (.invokestatic 130, 3) := by decide +kernel
set_option maxRecDepth 20000 in
theorem dX7_value_18 : decode cX7_value 18 = .ok (.ifCond .ne 6, 3) := by decide +kernel
set_option maxRecDepth 20000 in
theorem dX7_value_21 : decode cX7_value 21 = .ok (.bipush (-11), 2) := by decide +kernel
set_option maxRecDepth 20000 in
theorem dX7_value_23 : decode cX7_value 23 = .ok (.ireturn, 1) := by decide +kernel
set_option maxRecDepth 20000 in
theorem dX7_value_24 : decode cX7_value 24 = .ok (.aload_n 0, 1) := by decide +kernel
set_option maxRecDepth 20000 in
theorem dX7_value_25 : decode cX7_value 25 = .ok (.getfield 26, 3) := by decide +kernel
set_option maxRecDepth 20000 in
theorem dX7_value_28 : decode cX7_value 28 = .ok (.aload_n 0, 1) := by decide +kernel
set_option maxRecDepth 20000 in
theorem dX7_value_29 : decode cX7_value 29 = .ok (.getfield 10, 3) := by decide +kernel
set_option maxRecDepth 20000 in
theorem dX7_value_32 : decode cX7_value 32 = .ok (.invokevirtual 92, 3) := by decide +kernel
set_option maxRecDepth 20000 in
theorem dX7_value_35 : decode cX7_value 35 = .ok (.iload_n 1, 1) := by decide +kernel
set_option maxRecDepth 20000 in
theorem dX7_value_36 : decode cX7_value 36 = .ok (.iload_n 2, 1) := by decide +kernel
set_option maxRecDepth 20000 in
theorem dX7_value_37 : decode cX7_value 37 = .ok (.invokevirtual 165, 3) := by decide +kernel
set_option maxRecDepth 20000 in
theorem dX7_value_40 : decode cX7_value 40 = .ok (.iload_n 2, 1) := by decide +kernel
set_option maxRecDepth 20000 in
theorem dX7_value_41 : decode cX7_value 41 = .ok (.invokestatic 140, 3) := by decide +kernel
set_option maxRecDepth 20000 in
theorem dX7_value_44 : decode cX7_value 44 = .ok (.ifCond .eq 8, 3) := by decide +kernel
set_option maxRecDepth 20000 in
theorem dX7_value_47 : decode cX7_value 47 = .ok (.bipush (-14), 2) := by decide +kernel
set_option maxRecDepth 20000 in
theorem dX7_value_49 : decode cX7_value 49 = .ok (.goto 4, 3) := by decide +kernel
set_option maxRecDepth 20000 in
theorem dX7_value_52 : decode cX7_value 52 = .ok (.iconst 0, 1) := by decide +kernel
set_option maxRecDepth 20000 in
theorem dX7_value_53 : decode cX7_value 53 = .ok (.invokestatic 159, 3) := by decide +kernel
set_option maxRecDepth 20000 in
theorem dX7_value_56 : decode cX7_value 56 = .ok (.ireturn, 1) := by decide +kernel
set_option maxRecDepth 20000 in
theorem dX7_winner_0 : decode cX7_winner 0 = .ok (.aload_n 0, 1) := by decide +kernel
set_option maxRecDepth 20000 in
theorem dX7_winner_1 : decode cX7_winner 1 = .ok (.getfield 10, 3) := by decide +kernel
set_option maxRecDepth 20000 in
theorem dX7_winner_4 : decode cX7_winner 4 = .ok (.getfield 37, 3) := by decide +kernel
set_option maxRecDepth 20000 in
theorem dX7_winner_7 : decode cX7_winner 7 = .ok (.iload_n 1, 1) := by decide +kernel
set_option maxRecDepth 20000 in
theorem dX7_winner_8 : decode cX7_winner 8 = .ok (.invokevirtual 41, 3) := by decide +kernel
set_option maxRecDepth 20000 in
theorem dX7_winner_11 : decode cX7_winner 11 = .ok (.ifCond .eq 10, 3) := by decide +kernel
set_option maxRecDepth 20000 in
theorem dX7_winner_14 : decode cX7_winner 14 = .ok (.iload_n 2, 1) := by decide +kernel
set_option maxRecDepth 20000 in
theorem dX7_winner_15 : decode cX7_winner 15 = .ok (.invokestatic 130, 3) := by decide +kernel
set_option maxRecDepth 20000 in
theorem dX7_winner_18 : decode cX7_winner 18 = .ok (.ifCond .ne 6, 3) := by decide +kernel
set_option maxRecDepth 20000 in
theorem dX7_winner_21 : decode cX7_winner 21 = .ok (.bipush (-11), 2) := by decide +kernel
set_option maxRecDepth 20000 in
theorem dX7_winner_23 : decode cX7_winner 23 = .ok (.ireturn, 1) := by decide +kernel
set_option maxRecDepth 20000 in
theorem dX7_winner_24 : decode cX7_winner 24 = .ok (.aload_n 0, 1) := by decide +kernel
set_option maxRecDepth 20000 in
theorem dX7_winner_25 : decode cX7_winner 25 = .ok (.getfield 26, 3) := by decide +kernel
set_option maxRecDepth 20000 in
theorem dX7_winner_28 : decode cX7_winner 28 = .ok (.aload_n 0, 1) := by decide +kernel
set_option maxRecDepth 20000 in
theorem dX7_winner_29 : decode cX7_winner 29 = .ok (.getfield 10, 3) := by decide +kernel
set_option maxRecDepth 20000 in
theorem dX7_winner_32 : decode cX7_winner 32 = .ok (.invokevirtual 92, 3) := by decide +kernel
set_option maxRecDepth 20000 in
theorem dX7_winner_35 : decode cX7_winner 35 = .ok (.iload_n 1, 1) := by decide +kernel
set_option maxRecDepth 20000 in
theorem dX7_winner_36 : decode cX7_winner 36 = .ok (.iload_n 2, 1) := by decide +kernel
set_option maxRecDepth 20000 in
theorem dX7_winner_37 : decode cX7_winner 37 = .ok (.invokevirtual 168, 3) := by decide +kernel
set_option maxRecDepth 20000 in
theorem dX7_winner_40 : decode cX7_winner 40 = .ok (.bipush (-14), 2) := by decide +kernel
set_option maxRecDepth 20000 in
theorem dX7_winner_42 : decode cX7_winner 42 = .ok (.invokestatic 159, 3) := by decide +kernel
set_option maxRecDepth 20000 in
theorem dX7_winner_45 : decode cX7_winner 45 = .ok (.ireturn, 1) := by decide +kernel
set_option maxRecDepth 20000 in
theorem dX7_why_0 : decode cX7_why 0 = .ok (.aload_n 0, 1) := by decide +kernel
set_option maxRecDepth 20000 in
theorem dX7_why_1 : decode cX7_why 1 = .ok (.getfield 10, 3) := by decide +kernel
set_option maxRecDepth 20000 in
theorem dX7_why_4 : decode cX7_why 4 = .ok (.getfield 37, 3) := by decide +kernel
set_option maxRecDepth 20000 in
theorem dX7_why_7 : decode cX7_why 7 = .ok (.iload_n 1, 1) := by decide +kernel
set_option maxRecDepth 20000 in
theorem dX7_why_8 : decode cX7_why 8 = .ok (.invokevirtual 41, 3) := by decide +kernel
set_option maxRecDepth 20000 in
theorem dX7_why_11 : decode cX7_why 11 = .ok (.ifCond .eq 24, 3) := by decide +kernel
set_option maxRecDepth 20000 in
theorem dX7_why_14 : decode cX7_why 14 = .ok (.iload_n 2, 1) := by decide +kernel
set_option maxRecDepth 20000 in
theorem dX7_why_15 : decode cX7_why 15 = .ok (.invokestatic 130, 3) := by decide +kernel
set_option maxRecDepth 20000 in
theorem dX7_why_18 : decode cX7_why 18 = .ok (.ifCond .eq 17, 3) := by decide +kernel
set_option maxRecDepth 20000 in
theorem dX7_why_21 : decode cX7_why 21 = .ok (.iload_n 3, 1) := by decide +kernel
set_option maxRecDepth 20000 in
theorem dX7_why_22 : decode cX7_why 22 = .ok (.ifCond .lt 13, 3) := by decide +kernel
set_option maxRecDepth 20000 in
theorem dX7_why_25 : decode cX7_why 25 = .ok (.iload 4, 2) := by decide +kernel
set_option maxRecDepth 20000 in
theorem dX7_why_27 : decode cX7_why 27 = .ok (.iconst 0, 1) := by decide +kernel
set_option maxRecDepth 20000 in
theorem dX7_why_28 : decode cX7_why 28 = .ok (.iconst 1, 1) := by decide +kernel
set_option maxRecDepth 20000 in
theorem dX7_why_29 : decode cX7_why 29 = .ok (.invokestatic 47, 3) := by decide +kernel
set_option maxRecDepth 20000 in
theorem dX7_why_32 : decode cX7_why 32 = .ok (.ifCond .ne 6, 3) := by decide +kernel
set_option maxRecDepth 20000 in
theorem dX7_why_35 : decode cX7_why 35 = .ok (.bipush (-11), 2) := by decide +kernel
set_option maxRecDepth 20000 in
theorem dX7_why_37 : decode cX7_why 37 = .ok (.ireturn, 1) := by decide +kernel
set_option maxRecDepth 20000 in
theorem dX7_why_38 : decode cX7_why 38 = .ok (.aload_n 0, 1) := by decide +kernel
set_option maxRecDepth 20000 in
theorem dX7_why_39 : decode cX7_why 39 = .ok (.getfield 26, 3) := by decide +kernel
set_option maxRecDepth 20000 in
theorem dX7_why_42 : decode cX7_why 42 = .ok (.aload_n 0, 1) := by decide +kernel
set_option maxRecDepth 20000 in
theorem dX7_why_43 : decode cX7_why 43 = .ok (.getfield 10, 3) := by decide +kernel
set_option maxRecDepth 20000 in
theorem dX7_why_46 : decode cX7_why 46 = .ok (.invokevirtual 92, 3) := by decide +kernel
set_option maxRecDepth 20000 in
theorem dX7_why_49 : decode cX7_why 49 = .ok (.aload_n 0, 1) := by decide +kernel
set_option maxRecDepth 20000 in
theorem dX7_why_50 : decode cX7_why 50 = .ok (.getfield 10, 3) := by decide +kernel
set_option maxRecDepth 20000 in
theorem dX7_why_53 : decode cX7_why 53 = .ok (.getfield 62, 3) := by decide +kernel
set_option maxRecDepth 20000 in
theorem dX7_why_56 : decode cX7_why 56 = .ok (.iload_n 1, 1) := by decide +kernel
set_option maxRecDepth 20000 in
theorem dX7_why_57 : decode cX7_why 57 = .ok (.iload_n 2, 1) := by decide +kernel
set_option maxRecDepth 20000 in
theorem dX7_why_58 : decode cX7_why 58 = .ok (.iload_n 3, 1) := by decide +kernel
set_option maxRecDepth 20000 in
theorem dX7_why_59 : decode cX7_why 59 = .ok (.invokevirtual 171, 3) := by decide +kernel
set_option maxRecDepth 20000 in
theorem dX7_why_62 : decode cX7_why 62 = .ok (.istore 5, 2) := by decide +kernel
set_option maxRecDepth 20000 in
theorem dX7_why_64 : decode cX7_why 64 = .ok (.iload 5, 2) := by decide +kernel
set_option maxRecDepth 20000 in
theorem dX7_why_66 : decode cX7_why 66 = .ok (.iconst (-1), 1) := by decide +kernel
set_option maxRecDepth 20000 in
theorem dX7_why_67 : decode cX7_why 67 = .ok (.if_icmp .ne 6, 3) := by decide +kernel
set_option maxRecDepth 20000 in
theorem dX7_why_70 : decode cX7_why 70 = .ok (.bipush (-14), 2) := by decide +kernel
set_option maxRecDepth 20000 in
theorem dX7_why_72 : decode cX7_why 72 = .ok (.ireturn, 1) := by decide +kernel
set_option maxRecDepth 20000 in
theorem dX7_why_73 : decode cX7_why 73 = .ok (.iload 4, 2) := by decide +kernel
set_option maxRecDepth 20000 in
theorem dX7_why_75 : decode cX7_why 75 = .ok (.ifCond .ne 6, 3) := by decide +kernel
set_option maxRecDepth 20000 in
theorem dX7_why_78 : decode cX7_why 78 = .ok (.iload 5, 2) := by decide +kernel
set_option maxRecDepth 20000 in
theorem dX7_why_80 : decode cX7_why 80 = .ok (.ireturn, 1) := by decide +kernel
set_option maxRecDepth 20000 in
theorem dX7_why_81 : decode cX7_why 81 = .ok (.iload_n 3, 1) := by decide +kernel
set_option maxRecDepth 20000 in
theorem dX7_why_82 : decode cX7_why 82 = .ok (.ifCond .ne 5, 3) := by decide +kernel
set_option maxRecDepth 20000 in
theorem dX7_why_85 : decode cX7_why 85 = .ok (.iconst 0, 1) := by decide +kernel
set_option maxRecDepth 20000 in
theorem dX7_why_86 : decode cX7_why 86 = .ok (.ireturn, 1) := by decide +kernel
set_option maxRecDepth 20000 in
theorem dX7_why_87 : decode cX7_why 87 = .ok (.aload_n 0, 1) := by decide +kernel
set_option maxRecDepth 20000 in
theorem dX7_why_88 : decode cX7_why 88 = .ok (.getfield 26, 3) := by decide +kernel
set_option maxRecDepth 20000 in
theorem dX7_why_91 : decode cX7_why 91 = .ok (.aload_n 0, 1) := by decide +kernel
set_option maxRecDepth 20000 in
theorem dX7_why_92 : decode cX7_why 92 = .ok (.getfield 10, 3) := by decide +kernel
set_option maxRecDepth 20000 in
theorem dX7_why_95 : decode cX7_why 95 = .ok (.getfield 62, 3) := by decide +kernel
set_option maxRecDepth 20000 in
theorem dX7_why_98 : decode cX7_why 98 = .ok (.iload_n 1, 1) := by decide +kernel
set_option maxRecDepth 20000 in
theorem dX7_why_99 : decode cX7_why 99 = .ok (.iload_n 2, 1) := by decide +kernel
set_option maxRecDepth 20000 in
theorem dX7_why_100 : decode cX7_why 100 = .ok (.iload_n 3, 1) := by decide +kernel
set_option maxRecDepth 20000 in
theorem dX7_why_101 : decode cX7_why 101 = .ok (.iconst 1, 1) := by decide +kernel
set_option maxRecDepth 20000 in
theorem dX7_why_102 : decode cX7_why 102 = .ok (.isub, 1) := by decide +kernel
set_option maxRecDepth 20000 in
theorem dX7_why_103 : decode cX7_why 103 = .ok (.invokevirtual 171, 3) := by decide +kernel
set_option maxRecDepth 20000 in
theorem dX7_why_106 : decode cX7_why 106 = .ok (.istore 6, 2) := by decide +kernel
set_option maxRecDepth 20000 in
theorem dX7_why_108 : decode cX7_why 108 = .ok (.aload_n 0, 1) := by decide +kernel
set_option maxRecDepth 20000 in
theorem dX7_why_109 : decode cX7_why 109 = .ok (.getfield 10, 3) := by decide +kernel
set_option maxRecDepth 20000 in
theorem dX7_why_112 : decode cX7_why 112 = .ok (.iload 6, 2) := by decide +kernel
set_option maxRecDepth 20000 in
theorem dX7_why_114 : decode cX7_why 114 = .ok (.iload 5, 2) := by decide +kernel
set_option maxRecDepth 20000 in
theorem dX7_why_116 : decode cX7_why 116 = .ok (.iload_n 1, 1) := by decide +kernel
set_option maxRecDepth 20000 in
theorem dX7_why_117 : decode cX7_why 117 = .ok (.invokevirtual 175, 3) := by decide +kernel
set_option maxRecDepth 20000 in
theorem dX7_why_120 : decode cX7_why 120 = .ok (.ireturn, 1) := by decide +kernel
set_option maxRecDepth 20000 in
theorem dX7_from_0 : decode cX7_from 0 = .ok (.aload_n 0, 1) := by decide +kernel
set_option maxRecDepth 20000 in
theorem dX7_from_1 : decode cX7_from 1 = .ok (.getfield 10, 3) := by decide +kernel
set_option maxRecDepth 20000 in
theorem dX7_from_4 : decode cX7_from 4 = .ok (.getfield 37, 3) := by decide +kernel
set_option maxRecDepth 20000 in
theorem dX7_from_7 : decode cX7_from 7 = .ok (.iload_n 1, 1) := by decide +kernel
set_option maxRecDepth 20000 in
theorem dX7_from_8 : decode cX7_from 8 = .ok (.invokevirtual 41, 3) := by decide +kernel
set_option maxRecDepth 20000 in
theorem dX7_from_11 : decode cX7_from 11 = .ok (.ifCond .eq 10, 3) := by decide +kernel
set_option maxRecDepth 20000 in
theorem dX7_from_14 : decode cX7_from 14 = .ok (.iload_n 2, 1) := by decide +kernel
set_option maxRecDepth 20000 in
theorem dX7_from_15 : decode cX7_from 15 = .ok (.invokestatic 130, 3) := by decide +kernel
set_option maxRecDepth 20000 in
theorem dX7_from_18 : decode cX7_from 18 = .ok (.ifCond .ne 6, 3) := by decide +kernel
set_option maxRecDepth 20000 in
theorem dX7_from_21 : decode cX7_from 21 = .ok (.bipush (-11), 2) := by decide +kernel
set_option maxRecDepth 20000 in
theorem dX7_from_23 : decode cX7_from 23 = .ok (.ireturn, 1) := by decide +kernel
set_option maxRecDepth 20000 in
theorem dX7_from_24 : decode cX7_from 24 = .ok (.aload_n 0, 1) := by decide +kernel
set_option maxRecDepth 20000 in
theorem dX7_from_25 : decode cX7_from 25 = .ok (.getfield 26, 3) := by decide +kernel
set_option maxRecDepth 20000 in
theorem dX7_from_28 : decode cX7_from 28 = .ok (.aload_n 0, 1) := by decide +kernel
set_option maxRecDepth 20000 in
theorem dX7_from_29 : decode cX7_from 29 = .ok (.getfield 10, 3) := by decide +kernel
set_option maxRecDepth 20000 in
theorem dX7_from_32 : decode cX7_from 32 = .ok (.invokevirtual 92, 3) := by decide +kernel
set_option maxRecDepth 20000 in
theorem dX7_from_35 : decode cX7_from 35 = .ok (.iload_n 1, 1) := by decide +kernel
set_option maxRecDepth 20000 in
theorem dX7_from_36 : decode cX7_from 36 = .ok (.iload_n 2, 1) := by decide +kernel
set_option maxRecDepth 20000 in
theorem dX7_from_37 : decode cX7_from 37 = .ok (.invokevirtual 178, 3) := by decide +kernel
set_option maxRecDepth 20000 in
theorem dX7_from_40 : decode cX7_from 40 = .ok (.bipush (-14), 2) := by decide +kernel
set_option maxRecDepth 20000 in
theorem dX7_from_42 : decode cX7_from 42 = .ok (.invokestatic 159, 3) := by decide +kernel
set_option maxRecDepth 20000 in
theorem dX7_from_45 : decode cX7_from 45 = .ok (.ireturn, 1) := by decide +kernel
set_option maxRecDepth 20000 in
theorem dX7_cycle_0 : decode cX7_cycle 0 = .ok (.aload_n 0, 1) := by decide +kernel
set_option maxRecDepth 20000 in
theorem dX7_cycle_1 : decode cX7_cycle 1 = .ok (.getfield 10, 3) := by decide +kernel
set_option maxRecDepth 20000 in
theorem dX7_cycle_4 : decode cX7_cycle 4 = .ok (.getfield 37, 3) := by decide +kernel
set_option maxRecDepth 20000 in
theorem dX7_cycle_7 : decode cX7_cycle 7 = .ok (.iload_n 1, 1) := by decide +kernel
set_option maxRecDepth 20000 in
theorem dX7_cycle_8 : decode cX7_cycle 8 = .ok (.invokevirtual 41, 3) := by decide +kernel
set_option maxRecDepth 20000 in
theorem dX7_cycle_11 : decode cX7_cycle 11 = .ok (.ifCond .eq 10, 3) := by decide +kernel
set_option maxRecDepth 20000 in
theorem dX7_cycle_14 : decode cX7_cycle 14 = .ok (.iload_n 2, 1) := by decide +kernel
set_option maxRecDepth 20000 in
theorem dX7_cycle_15 : decode cX7_cycle 15 = .ok (.invokestatic 140, 3) := by decide +kernel
set_option maxRecDepth 20000 in
theorem dX7_cycle_18 : decode cX7_cycle 18 = .ok (.ifCond .ne 6, 3) := by decide +kernel
set_option maxRecDepth 20000 in
theorem dX7_cycle_21 : decode cX7_cycle 21 = .ok (.bipush (-11), 2) := by decide +kernel
set_option maxRecDepth 20000 in
theorem dX7_cycle_23 : decode cX7_cycle 23 = .ok (.ireturn, 1) := by decide +kernel
set_option maxRecDepth 20000 in
theorem dX7_cycle_24 : decode cX7_cycle 24 = .ok (.aload_n 0, 1) := by decide +kernel
set_option maxRecDepth 20000 in
theorem dX7_cycle_25 : decode cX7_cycle 25 = .ok (.getfield 26, 3) := by decide +kernel
set_option maxRecDepth 20000 in
theorem dX7_cycle_28 : decode cX7_cycle 28 = .ok (.aload_n 0, 1) := by decide +kernel
set_option maxRecDepth 20000 in
theorem dX7_cycle_29 : decode cX7_cycle 29 = .ok (.getfield 10, 3) := by decide +kernel
set_option maxRecDepth 20000 in
theorem dX7_cycle_32 : decode cX7_cycle 32 = .ok (.invokevirtual 92, 3) := by decide +kernel
set_option maxRecDepth 20000 in
theorem dX7_cycle_35 : decode cX7_cycle 35 = .ok (.iload_n 1, 1) := by decide +kernel
set_option maxRecDepth 20000 in
theorem dX7_cycle_36 : decode cX7_cycle 36 = .ok (.iload_n 2, 1) := by decide +kernel
set_option maxRecDepth 20000 in
theorem dX7_cycle_37 : decode cX7_cycle 37 = .ok (.invokevirtual 181, 3) := by decide +kernel
set_option maxRecDepth 20000 in
theorem dX7_cycle_40 : decode cX7_cycle 40 = .ok (.ireturn, 1) := by decide +kernel
set_option maxRecDepth 20000 in
theorem dX7_type_0 : decode cX7_type 0 = .ok (.iload_n 1, 1) := by decide +kernel
set_option maxRecDepth 20000 in
theorem dX7_type_1 : decode cX7_type 1 = .ok (.bipush 32, 2) := by decide +kernel
set_option maxRecDepth 20000 in
theorem dX7_type_3 : decode cX7_type 3 = .ok (.bipush 126, 2) := by decide +kernel
set_option maxRecDepth 20000 in
theorem dX7_type_5 : decode cX7_type 5 = .ok (.invokestatic 47, 3) := by decide +kernel
set_option maxRecDepth 20000 in
theorem dX7_type_8 : decode cX7_type 8 = .ok (.ifCond .ne 6, 3) := by decide +kernel
set_option maxRecDepth 20000 in
theorem dX7_type_11 : decode cX7_type 11 = .ok (.bipush (-11), 2) := by decide +kernel
set_option maxRecDepth 20000 in
theorem dX7_type_13 : decode cX7_type 13 = .ok (.ireturn, 1) := by decide +kernel
set_option maxRecDepth 20000 in
theorem dX7_type_14 : decode cX7_type 14 = .ok (.aload_n 0, 1) := by decide +kernel
set_option maxRecDepth 20000 in
theorem dX7_type_15 : decode cX7_type 15 = .ok (.getfield 33, 3) := by decide +kernel
set_option maxRecDepth 20000 in
theorem dX7_type_18 : decode cX7_type 18 = .ok (.invokevirtual 113, 3) := by decide +kernel
set_option maxRecDepth 20000 in
theorem dX7_type_21 : decode cX7_type 21 = .ok (.bipush 80, 2) := by decide +kernel
set_option maxRecDepth 20000 in
theorem dX7_type_23 : decode cX7_type 23 = .ok (.if_icmp .lt 6, 3) := by decide +kernel
set_option maxRecDepth 20000 in
theorem dX7_type_26 : decode cX7_type 26 = .ok (.bipush (-13), 2) := by decide +kernel
set_option maxRecDepth 20000 in
theorem dX7_type_28 : decode cX7_type 28 = .ok (.ireturn, 1) := by decide +kernel
set_option maxRecDepth 20000 in
theorem dX7_type_29 : decode cX7_type 29 = .ok (.aload_n 0, 1) := by decide +kernel
set_option maxRecDepth 20000 in
theorem dX7_type_30 : decode cX7_type 30 = .ok (.getfield 33, 3) := by decide +kernel
set_option maxRecDepth 20000 in
theorem dX7_type_33 : decode cX7_type 33 = .ok (.iload_n 1, 1) := by decide +kernel
set_option maxRecDepth 20000 in
theorem dX7_type_34 : decode cX7_type 34 = .ok (.invokevirtual 184, 3) := by decide +kernel
set_option maxRecDepth 20000 in
theorem dX7_type_37 : decode cX7_type 37 = .ok (.ireturn, 1) := by decide +kernel
set_option maxRecDepth 20000 in
theorem dX7_clearText_0 : decode cX7_clearText 0 = .ok (.aload_n 0, 1) := by decide +kernel
set_option maxRecDepth 20000 in
theorem dX7_clearText_1 : decode cX7_clearText 1 = .ok (.getfield 33, 3) := by decide +kernel
set_option maxRecDepth 20000 in
theorem dX7_clearText_4 : decode cX7_clearText 4 = .ok (.invokevirtual 186, 3) := by decide +kernel
set_option maxRecDepth 20000 in
theorem dX7_clearText_7 : decode cX7_clearText 7 = .ok (.ireturn, 1) := by decide +kernel
set_option maxRecDepth 20000 in
theorem dX7_fault_0 : decode cX7_fault 0 = .ok (.aload_n 0, 1) := by decide +kernel
set_option maxRecDepth 20000 in
theorem dX7_fault_1 : decode cX7_fault 1 = .ok (.getfield 33, 3) := by decide +kernel
set_option maxRecDepth 20000 in
theorem dX7_fault_4 : decode cX7_fault 4 = .ok (.aload_n 0, 1) := by decide +kernel
set_option maxRecDepth 20000 in
theorem dX7_fault_5 : decode cX7_fault 5 = .ok (.getfield 10, 3) := by decide +kernel
set_option maxRecDepth 20000 in
theorem dX7_fault_8 : decode cX7_fault 8 = .ok (.getfield 37, 3) := by decide +kernel
set_option maxRecDepth 20000 in
theorem dX7_fault_11 : decode cX7_fault 11 = .ok (.invokevirtual 51, 3) := by decide +kernel
set_option maxRecDepth 20000 in
theorem dX7_fault_14 : decode cX7_fault 14 = .ok (.invokevirtual 189, 3) := by decide +kernel
set_option maxRecDepth 20000 in
theorem dX7_fault_17 : decode cX7_fault 17 = .ok (.bipush (-14), 2) := by decide +kernel
set_option maxRecDepth 20000 in
theorem dX7_fault_19 : decode cX7_fault 19 = .ok (.invokestatic 159, 3) := by decide +kernel
set_option maxRecDepth 20000 in
theorem dX7_fault_22 : decode cX7_fault 22 = .ok (.ireturn, 1) := by decide +kernel
set_option maxRecDepth 20000 in
theorem dX7_read_0 : decode cX7_read 0 = .ok (.aload_n 0, 1) := by decide +kernel
set_option maxRecDepth 20000 in
theorem dX7_read_1 : decode cX7_read 1 = .ok (.getfield 33, 3) := by decide +kernel
set_option maxRecDepth 20000 in
theorem dX7_read_4 : decode cX7_read 4 = .ok (.aload_n 0, 1) := by decide +kernel
set_option maxRecDepth 20000 in
theorem dX7_read_5 : decode cX7_read 5 = .ok (.getfield 10, 3) := by decide +kernel
set_option maxRecDepth 20000 in
theorem dX7_read_8 : decode cX7_read 8 = .ok (.getfield 37, 3) := by decide +kernel
set_option maxRecDepth 20000 in
theorem dX7_read_11 : decode cX7_read 11 = .ok (.invokevirtual 51, 3) := by decide +kernel
set_option maxRecDepth 20000 in
theorem dX7_read_14 : decode cX7_read 14 = .ok (.invokevirtual 189, 3) := by decide +kernel
set_option maxRecDepth 20000 in
theorem dX7_read_17 : decode cX7_read 17 = .ok (.iconst (-1), 1) := by decide +kernel
set_option maxRecDepth 20000 in
theorem dX7_read_18 : decode cX7_read 18 = .ok (.if_icmp .eq 6, 3) := by decide +kernel
set_option maxRecDepth 20000 in
theorem dX7_read_21 : decode cX7_read 21 = .ok (.bipush (-12), 2) := by decide +kernel
set_option maxRecDepth 20000 in
theorem dX7_read_23 : decode cX7_read 23 = .ok (.ireturn, 1) := by decide +kernel
set_option maxRecDepth 20000 in
theorem dX7_read_24 : decode cX7_read 24 = .ok (.aload_n 0, 1) := by decide +kernel
set_option maxRecDepth 20000 in
theorem dX7_read_25 : decode cX7_read 25 = .ok (.getfield 10, 3) := by decide +kernel
set_option maxRecDepth 20000 in
theorem dX7_read_28 : decode cX7_read 28 = .ok (.getfield 62, 3) := by decide +kernel
set_option maxRecDepth 20000 in
theorem dX7_read_31 : decode cX7_read 31 = .ok (.invokevirtual 102, 3) := by decide +kernel
set_option maxRecDepth 20000 in
theorem dX7_read_34 : decode cX7_read 34 = .ok (.bipush 16, 2) := by decide +kernel
set_option maxRecDepth 20000 in
theorem dX7_read_36 : decode cX7_read 36 = .ok (.if_icmp .lt 6, 3) := by decide +kernel
set_option maxRecDepth 20000 in
theorem dX7_read_39 : decode cX7_read 39 = .ok (.bipush (-13), 2) := by decide +kernel
set_option maxRecDepth 20000 in
theorem dX7_read_41 : decode cX7_read 41 = .ok (.ireturn, 1) := by decide +kernel
set_option maxRecDepth 20000 in
theorem dX7_read_42 : decode cX7_read 42 = .ok (.aload_n 0, 1) := by decide +kernel
set_option maxRecDepth 20000 in
theorem dX7_read_43 : decode cX7_read 43 = .ok (.invokevirtual 55, 3) := by decide +kernel
set_option maxRecDepth 20000 in
theorem dX7_read_46 : decode cX7_read 46 = .ok (.aload_n 0, 1) := by decide +kernel
set_option maxRecDepth 20000 in
theorem dX7_read_47 : decode cX7_read 47 = .ok (.getfield 10, 3) := by decide +kernel
set_option maxRecDepth 20000 in
theorem dX7_read_50 : decode cX7_read 50 = .ok (.getfield 62, 3) := by decide +kernel
set_option maxRecDepth 20000 in
theorem dX7_read_53 : decode cX7_read 53 = .ok (.aload_n 0, 1) := by decide +kernel
set_option maxRecDepth 20000 in
theorem dX7_read_54 : decode cX7_read 54 = .ok (.getfield 33, 3) := by decide +kernel
set_option maxRecDepth 20000 in
theorem dX7_read_57 : decode cX7_read 57 = .ok (.invokevirtual 192, 3) := by decide +kernel
set_option maxRecDepth 20000 in
theorem dX7_read_60 : decode cX7_read 60 = .ok (.invokevirtual 196, 3) := by decide +kernel
set_option maxRecDepth 20000 in
theorem dX7_read_63 : decode cX7_read 63 = .ok (.ireturn, 1) := by decide +kernel
set_option maxRecDepth 20000 in
theorem dX7_beginChange_0 : decode cX7_beginChange 0 = .ok (.aload_n 0, 1) := by decide +kernel
set_option maxRecDepth 20000 in
theorem dX7_beginChange_1 : decode cX7_beginChange 1 = .ok (.getfield 19, 3) := by decide +kernel
set_option maxRecDepth 20000 in
theorem dX7_beginChange_4 : decode cX7_beginChange 4 = .ok (.aload_n 0, 1) := by decide +kernel
set_option maxRecDepth 20000 in
theorem dX7_beginChange_5 : decode cX7_beginChange 5 = .ok (.getfield 10, 3) := by decide +kernel
set_option maxRecDepth 20000 in
theorem dX7_beginChange_8 : decode cX7_beginChange 8 = .ok (.invokevirtual 200, 3) := by decide +kernel
set_option maxRecDepth 20000 in
theorem dX7_beginChange_11 : decode cX7_beginChange 11 = .ok (.aload_n 0, 1) := by decide +kernel
set_option maxRecDepth 20000 in
theorem dX7_beginChange_12 : decode cX7_beginChange 12 = .ok (.getfield 26, 3) := by decide +kernel
set_option maxRecDepth 20000 in
theorem dX7_beginChange_15 : decode cX7_beginChange 15 = .ok (.invokevirtual 120, 3) := by decide +kernel
set_option maxRecDepth 20000 in
theorem dX7_beginChange_18 : decode cX7_beginChange 18 = .ok (.return_, 1) := by decide +kernel
set_option maxRecDepth 20000 in
theorem dX7_foundOr_0 : decode cX7_foundOr 0 = .ok (.iload_n 0, 1) := by decide +kernel
set_option maxRecDepth 20000 in
theorem dX7_foundOr_1 : decode cX7_foundOr 1 = .ok (.iconst (-1), 1) := by decide +kernel
set_option maxRecDepth 20000 in
theorem dX7_foundOr_2 : decode cX7_foundOr 2 = .ok (.if_icmp .ne 7, 3) := by decide +kernel
set_option maxRecDepth 20000 in
theorem dX7_foundOr_5 : decode cX7_foundOr 5 = .ok (.iload_n 1, 1) := by decide +kernel
set_option maxRecDepth 20000 in
theorem dX7_foundOr_6 : decode cX7_foundOr 6 = .ok (.goto 4, 3) := by decide +kernel
set_option maxRecDepth 20000 in
theorem dX7_foundOr_9 : decode cX7_foundOr 9 = .ok (.iload_n 0, 1) := by decide +kernel
set_option maxRecDepth 20000 in
theorem dX7_foundOr_10 : decode cX7_foundOr 10 = .ok (.ireturn, 1) := by decide +kernel
set_option maxRecDepth 20000 in
theorem dX7_isWithin_0 : decode cX7_isWithin 0 = .ok (.iload_n 0, 1) := by decide +kernel
set_option maxRecDepth 20000 in
theorem dX7_isWithin_1 : decode cX7_isWithin 1 = .ok (.iload_n 1, 1) := by decide +kernel
set_option maxRecDepth 20000 in
theorem dX7_isWithin_2 : decode cX7_isWithin 2 = .ok (.if_icmp .lt 12, 3) := by decide +kernel
set_option maxRecDepth 20000 in
theorem dX7_isWithin_5 : decode cX7_isWithin 5 = .ok (.iload_n 0, 1) := by decide +kernel
set_option maxRecDepth 20000 in
theorem dX7_isWithin_6 : decode cX7_isWithin 6 = .ok (.iload_n 2, 1) := by decide +kernel
set_option maxRecDepth 20000 in
theorem dX7_isWithin_7 : decode cX7_isWithin 7 = .ok (.if_icmp .gt 7, 3) := by decide +kernel
set_option maxRecDepth 20000 in
theorem dX7_isWithin_10 : decode cX7_isWithin 10 = .ok (.iconst 1, 1) := by decide +kernel
set_option maxRecDepth 20000 in
theorem dX7_isWithin_11 : decode cX7_isWithin 11 = .ok (.goto 4, 3) := by decide +kernel
set_option maxRecDepth 20000 in
theorem dX7_isWithin_14 : decode cX7_isWithin 14 = .ok (.iconst 0, 1) := by decide +kernel
set_option maxRecDepth 20000 in
theorem dX7_isWithin_15 : decode cX7_isWithin 15 = .ok (.ireturn, 1) := by decide +kernel
set_option maxRecDepth 20000 in
theorem dX7_isProperty_0 : decode cX7_isProperty 0 = .ok (.iload_n 0, 1) := by decide +kernel
set_option maxRecDepth 20000 in
theorem dX7_isProperty_1 : decode cX7_isProperty 1 = .ok (.iconst 0, 1) := by decide +kernel
set_option maxRecDepth 20000 in
theorem dX7_isProperty_2 : decode cX7_isProperty 2 = .ok (.bipush 15, 2) := by decide +kernel
set_option maxRecDepth 20000 in
theorem dX7_isProperty_4 : decode cX7_isProperty 4 = .ok (.invokestatic 47, 3) := by decide +kernel
set_option maxRecDepth 20000 in
theorem dX7_isProperty_7 : decode cX7_isProperty 7 = .ok (.ireturn, 1) := by decide +kernel
set_option maxRecDepth 20000 in
theorem dX7_isCustom_0 : decode cX7_isCustom 0 = .ok (.iload_n 0, 1) := by decide +kernel
set_option maxRecDepth 20000 in
theorem dX7_isCustom_1 : decode cX7_isCustom 1 = .ok (.bipush 8, 2) := by decide +kernel
set_option maxRecDepth 20000 in
theorem dX7_isCustom_3 : decode cX7_isCustom 3 = .ok (.bipush 15, 2) := by decide +kernel
set_option maxRecDepth 20000 in
theorem dX7_isCustom_5 : decode cX7_isCustom 5 = .ok (.invokestatic 47, 3) := by decide +kernel
set_option maxRecDepth 20000 in
theorem dX7_isCustom_8 : decode cX7_isCustom 8 = .ok (.ireturn, 1) := by decide +kernel
set_option maxRecDepth 20000 in
theorem dX8_init_0 : decode cX8_init 0 = .ok (.aload_n 0, 1) := by decide +kernel
set_option maxRecDepth 20000 in
theorem dX8_init_1 : decode cX8_init 1 = .ok (.invokespecial 1, 3) := by decide +kernel
set_option maxRecDepth 20000 in
theorem dX8_init_4 : decode cX8_init 4 = .ok (.aload_n 0, 1) := by decide +kernel
set_option maxRecDepth 20000 in
theorem dX8_init_5 : decode cX8_init 5 = .ok (.sipush 914, 3) := by decide +kernel
set_option maxRecDepth 20000 in
theorem dX8_init_8 : decode cX8_init 8 = .ok (.newarray .int, 2) := by decide +kernel
set_option maxRecDepth 20000 in
theorem dX8_init_10 : decode cX8_init 10 = .ok (.putfield 7, 3) := by decide +kernel
set_option maxRecDepth 20000 in
theorem dX8_init_13 : decode cX8_init 13 = .ok (.aload_n 0, 1) := by decide +kernel
set_option maxRecDepth 20000 in
theorem dX8_init_14 : decode cX8_init 14 = .ok (.sipush 4570, 3) := by decide +kernel
set_option maxRecDepth 20000 in
theorem dX8_init_17 : decode cX8_init 17 = .ok (.newarray .int, 2) := by decide +kernel
set_option maxRecDepth 20000 in
theorem dX8_init_19 : decode cX8_init 19 = .ok (.putfield 13, 3) := by decide +kernel
set_option maxRecDepth 20000 in
theorem dX8_init_22 : decode cX8_init 22 = .ok (.aload_n 0, 1) := by decide +kernel
set_option maxRecDepth 20000 in
theorem dX8_init_23 : decode cX8_init 23 = .ok (.bipush 80, 2) := by decide +kernel
set_option maxRecDepth 20000 in
theorem dX8_init_25 : decode cX8_init 25 = .ok (.newarray .char, 2) := by decide +kernel
set_option maxRecDepth 20000 in
theorem dX8_init_27 : decode cX8_init 27 = .ok (.putfield 16, 3) := by decide +kernel
set_option maxRecDepth 20000 in
theorem dX8_init_30 : decode cX8_init 30 = .ok (.aload_n 0, 1) := by decide +kernel
set_option maxRecDepth 20000 in
theorem dX8_init_31 : decode cX8_init 31 = .ok (.bipush 6, 2) := by decide +kernel
set_option maxRecDepth 20000 in
theorem dX8_init_33 : decode cX8_init 33 = .ok (.newarray .int, 2) := by decide +kernel
set_option maxRecDepth 20000 in
theorem dX8_init_35 : decode cX8_init 35 = .ok (.putfield 20, 3) := by decide +kernel
set_option maxRecDepth 20000 in
theorem dX8_init_38 : decode cX8_init 38 = .ok (.aload_n 0, 1) := by decide +kernel
set_option maxRecDepth 20000 in
theorem dX8_init_39 : decode cX8_init 39 = .ok (.bipush 48, 2) := by decide +kernel
set_option maxRecDepth 20000 in
theorem dX8_init_41 : decode cX8_init 41 = .ok (.newarray .int, 2) := by decide +kernel
set_option maxRecDepth 20000 in
theorem dX8_init_43 : decode cX8_init 43 = .ok (.putfield 23, 3) := by decide +kernel
set_option maxRecDepth 20000 in
theorem dX8_init_46 : decode cX8_init 46 = .ok (.aload_n 0, 1) := by decide +kernel
set_option maxRecDepth 20000 in
theorem dX8_init_47 : decode cX8_init 47 = .ok (.sipush 256, 3) := by decide +kernel
set_option maxRecDepth 20000 in
theorem dX8_init_50 : decode cX8_init 50 = .ok (.newarray .int, 2) := by decide +kernel
set_option maxRecDepth 20000 in
theorem dX8_init_52 : decode cX8_init 52 = .ok (.putfield 26, 3) := by decide +kernel
set_option maxRecDepth 20000 in
theorem dX8_init_55 : decode cX8_init 55 = .ok (.aload_n 0, 1) := by decide +kernel
set_option maxRecDepth 20000 in
theorem dX8_init_56 : decode cX8_init 56 = .ok (.sipush 256, 3) := by decide +kernel
set_option maxRecDepth 20000 in
theorem dX8_init_59 : decode cX8_init 59 = .ok (.newarray .boolean, 2) := by decide +kernel
set_option maxRecDepth 20000 in
theorem dX8_init_61 : decode cX8_init 61 = .ok (.putfield 29, 3) := by decide +kernel
set_option maxRecDepth 20000 in
theorem dX8_init_64 : decode cX8_init 64 = .ok (.aload_n 0, 1) := by decide +kernel
set_option maxRecDepth 20000 in
theorem dX8_init_65 : decode cX8_init 65 = .ok (.bipush 16, 2) := by decide +kernel
set_option maxRecDepth 20000 in
theorem dX8_init_67 : decode cX8_init 67 = .ok (.newarray .boolean, 2) := by decide +kernel
set_option maxRecDepth 20000 in
theorem dX8_init_69 : decode cX8_init 69 = .ok (.putfield 33, 3) := by decide +kernel
set_option maxRecDepth 20000 in
theorem dX8_init_72 : decode cX8_init 72 = .ok (.aload_n 0, 1) := by decide +kernel
set_option maxRecDepth 20000 in
theorem dX8_init_73 : decode cX8_init 73 = .ok (.bipush 16, 2) := by decide +kernel
set_option maxRecDepth 20000 in
theorem dX8_init_75 : decode cX8_init 75 = .ok (.newarray .int, 2) := by decide +kernel
set_option maxRecDepth 20000 in
theorem dX8_init_77 : decode cX8_init 77 = .ok (.putfield 36, 3) := by decide +kernel
set_option maxRecDepth 20000 in
theorem dX8_init_80 : decode cX8_init 80 = .ok (.aload_n 0, 1) := by decide +kernel
set_option maxRecDepth 20000 in
theorem dX8_init_81 : decode cX8_init 81 = .ok (.getfield 7, 3) := by decide +kernel
set_option maxRecDepth 20000 in
theorem dX8_init_84 : decode cX8_init 84 = .ok (.iconst 0, 1) := by decide +kernel
set_option maxRecDepth 20000 in
theorem dX8_init_85 : decode cX8_init 85 = .ok (.iconst 1, 1) := by decide +kernel
set_option maxRecDepth 20000 in
theorem dX8_init_86 : decode cX8_init 86 = .ok (.iastore, 1) := by decide +kernel
set_option maxRecDepth 20000 in
theorem dX8_init_87 : decode cX8_init 87 = .ok (.aload_n 0, 1) := by decide +kernel
set_option maxRecDepth 20000 in
theorem dX8_init_88 : decode cX8_init 88 = .ok (.getfield 7, 3) := by decide +kernel
set_option maxRecDepth 20000 in
theorem dX8_init_91 : decode cX8_init 91 = .ok (.iconst 2, 1) := by decide +kernel
set_option maxRecDepth 20000 in
theorem dX8_init_92 : decode cX8_init 92 = .ok (.iconst (-1), 1) := by decide +kernel
set_option maxRecDepth 20000 in
theorem dX8_init_93 : decode cX8_init 93 = .ok (.iastore, 1) := by decide +kernel
set_option maxRecDepth 20000 in
theorem dX8_init_94 : decode cX8_init 94 = .ok (.return_, 1) := by decide +kernel
set_option maxRecDepth 20000 in
theorem dX8_in_0 : decode cX8_in 0 = .ok (.iload_n 0, 1) := by decide +kernel
set_option maxRecDepth 20000 in
theorem dX8_in_1 : decode cX8_in 1 = .ok (.iload_n 1, 1) := by decide +kernel
set_option maxRecDepth 20000 in
theorem dX8_in_2 : decode cX8_in 2 = .ok (.if_icmp .lt 12, 3) := by decide +kernel
set_option maxRecDepth 20000 in
theorem dX8_in_5 : decode cX8_in 5 = .ok (.iload_n 0, 1) := by decide +kernel
set_option maxRecDepth 20000 in
theorem dX8_in_6 : decode cX8_in 6 = .ok (.iload_n 2, 1) := by decide +kernel
set_option maxRecDepth 20000 in
theorem dX8_in_7 : decode cX8_in 7 = .ok (.if_icmp .gt 7, 3) := by decide +kernel
set_option maxRecDepth 20000 in
theorem dX8_in_10 : decode cX8_in 10 = .ok (.iconst 1, 1) := by decide +kernel
set_option maxRecDepth 20000 in
theorem dX8_in_11 : decode cX8_in 11 = .ok (.goto 4, 3) := by decide +kernel
set_option maxRecDepth 20000 in
theorem dX8_in_14 : decode cX8_in 14 = .ok (.iconst 0, 1) := by decide +kernel
set_option maxRecDepth 20000 in
theorem dX8_in_15 : decode cX8_in 15 = .ok (.ireturn, 1) := by decide +kernel
set_option maxRecDepth 20000 in
theorem dX8_isElement_0 : decode cX8_isElement 0 = .ok (.iload_n 1, 1) := by decide +kernel
set_option maxRecDepth 20000 in
theorem dX8_isElement_1 : decode cX8_isElement 1 = .ok (.iconst 0, 1) := by decide +kernel
set_option maxRecDepth 20000 in
theorem dX8_isElement_2 : decode cX8_isElement 2 = .ok (.aload_n 0, 1) := by decide +kernel
set_option maxRecDepth 20000 in
theorem dX8_isElement_3 : decode cX8_isElement 3 = .ok (.getfield 7, 3) := by decide +kernel
set_option maxRecDepth 20000 in
theorem dX8_isElement_6 : decode cX8_isElement 6 = .ok (.iconst 0, 1) := by decide +kernel
set_option maxRecDepth 20000 in
theorem dX8_isElement_7 : decode cX8_isElement 7 = .ok (.iaload, 1) := by decide +kernel
set_option maxRecDepth 20000 in
theorem dX8_isElement_8 : decode cX8_isElement 8 = .ok (.iconst 1, 1) := by decide +kernel
set_option maxRecDepth 20000 in
theorem dX8_isElement_9 : decode cX8_isElement 9 = .ok (.isub, 1) := by decide +kernel
set_option maxRecDepth 20000 in
theorem dX8_isElement_10 : decode cX8_isElement 10 = .ok (.invokestatic 39, 3) := by decide +kernel
set_option maxRecDepth 20000 in
theorem dX8_isElement_13 : decode cX8_isElement 13 = .ok (.ireturn, 1) := by decide +kernel
set_option maxRecDepth 20000 in
theorem dX8_isRule_0 : decode cX8_isRule 0 = .ok (.iload_n 1, 1) := by decide +kernel
set_option maxRecDepth 20000 in
theorem dX8_isRule_1 : decode cX8_isRule 1 = .ok (.iconst 0, 1) := by decide +kernel
set_option maxRecDepth 20000 in
theorem dX8_isRule_2 : decode cX8_isRule 2 = .ok (.aload_n 0, 1) := by decide +kernel
set_option maxRecDepth 20000 in
theorem dX8_isRule_3 : decode cX8_isRule 3 = .ok (.getfield 7, 3) := by decide +kernel
set_option maxRecDepth 20000 in
theorem dX8_isRule_6 : decode cX8_isRule 6 = .ok (.iconst 1, 1) := by decide +kernel
set_option maxRecDepth 20000 in
theorem dX8_isRule_7 : decode cX8_isRule 7 = .ok (.iaload, 1) := by decide +kernel
set_option maxRecDepth 20000 in
theorem dX8_isRule_8 : decode cX8_isRule 8 = .ok (.iconst 1, 1) := by decide +kernel
set_option maxRecDepth 20000 in
theorem dX8_isRule_9 : decode cX8_isRule 9 = .ok (.isub, 1) := by decide +kernel
set_option maxRecDepth 20000 in
theorem dX8_isRule_10 : decode cX8_isRule 10 = .ok (.invokestatic 39, 3) := by decide +kernel
set_option maxRecDepth 20000 in
theorem dX8_isRule_13 : decode cX8_isRule 13 = .ok (.ireturn, 1) := by decide +kernel
set_option maxRecDepth 20000 in
theorem dX8_isProperty_0 : decode cX8_isProperty 0 = .ok (.iload_n 0, 1) := by decide +kernel
set_option maxRecDepth 20000 in
theorem dX8_isProperty_1 : decode cX8_isProperty 1 = .ok (.iconst 0, 1) := by decide +kernel
set_option maxRecDepth 20000 in
theorem dX8_isProperty_2 : decode cX8_isProperty 2 = .ok (.bipush 15, 2) := by decide +kernel
set_option maxRecDepth 20000 in
theorem dX8_isProperty_4 : decode cX8_isProperty 4 = .ok (.invokestatic 39, 3) := by decide +kernel
set_option maxRecDepth 20000 in
theorem dX8_isProperty_7 : decode cX8_isProperty 7 = .ok (.ireturn, 1) := by decide +kernel
set_option maxRecDepth 20000 in
theorem dX8_of_0 : decode cX8_of 0 = .ok (.aload_n 0, 1) := by decide +kernel
set_option maxRecDepth 20000 in
theorem dX8_of_1 : decode cX8_of 1 = .ok (.getfield 7, 3) := by decide +kernel
set_option maxRecDepth 20000 in
theorem dX8_of_4 : decode cX8_of 4 = .ok (.bipush 50, 2) := by decide +kernel
set_option maxRecDepth 20000 in
theorem dX8_of_6 : decode cX8_of 6 = .ok (.bipush 6, 2) := by decide +kernel
set_option maxRecDepth 20000 in
theorem dX8_of_8 : decode cX8_of 8 = .ok (.iload_n 1, 1) := by decide +kernel
set_option maxRecDepth 20000 in
theorem dX8_of_9 : decode cX8_of 9 = .ok (.imul, 1) := by decide +kernel
set_option maxRecDepth 20000 in
theorem dX8_of_10 : decode cX8_of 10 = .ok (.iadd, 1) := by decide +kernel
set_option maxRecDepth 20000 in
theorem dX8_of_11 : decode cX8_of 11 = .ok (.iload_n 2, 1) := by decide +kernel
set_option maxRecDepth 20000 in
theorem dX8_of_12 : decode cX8_of 12 = .ok (.iadd, 1) := by decide +kernel
set_option maxRecDepth 20000 in
theorem dX8_of_13 : decode cX8_of 13 = .ok (.iaload, 1) := by decide +kernel
set_option maxRecDepth 20000 in
theorem dX8_of_14 : decode cX8_of 14 = .ok (.ireturn, 1) := by decide +kernel
set_option maxRecDepth 20000 in
theorem dX8_says_0 : decode cX8_says 0 = .ok (.sipush 146, 3) := by decide +kernel
set_option maxRecDepth 20000 in
theorem dX8_says_3 : decode cX8_says 3 = .ok (.bipush 48, 2) := by decide +kernel
set_option maxRecDepth 20000 in
theorem dX8_says_5 : decode cX8_says 5 = .ok (.iload_n 0, 1) := by decide +kernel
set_option maxRecDepth 20000 in
theorem dX8_says_6 : decode cX8_says 6 = .ok (.imul, 1) := by decide +kernel
set_option maxRecDepth 20000 in
theorem dX8_says_7 : decode cX8_says 7 = .ok (.iadd, 1) := by decide +kernel
set_option maxRecDepth 20000 in
theorem dX8_says_8 : decode cX8_says 8 = .ok (.iconst 3, 1) := by decide +kernel
set_option maxRecDepth 20000 in
theorem dX8_says_9 : decode cX8_says 9 = .ok (.iload_n 1, 1) := by decide +kernel
set_option maxRecDepth 20000 in
theorem dX8_says_10 : decode cX8_says 10 = .ok (.imul, 1) := by decide +kernel
set_option maxRecDepth 20000 in
theorem dX8_says_11 : decode cX8_says 11 = .ok (.iadd, 1) := by decide +kernel
set_option maxRecDepth 20000 in
theorem dX8_says_12 : decode cX8_says 12 = .ok (.ireturn, 1) := by decide +kernel
set_option maxRecDepth 20000 in
theorem dX8_records_0 : decode cX8_records 0 = .ok (.aload_n 0, 1) := by decide +kernel
set_option maxRecDepth 20000 in
theorem dX8_records_1 : decode cX8_records 1 = .ok (.getfield 43, 3) := by decide +kernel
set_option maxRecDepth 20000 in
theorem dX8_records_4 : decode cX8_records 4 = .ok (.iconst 5, 1) := by decide +kernel
set_option maxRecDepth 20000 in
theorem dX8_records_5 : decode cX8_records 5 = .ok (.if_icmp .ne 44, 3) := by decide +kernel
set_option maxRecDepth 20000 in
theorem dX8_records_8 : decode cX8_records 8 = .ok (.iconst 0, 1) := by decide +kernel
set_option maxRecDepth 20000 in
theorem dX8_records_9 : decode cX8_records 9 = .ok (.istore_n 1, 1) := by decide +kernel
set_option maxRecDepth 20000 in
theorem dX8_records_10 : decode cX8_records 10 = .ok (.iload_n 1, 1) := by decide +kernel
set_option maxRecDepth 20000 in
theorem dX8_records_11 : decode cX8_records 11 = .ok (.sipush 3656, 3) := by decide +kernel
set_option maxRecDepth 20000 in
theorem dX8_records_14 : decode cX8_records 14 = .ok (.if_icmp .ge 25, 3) := by decide +kernel
set_option maxRecDepth 20000 in
theorem dX8_records_17 : decode cX8_records 17 = .ok (.aload_n 0, 1) := by decide +kernel
set_option maxRecDepth 20000 in
theorem dX8_records_18 : decode cX8_records 18 = .ok (.getfield 13, 3) := by decide +kernel
set_option maxRecDepth 20000 in
theorem dX8_records_21 : decode cX8_records 21 = .ok (.iload_n 1, 1) := by decide +kernel
set_option maxRecDepth 20000 in
theorem dX8_records_22 : decode cX8_records 22 = .ok (.aload_n 0, 1) := by decide +kernel
set_option maxRecDepth 20000 in
theorem dX8_records_23 : decode cX8_records 23 = .ok (.getfield 13, 3) := by decide +kernel
set_option maxRecDepth 20000 in
theorem dX8_records_26 : decode cX8_records 26 = .ok (.iload_n 1, 1) := by decide +kernel
set_option maxRecDepth 20000 in
theorem dX8_records_27 : decode cX8_records 27 = .ok (.sipush 914, 3) := by decide +kernel
set_option maxRecDepth 20000 in
theorem dX8_records_30 : decode cX8_records 30 = .ok (.iadd, 1) := by decide +kernel
set_option maxRecDepth 20000 in
theorem dX8_records_31 : decode cX8_records 31 = .ok (.iaload, 1) := by decide +kernel
set_option maxRecDepth 20000 in
theorem dX8_records_32 : decode cX8_records 32 = .ok (.iastore, 1) := by decide +kernel
set_option maxRecDepth 20000 in
theorem dX8_records_33 : decode cX8_records 33 = .ok (.iinc 1 1, 3) := by decide +kernel
set_option maxRecDepth 20000 in
theorem dX8_records_36 : decode cX8_records 36 = .ok (.goto (-26), 3) := by decide +kernel
set_option maxRecDepth 20000 in
theorem dX8_records_39 : decode cX8_records 39 = .ok (.aload_n 0, 1) := by decide +kernel
set_option maxRecDepth 20000 in
theorem dX8_records_40 : decode cX8_records 40 = .ok (.dup, 1) := by decide +kernel
set_option maxRecDepth 20000 in
theorem dX8_records_41 : decode cX8_records 41 = .ok (.getfield 43, 3) := by decide +kernel
set_option maxRecDepth 20000 in
theorem dX8_records_44 : decode cX8_records 44 = .ok (.iconst 1, 1) := by decide +kernel
set_option maxRecDepth 20000 in
theorem dX8_records_45 : decode cX8_records 45 = .ok (.isub, 1) := by decide +kernel
set_option maxRecDepth 20000 in
theorem dX8_records_46 : decode cX8_records 46 = .ok (.putfield 43, 3) := by decide +kernel
set_option maxRecDepth 20000 in
theorem dX8_records_49 : decode cX8_records 49 = .ok (.iconst 0, 1) := by decide +kernel
set_option maxRecDepth 20000 in
theorem dX8_records_50 : decode cX8_records 50 = .ok (.istore_n 1, 1) := by decide +kernel
set_option maxRecDepth 20000 in
theorem dX8_records_51 : decode cX8_records 51 = .ok (.iload_n 1, 1) := by decide +kernel
set_option maxRecDepth 20000 in
theorem dX8_records_52 : decode cX8_records 52 = .ok (.sipush 914, 3) := by decide +kernel
set_option maxRecDepth 20000 in
theorem dX8_records_55 : decode cX8_records 55 = .ok (.if_icmp .ge 30, 3) := by decide +kernel
set_option maxRecDepth 20000 in
theorem dX8_records_58 : decode cX8_records 58 = .ok (.aload_n 0, 1) := by decide +kernel
set_option maxRecDepth 20000 in
theorem dX8_records_59 : decode cX8_records 59 = .ok (.getfield 13, 3) := by decide +kernel
set_option maxRecDepth 20000 in
theorem dX8_records_62 : decode cX8_records 62 = .ok (.sipush 914, 3) := by decide +kernel
set_option maxRecDepth 20000 in
theorem dX8_records_65 : decode cX8_records 65 = .ok (.aload_n 0, 1) := by decide +kernel
set_option maxRecDepth 20000 in
theorem dX8_records_66 : decode cX8_records 66 = .ok (.getfield 43, 3) := by decide +kernel
set_option maxRecDepth 20000 in
theorem dX8_records_69 : decode cX8_records 69 = .ok (.imul, 1) := by decide +kernel
set_option maxRecDepth 20000 in
theorem dX8_records_70 : decode cX8_records 70 = .ok (.iload_n 1, 1) := by decide +kernel
set_option maxRecDepth 20000 in
theorem dX8_records_71 : decode cX8_records 71 = .ok (.iadd, 1) := by decide +kernel
set_option maxRecDepth 20000 in
theorem dX8_records_72 : decode cX8_records 72 = .ok (.aload_n 0, 1) := by decide +kernel
set_option maxRecDepth 20000 in
theorem dX8_records_73 : decode cX8_records 73 = .ok (.getfield 7, 3) := by decide +kernel
set_option maxRecDepth 20000 in
theorem dX8_records_76 : decode cX8_records 76 = .ok (.iload_n 1, 1) := by decide +kernel
set_option maxRecDepth 20000 in
theorem dX8_records_77 : decode cX8_records 77 = .ok (.iaload, 1) := by decide +kernel
set_option maxRecDepth 20000 in
theorem dX8_records_78 : decode cX8_records 78 = .ok (.iastore, 1) := by decide +kernel
set_option maxRecDepth 20000 in
theorem dX8_records_79 : decode cX8_records 79 = .ok (.iinc 1 1, 3) := by decide +kernel
set_option maxRecDepth 20000 in
theorem dX8_records_82 : decode cX8_records 82 = .ok (.goto (-31), 3) := by decide +kernel
set_option maxRecDepth 20000 in
theorem dX8_records_85 : decode cX8_records 85 = .ok (.aload_n 0, 1) := by decide +kernel
set_option maxRecDepth 20000 in
theorem dX8_records_86 : decode cX8_records 86 = .ok (.dup, 1) := by decide +kernel
set_option maxRecDepth 20000 in
theorem dX8_records_87 : decode cX8_records 87 = .ok (.getfield 43, 3) := by decide +kernel
set_option maxRecDepth 20000 in
theorem dX8_records_90 : decode cX8_records 90 = .ok (.iconst 1, 1) := by decide +kernel
set_option maxRecDepth 20000 in
theorem dX8_records_91 : decode cX8_records 91 = .ok (.iadd, 1) := by decide +kernel
set_option maxRecDepth 20000 in
theorem dX8_records_92 : decode cX8_records 92 = .ok (.putfield 43, 3) := by decide +kernel
set_option maxRecDepth 20000 in
theorem dX8_records_95 : decode cX8_records 95 = .ok (.return_, 1) := by decide +kernel
set_option maxRecDepth 20000 in
theorem dX8_isDress_0 : decode cX8_isDress 0 = .ok (.iload_n 0, 1) := by decide +kernel
set_option maxRecDepth 20000 in
theorem dX8_isDress_1 : decode cX8_isDress 1 = .ok (.iconst 0, 1) := by decide +kernel
set_option maxRecDepth 20000 in
theorem dX8_isDress_2 : decode cX8_isDress 2 = .ok (.iconst 5, 1) := by decide +kernel
set_option maxRecDepth 20000 in
theorem dX8_isDress_3 : decode cX8_isDress 3 = .ok (.invokestatic 39, 3) := by decide +kernel
set_option maxRecDepth 20000 in
theorem dX8_isDress_6 : decode cX8_isDress 6 = .ok (.ifCond .eq 17, 3) := by decide +kernel
set_option maxRecDepth 20000 in
theorem dX8_isDress_9 : decode cX8_isDress 9 = .ok (.iload_n 1, 1) := by decide +kernel
set_option maxRecDepth 20000 in
theorem dX8_isDress_10 : decode cX8_isDress 10 = .ok (.iconst 0, 1) := by decide +kernel
set_option maxRecDepth 20000 in
theorem dX8_isDress_11 : decode cX8_isDress 11 = .ok (.bipush 15, 2) := by decide +kernel
set_option maxRecDepth 20000 in
theorem dX8_isDress_13 : decode cX8_isDress 13 = .ok (.invokestatic 39, 3) := by decide +kernel
set_option maxRecDepth 20000 in
theorem dX8_isDress_16 : decode cX8_isDress 16 = .ok (.ifCond .eq 7, 3) := by decide +kernel
set_option maxRecDepth 20000 in
theorem dX8_isDress_19 : decode cX8_isDress 19 = .ok (.iconst 1, 1) := by decide +kernel
set_option maxRecDepth 20000 in
theorem dX8_isDress_20 : decode cX8_isDress 20 = .ok (.goto 4, 3) := by decide +kernel
set_option maxRecDepth 20000 in
theorem dX8_isDress_23 : decode cX8_isDress 23 = .ok (.iconst 0, 1) := by decide +kernel
set_option maxRecDepth 20000 in
theorem dX8_isDress_24 : decode cX8_isDress 24 = .ok (.ireturn, 1) := by decide +kernel
set_option maxRecDepth 20000 in
theorem dX8_add_0 : decode cX8_add 0 = .ok (.aload_n 0, 1) := by decide +kernel
set_option maxRecDepth 20000 in
theorem dX8_add_1 : decode cX8_add 1 = .ok (.iload_n 1, 1) := by decide +kernel
set_option maxRecDepth 20000 in
theorem dX8_add_2 : decode cX8_add 2 = .ok (.invokevirtual 47, 3) := by decide +kernel
set_option maxRecDepth 20000 in
theorem dX8_add_5 : decode cX8_add 5 = .ok (.ifCond .eq 11, 3) := by decide +kernel
set_option maxRecDepth 20000 in
theorem dX8_add_8 : decode cX8_add 8 = .ok (.iload_n 2, 1) := by decide +kernel
set_option maxRecDepth 20000 in
theorem dX8_add_9 : decode cX8_add 9 = .ok (.iload_n 3, 1) := by decide +kernel
set_option maxRecDepth 20000 in
theorem dX8_add_10 : decode cX8_add 10 = .ok (.invokestatic 51, 3) := by decide +kernel
set_option maxRecDepth 20000 in
theorem dX8_add_13 : decode cX8_add 13 = .ok (.ifCond .ne 6, 3) := by decide +kernel
set_option maxRecDepth 20000 in
theorem dX8_add_16 : decode cX8_add 16 = .ok (.bipush (-11), 2) := by decide +kernel
set_option maxRecDepth 20000 in
theorem dX8_add_18 : decode cX8_add 18 = .ok (.ireturn, 1) := by decide +kernel
set_option maxRecDepth 20000 in
theorem dX8_add_19 : decode cX8_add 19 = .ok (.aload_n 0, 1) := by decide +kernel
set_option maxRecDepth 20000 in
theorem dX8_add_20 : decode cX8_add 20 = .ok (.getfield 7, 3) := by decide +kernel
set_option maxRecDepth 20000 in
theorem dX8_add_23 : decode cX8_add 23 = .ok (.iconst 0, 1) := by decide +kernel
set_option maxRecDepth 20000 in
theorem dX8_add_24 : decode cX8_add 24 = .ok (.iaload, 1) := by decide +kernel
set_option maxRecDepth 20000 in
theorem dX8_add_25 : decode cX8_add 25 = .ok (.bipush 16, 2) := by decide +kernel
set_option maxRecDepth 20000 in
theorem dX8_add_27 : decode cX8_add 27 = .ok (.if_icmp .ne 6, 3) := by decide +kernel
set_option maxRecDepth 20000 in
theorem dX8_add_30 : decode cX8_add 30 = .ok (.bipush (-13), 2) := by decide +kernel
set_option maxRecDepth 20000 in
theorem dX8_add_32 : decode cX8_add 32 = .ok (.ireturn, 1) := by decide +kernel
set_option maxRecDepth 20000 in
theorem dX8_add_33 : decode cX8_add 33 = .ok (.aload_n 0, 1) := by decide +kernel
set_option maxRecDepth 20000 in
theorem dX8_add_34 : decode cX8_add 34 = .ok (.invokevirtual 55, 3) := by decide +kernel
set_option maxRecDepth 20000 in
theorem dX8_add_37 : decode cX8_add 37 = .ok (.aload_n 0, 1) := by decide +kernel
set_option maxRecDepth 20000 in
theorem dX8_add_38 : decode cX8_add 38 = .ok (.getfield 7, 3) := by decide +kernel
set_option maxRecDepth 20000 in
theorem dX8_add_41 : decode cX8_add 41 = .ok (.iconst 2, 1) := by decide +kernel
set_option maxRecDepth 20000 in
theorem dX8_add_42 : decode cX8_add 42 = .ok (.aload_n 0, 1) := by decide +kernel
set_option maxRecDepth 20000 in
theorem dX8_add_43 : decode cX8_add 43 = .ok (.getfield 7, 3) := by decide +kernel
set_option maxRecDepth 20000 in
theorem dX8_add_46 : decode cX8_add 46 = .ok (.iconst 0, 1) := by decide +kernel
set_option maxRecDepth 20000 in
theorem dX8_add_47 : decode cX8_add 47 = .ok (.iaload, 1) := by decide +kernel
set_option maxRecDepth 20000 in
theorem dX8_add_48 : decode cX8_add 48 = .ok (.iadd, 1) := by decide +kernel
set_option maxRecDepth 20000 in
theorem dX8_add_49 : decode cX8_add 49 = .ok (.iload_n 1, 1) := by decide +kernel
set_option maxRecDepth 20000 in
theorem dX8_add_50 : decode cX8_add 50 = .ok (.iastore, 1) := by decide +kernel
set_option maxRecDepth 20000 in
theorem dX8_add_51 : decode cX8_add 51 = .ok (.aload_n 0, 1) := by decide +kernel
set_option maxRecDepth 20000 in
theorem dX8_add_52 : decode cX8_add 52 = .ok (.getfield 7, 3) := by decide +kernel
set_option maxRecDepth 20000 in
theorem dX8_add_55 : decode cX8_add 55 = .ok (.bipush 18, 2) := by decide +kernel
set_option maxRecDepth 20000 in
theorem dX8_add_57 : decode cX8_add 57 = .ok (.aload_n 0, 1) := by decide +kernel
set_option maxRecDepth 20000 in
theorem dX8_add_58 : decode cX8_add 58 = .ok (.getfield 7, 3) := by decide +kernel
set_option maxRecDepth 20000 in
theorem dX8_add_61 : decode cX8_add 61 = .ok (.iconst 0, 1) := by decide +kernel
set_option maxRecDepth 20000 in
theorem dX8_add_62 : decode cX8_add 62 = .ok (.iaload, 1) := by decide +kernel
set_option maxRecDepth 20000 in
theorem dX8_add_63 : decode cX8_add 63 = .ok (.iadd, 1) := by decide +kernel
set_option maxRecDepth 20000 in
theorem dX8_add_64 : decode cX8_add 64 = .ok (.iload_n 2, 1) := by decide +kernel
set_option maxRecDepth 20000 in
theorem dX8_add_65 : decode cX8_add 65 = .ok (.iastore, 1) := by decide +kernel
set_option maxRecDepth 20000 in
theorem dX8_add_66 : decode cX8_add 66 = .ok (.aload_n 0, 1) := by decide +kernel
set_option maxRecDepth 20000 in
theorem dX8_add_67 : decode cX8_add 67 = .ok (.getfield 7, 3) := by decide +kernel
set_option maxRecDepth 20000 in
theorem dX8_add_70 : decode cX8_add 70 = .ok (.bipush 34, 2) := by decide +kernel
set_option maxRecDepth 20000 in
theorem dX8_add_72 : decode cX8_add 72 = .ok (.aload_n 0, 1) := by decide +kernel
set_option maxRecDepth 20000 in
theorem dX8_add_73 : decode cX8_add 73 = .ok (.getfield 7, 3) := by decide +kernel
set_option maxRecDepth 20000 in
theorem dX8_add_76 : decode cX8_add 76 = .ok (.iconst 0, 1) := by decide +kernel
set_option maxRecDepth 20000 in
theorem dX8_add_77 : decode cX8_add 77 = .ok (.iaload, 1) := by decide +kernel
set_option maxRecDepth 20000 in
theorem dX8_add_78 : decode cX8_add 78 = .ok (.iadd, 1) := by decide +kernel
set_option maxRecDepth 20000 in
theorem dX8_add_79 : decode cX8_add 79 = .ok (.iload_n 3, 1) := by decide +kernel
set_option maxRecDepth 20000 in
theorem dX8_add_80 : decode cX8_add 80 = .ok (.iastore, 1) := by decide +kernel
set_option maxRecDepth 20000 in
theorem dX8_add_81 : decode cX8_add 81 = .ok (.aload_n 0, 1) := by decide +kernel
set_option maxRecDepth 20000 in
theorem dX8_add_82 : decode cX8_add 82 = .ok (.getfield 7, 3) := by decide +kernel
set_option maxRecDepth 20000 in
theorem dX8_add_85 : decode cX8_add 85 = .ok (.iconst 0, 1) := by decide +kernel
set_option maxRecDepth 20000 in
theorem dX8_add_86 : decode cX8_add 86 = .ok (.dup2, 1) := by decide +kernel
set_option maxRecDepth 20000 in
theorem dX8_add_87 : decode cX8_add 87 = .ok (.iaload, 1) := by decide +kernel
set_option maxRecDepth 20000 in
theorem dX8_add_88 : decode cX8_add 88 = .ok (.iconst 1, 1) := by decide +kernel
set_option maxRecDepth 20000 in
theorem dX8_add_89 : decode cX8_add 89 = .ok (.iadd, 1) := by decide +kernel
set_option maxRecDepth 20000 in
theorem dX8_add_90 : decode cX8_add 90 = .ok (.iastore, 1) := by decide +kernel
set_option maxRecDepth 20000 in
theorem dX8_add_91 : decode cX8_add 91 = .ok (.aload_n 0, 1) := by decide +kernel
set_option maxRecDepth 20000 in
theorem dX8_add_92 : decode cX8_add 92 = .ok (.getfield 7, 3) := by decide +kernel
set_option maxRecDepth 20000 in
theorem dX8_add_95 : decode cX8_add 95 = .ok (.iconst 0, 1) := by decide +kernel
set_option maxRecDepth 20000 in
theorem dX8_add_96 : decode cX8_add 96 = .ok (.iaload, 1) := by decide +kernel
set_option maxRecDepth 20000 in
theorem dX8_add_97 : decode cX8_add 97 = .ok (.iconst 1, 1) := by decide +kernel
set_option maxRecDepth 20000 in
theorem dX8_add_98 : decode cX8_add 98 = .ok (.isub, 1) := by decide +kernel
set_option maxRecDepth 20000 in
theorem dX8_add_99 : decode cX8_add 99 = .ok (.ireturn, 1) := by decide +kernel
set_option maxRecDepth 20000 in
theorem dX8_remove_0 : decode cX8_remove 0 = .ok (.iconst 0, 1) := by decide +kernel
set_option maxRecDepth 20000 in
theorem dX8_remove_1 : decode cX8_remove 1 = .ok (.istore_n 1, 1) := by decide +kernel
set_option maxRecDepth 20000 in
theorem dX8_remove_2 : decode cX8_remove 2 = .ok (.iconst 0, 1) := by decide +kernel
set_option maxRecDepth 20000 in
theorem dX8_remove_3 : decode cX8_remove 3 = .ok (.istore_n 2, 1) := by decide +kernel
set_option maxRecDepth 20000 in
theorem dX8_remove_4 : decode cX8_remove 4 = .ok (.iload_n 2, 1) := by decide +kernel
set_option maxRecDepth 20000 in
theorem dX8_remove_5 : decode cX8_remove 5 = .ok (.aload_n 0, 1) := by decide +kernel
set_option maxRecDepth 20000 in
theorem dX8_remove_6 : decode cX8_remove 6 = .ok (.getfield 7, 3) := by decide +kernel
set_option maxRecDepth 20000 in
theorem dX8_remove_9 : decode cX8_remove 9 = .ok (.iconst 1, 1) := by decide +kernel
set_option maxRecDepth 20000 in
theorem dX8_remove_10 : decode cX8_remove 10 = .ok (.iaload, 1) := by decide +kernel
set_option maxRecDepth 20000 in
theorem dX8_remove_11 : decode cX8_remove 11 = .ok (.if_icmp .ge 36, 3) := by decide +kernel
set_option maxRecDepth 20000 in
theorem dX8_remove_14 : decode cX8_remove 14 = .ok (.iload_n 1, 1) := by decide +kernel
set_option maxRecDepth 20000 in
theorem dX8_remove_15 : decode cX8_remove 15 = .ok (.ifCond .ne 20, 3) := by decide +kernel
set_option maxRecDepth 20000 in
theorem dX8_remove_18 : decode cX8_remove 18 = .ok (.aload_n 0, 1) := by decide +kernel
set_option maxRecDepth 20000 in
theorem dX8_remove_19 : decode cX8_remove 19 = .ok (.iload_n 2, 1) := by decide +kernel
set_option maxRecDepth 20000 in
theorem dX8_remove_20 : decode cX8_remove 20 = .ok (.iconst 4, 1) := by decide +kernel
set_option maxRecDepth 20000 in
theorem dX8_remove_21 : decode cX8_remove 21 = .ok (.invokevirtual 58, 3) := by decide +kernel
set_option maxRecDepth 20000 in
theorem dX8_remove_24 : decode cX8_remove 24 = .ok (.aload_n 0, 1) := by decide +kernel
set_option maxRecDepth 20000 in
theorem dX8_remove_25 : decode cX8_remove 25 = .ok (.getfield 7, 3) := by decide +kernel
set_option maxRecDepth 20000 in
theorem dX8_remove_28 : decode cX8_remove 28 = .ok (.iconst 0, 1) := by decide +kernel
set_option maxRecDepth 20000 in
theorem dX8_remove_29 : decode cX8_remove 29 = .ok (.iaload, 1) := by decide +kernel
set_option maxRecDepth 20000 in
theorem dX8_remove_30 : decode cX8_remove 30 = .ok (.iconst 1, 1) := by decide +kernel
set_option maxRecDepth 20000 in
theorem dX8_remove_31 : decode cX8_remove 31 = .ok (.isub, 1) := by decide +kernel
set_option maxRecDepth 20000 in
theorem dX8_remove_32 : decode cX8_remove 32 = .ok (.if_icmp .ne 7, 3) := by decide +kernel
set_option maxRecDepth 20000 in
theorem dX8_remove_35 : decode cX8_remove 35 = .ok (.iconst 1, 1) := by decide +kernel
set_option maxRecDepth 20000 in
theorem dX8_remove_36 : decode cX8_remove 36 = .ok (.goto 4, 3) := by decide +kernel
set_option maxRecDepth 20000 in
theorem dX8_remove_39 : decode cX8_remove 39 = .ok (.iconst 0, 1) := by decide +kernel
set_option maxRecDepth 20000 in
theorem dX8_remove_40 : decode cX8_remove 40 = .ok (.istore_n 1, 1) := by decide +kernel
set_option maxRecDepth 20000 in
theorem dX8_remove_41 : decode cX8_remove 41 = .ok (.iinc 2 1, 3) := by decide +kernel
set_option maxRecDepth 20000 in
theorem dX8_remove_44 : decode cX8_remove 44 = .ok (.goto (-40), 3) := by decide +kernel
