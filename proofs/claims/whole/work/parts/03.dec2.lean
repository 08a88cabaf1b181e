set_option maxRecDepth 20000 in
theorem dX8_remove_47 : decode cX8_remove 47 = .ok (.aload_n 0, 1) := by decide +kernel
set_option maxRecDepth 20000 in
theorem dX8_remove_48 : decode cX8_remove 48 = .ok (.getfield 7, 3) := by decide +kernel
set_option maxRecDepth 20000 in
theorem dX8_remove_51 : decode cX8_remove 51 = .ok (.iconst 0, 1) := by decide +kernel
set_option maxRecDepth 20000 in
theorem dX8_remove_52 : decode cX8_remove 52 = .ok (.iaload, 1) := by decide +kernel
set_option maxRecDepth 20000 in
theorem dX8_remove_53 : decode cX8_remove 53 = .ok (.iconst 1, 1) := by decide +kernel
set_option maxRecDepth 20000 in
theorem dX8_remove_54 : decode cX8_remove 54 = .ok (.if_icmp .eq 7, 3) := by decide +kernel
set_option maxRecDepth 20000 in
theorem dX8_remove_57 : decode cX8_remove 57 = .ok (.iload_n 1, 1) := by decide +kernel
set_option maxRecDepth 20000 in
theorem dX8_remove_58 : decode cX8_remove 58 = .ok (.ifCond .eq 6, 3) := by decide +kernel
set_option maxRecDepth 20000 in
theorem dX8_remove_61 : decode cX8_remove 61 = .ok (.bipush (-12), 2) := by decide +kernel
set_option maxRecDepth 20000 in
theorem dX8_remove_63 : decode cX8_remove 63 = .ok (.ireturn, 1) := by decide +kernel
set_option maxRecDepth 20000 in
theorem dX8_remove_64 : decode cX8_remove 64 = .ok (.aload_n 0, 1) := by decide +kernel
set_option maxRecDepth 20000 in
theorem dX8_remove_65 : decode cX8_remove 65 = .ok (.invokevirtual 55, 3) := by decide +kernel
set_option maxRecDepth 20000 in
theorem dX8_remove_68 : decode cX8_remove 68 = .ok (.aload_n 0, 1) := by decide +kernel
set_option maxRecDepth 20000 in
theorem dX8_remove_69 : decode cX8_remove 69 = .ok (.getfield 7, 3) := by decide +kernel
set_option maxRecDepth 20000 in
theorem dX8_remove_72 : decode cX8_remove 72 = .ok (.iconst 0, 1) := by decide +kernel
set_option maxRecDepth 20000 in
theorem dX8_remove_73 : decode cX8_remove 73 = .ok (.dup2, 1) := by decide +kernel
set_option maxRecDepth 20000 in
theorem dX8_remove_74 : decode cX8_remove 74 = .ok (.iaload, 1) := by decide +kernel
set_option maxRecDepth 20000 in
theorem dX8_remove_75 : decode cX8_remove 75 = .ok (.iconst 1, 1) := by decide +kernel
set_option maxRecDepth 20000 in
theorem dX8_remove_76 : decode cX8_remove 76 = .ok (.isub, 1) := by decide +kernel
set_option maxRecDepth 20000 in
theorem dX8_remove_77 : decode cX8_remove 77 = .ok (.iastore, 1) := by decide +kernel
set_option maxRecDepth 20000 in
theorem dX8_remove_78 : decode cX8_remove 78 = .ok (.aload_n 0, 1) := by decide +kernel
set_option maxRecDepth 20000 in
theorem dX8_remove_79 : decode cX8_remove 79 = .ok (.getfield 7, 3) := by decide +kernel
set_option maxRecDepth 20000 in
theorem dX8_remove_82 : decode cX8_remove 82 = .ok (.iconst 0, 1) := by decide +kernel
set_option maxRecDepth 20000 in
theorem dX8_remove_83 : decode cX8_remove 83 = .ok (.iaload, 1) := by decide +kernel
set_option maxRecDepth 20000 in
theorem dX8_remove_84 : decode cX8_remove 84 = .ok (.ireturn, 1) := by decide +kernel
set_option maxRecDepth 20000 in
theorem dX8_dress_0 : decode cX8_dress 0 = .ok (.aload_n 0, 1) := by decide +kernel
set_option maxRecDepth 20000 in
theorem dX8_dress_1 : decode cX8_dress 1 = .ok (.iload_n 1, 1) := by decide +kernel
set_option maxRecDepth 20000 in
theorem dX8_dress_2 : decode cX8_dress 2 = .ok (.invokevirtual 47, 3) := by decide +kernel
set_option maxRecDepth 20000 in
theorem dX8_dress_5 : decode cX8_dress 5 = .ok (.ifCond .eq 11, 3) := by decide +kernel
set_option maxRecDepth 20000 in
theorem dX8_dress_8 : decode cX8_dress 8 = .ok (.iload_n 2, 1) := by decide +kernel
set_option maxRecDepth 20000 in
theorem dX8_dress_9 : decode cX8_dress 9 = .ok (.iload_n 3, 1) := by decide +kernel
set_option maxRecDepth 20000 in
theorem dX8_dress_10 : decode cX8_dress 10 = .ok (.invokestatic 51, 3) := by decide +kernel
set_option maxRecDepth 20000 in
theorem dX8_dress_13 : decode cX8_dress 13 = .ok (.ifCond .ne 6, 3) := by decide +kernel
set_option maxRecDepth 20000 in
theorem dX8_dress_16 : decode cX8_dress 16 = .ok (.bipush (-11), 2) := by decide +kernel
set_option maxRecDepth 20000 in
theorem dX8_dress_18 : decode cX8_dress 18 = .ok (.ireturn, 1) := by decide +kernel
set_option maxRecDepth 20000 in
theorem dX8_dress_19 : decode cX8_dress 19 = .ok (.aload_n 0, 1) := by decide +kernel
set_option maxRecDepth 20000 in
theorem dX8_dress_20 : decode cX8_dress 20 = .ok (.invokevirtual 55, 3) := by decide +kernel
set_option maxRecDepth 20000 in
theorem dX8_dress_23 : decode cX8_dress 23 = .ok (.bipush 16, 2) := by decide +kernel
set_option maxRecDepth 20000 in
theorem dX8_dress_25 : decode cX8_dress 25 = .ok (.aload_n 0, 1) := by decide +kernel
set_option maxRecDepth 20000 in
theorem dX8_dress_26 : decode cX8_dress 26 = .ok (.getfield 7, 3) := by decide +kernel
set_option maxRecDepth 20000 in
theorem dX8_dress_29 : decode cX8_dress 29 = .ok (.bipush 18, 2) := by decide +kernel
set_option maxRecDepth 20000 in
theorem dX8_dress_31 : decode cX8_dress 31 = .ok (.iload_n 1, 1) := by decide +kernel
set_option maxRecDepth 20000 in
theorem dX8_dress_32 : decode cX8_dress 32 = .ok (.iadd, 1) := by decide +kernel
set_option maxRecDepth 20000 in
theorem dX8_dress_33 : decode cX8_dress 33 = .ok (.iaload, 1) := by decide +kernel
set_option maxRecDepth 20000 in
theorem dX8_dress_34 : decode cX8_dress 34 = .ok (.imul, 1) := by decide +kernel
set_option maxRecDepth 20000 in
theorem dX8_dress_35 : decode cX8_dress 35 = .ok (.aload_n 0, 1) := by decide +kernel
set_option maxRecDepth 20000 in
theorem dX8_dress_36 : decode cX8_dress 36 = .ok (.getfield 7, 3) := by decide +kernel
set_option maxRecDepth 20000 in
theorem dX8_dress_39 : decode cX8_dress 39 = .ok (.bipush 34, 2) := by decide +kernel
set_option maxRecDepth 20000 in
theorem dX8_dress_41 : decode cX8_dress 41 = .ok (.iload_n 1, 1) := by decide +kernel
set_option maxRecDepth 20000 in
theorem dX8_dress_42 : decode cX8_dress 42 = .ok (.iadd, 1) := by decide +kernel
set_option maxRecDepth 20000 in
theorem dX8_dress_43 : decode cX8_dress 43 = .ok (.iaload, 1) := by decide +kernel
set_option maxRecDepth 20000 in
theorem dX8_dress_44 : decode cX8_dress 44 = .ok (.iadd, 1) := by decide +kernel
set_option maxRecDepth 20000 in
theorem dX8_dress_45 : decode cX8_dress 45 = .ok (.istore 4, 2) := by decide +kernel
set_option maxRecDepth 20000 in
theorem dX8_dress_47 : decode cX8_dress 47 = .ok (.aload_n 0, 1) := by decide +kernel
set_option maxRecDepth 20000 in
theorem dX8_dress_48 : decode cX8_dress 48 = .ok (.getfield 7, 3) := by decide +kernel
set_option maxRecDepth 20000 in
theorem dX8_dress_51 : decode cX8_dress 51 = .ok (.bipush 18, 2) := by decide +kernel
set_option maxRecDepth 20000 in
theorem dX8_dress_53 : decode cX8_dress 53 = .ok (.iload_n 1, 1) := by decide +kernel
set_option maxRecDepth 20000 in
theorem dX8_dress_54 : decode cX8_dress 54 = .ok (.iadd, 1) := by decide +kernel
set_option maxRecDepth 20000 in
theorem dX8_dress_55 : decode cX8_dress 55 = .ok (.iload_n 2, 1) := by decide +kernel
set_option maxRecDepth 20000 in
theorem dX8_dress_56 : decode cX8_dress 56 = .ok (.iastore, 1) := by decide +kernel
set_option maxRecDepth 20000 in
theorem dX8_dress_57 : decode cX8_dress 57 = .ok (.aload_n 0, 1) := by decide +kernel
set_option maxRecDepth 20000 in
theorem dX8_dress_58 : decode cX8_dress 58 = .ok (.getfield 7, 3) := by decide +kernel
set_option maxRecDepth 20000 in
theorem dX8_dress_61 : decode cX8_dress 61 = .ok (.bipush 34, 2) := by decide +kernel
set_option maxRecDepth 20000 in
theorem dX8_dress_63 : decode cX8_dress 63 = .ok (.iload_n 1, 1) := by decide +kernel
set_option maxRecDepth 20000 in
theorem dX8_dress_64 : decode cX8_dress 64 = .ok (.iadd, 1) := by decide +kernel
set_option maxRecDepth 20000 in
theorem dX8_dress_65 : decode cX8_dress 65 = .ok (.iload_n 3, 1) := by decide +kernel
set_option maxRecDepth 20000 in
theorem dX8_dress_66 : decode cX8_dress 66 = .ok (.iastore, 1) := by decide +kernel
set_option maxRecDepth 20000 in
theorem dX8_dress_67 : decode cX8_dress 67 = .ok (.iload 4, 2) := by decide +kernel
set_option maxRecDepth 20000 in
theorem dX8_dress_69 : decode cX8_dress 69 = .ok (.ireturn, 1) := by decide +kernel
set_option maxRecDepth 20000 in
theorem dX8_stepsTo_0 : decode cX8_stepsTo 0 = .ok (.iconst 0, 1) := by decide +kernel
set_option maxRecDepth 20000 in
theorem dX8_stepsTo_1 : decode cX8_stepsTo 1 = .ok (.istore_n 3, 1) := by decide +kernel
set_option maxRecDepth 20000 in
theorem dX8_stepsTo_2 : decode cX8_stepsTo 2 = .ok (.iload_n 1, 1) := by decide +kernel
set_option maxRecDepth 20000 in
theorem dX8_stepsTo_3 : decode cX8_stepsTo 3 = .ok (.istore 4, 2) := by decide +kernel
set_option maxRecDepth 20000 in
theorem dX8_stepsTo_5 : decode cX8_stepsTo 5 = .ok (.iload 4, 2) := by decide +kernel
set_option maxRecDepth 20000 in
theorem dX8_stepsTo_7 : decode cX8_stepsTo 7 = .ok (.iconst (-1), 1) := by decide +kernel
set_option maxRecDepth 20000 in
theorem dX8_stepsTo_8 : decode cX8_stepsTo 8 = .ok (.if_icmp .eq 26, 3) := by decide +kernel
set_option maxRecDepth 20000 in
theorem dX8_stepsTo_11 : decode cX8_stepsTo 11 = .ok (.iload 4, 2) := by decide +kernel
set_option maxRecDepth 20000 in
theorem dX8_stepsTo_13 : decode cX8_stepsTo 13 = .ok (.iload_n 2, 1) := by decide +kernel
set_option maxRecDepth 20000 in
theorem dX8_stepsTo_14 : decode cX8_stepsTo 14 = .ok (.if_icmp .eq 20, 3) := by decide +kernel
set_option maxRecDepth 20000 in
theorem dX8_stepsTo_17 : decode cX8_stepsTo 17 = .ok (.aload_n 0, 1) := by decide +kernel
set_option maxRecDepth 20000 in
theorem dX8_stepsTo_18 : decode cX8_stepsTo 18 = .ok (.getfield 7, 3) := by decide +kernel
set_option maxRecDepth 20000 in
theorem dX8_stepsTo_21 : decode cX8_stepsTo 21 = .ok (.iconst 2, 1) := by decide +kernel
set_option maxRecDepth 20000 in
theorem dX8_stepsTo_22 : decode cX8_stepsTo 22 = .ok (.iload 4, 2) := by decide +kernel
set_option maxRecDepth 20000 in
theorem dX8_stepsTo_24 : decode cX8_stepsTo 24 = .ok (.iadd, 1) := by decide +kernel
set_option maxRecDepth 20000 in
theorem dX8_stepsTo_25 : decode cX8_stepsTo 25 = .ok (.iaload, 1) := by decide +kernel
set_option maxRecDepth 20000 in
theorem dX8_stepsTo_26 : decode cX8_stepsTo 26 = .ok (.istore 4, 2) := by decide +kernel
set_option maxRecDepth 20000 in
theorem dX8_stepsTo_28 : decode cX8_stepsTo 28 = .ok (.iinc 3 1, 3) := by decide +kernel
set_option maxRecDepth 20000 in
theorem dX8_stepsTo_31 : decode cX8_stepsTo 31 = .ok (.goto (-26), 3) := by decide +kernel
set_option maxRecDepth 20000 in
theorem dX8_stepsTo_34 : decode cX8_stepsTo 34 = .ok (.iload 4, 2) := by decide +kernel
set_option maxRecDepth 20000 in
theorem dX8_stepsTo_36 : decode cX8_stepsTo 36 = .ok (.iload_n 2, 1) := by decide +kernel
set_option maxRecDepth 20000 in
theorem dX8_stepsTo_37 : decode cX8_stepsTo 37 = .ok (.if_icmp .ne 7, 3) := by decide +kernel
set_option maxRecDepth 20000 in
theorem dX8_stepsTo_40 : decode cX8_stepsTo 40 = .ok (.iload_n 3, 1) := by decide +kernel
set_option maxRecDepth 20000 in
theorem dX8_stepsTo_41 : decode cX8_stepsTo 41 = .ok (.goto 4, 3) := by decide +kernel
set_option maxRecDepth 20000 in
theorem dX8_stepsTo_44 : decode cX8_stepsTo 44 = .ok (.iconst (-1), 1) := by decide +kernel
set_option maxRecDepth 20000 in
theorem dX8_stepsTo_45 : decode cX8_stepsTo 45 = .ok (.ireturn, 1) := by decide +kernel
set_option maxRecDepth 20000 in
theorem dX8_meets_0 : decode cX8_meets 0 = .ok (.aload_n 0, 1) := by decide +kernel
set_option maxRecDepth 20000 in
theorem dX8_meets_1 : decode cX8_meets 1 = .ok (.iload_n 1, 1) := by decide +kernel
set_option maxRecDepth 20000 in
theorem dX8_meets_2 : decode cX8_meets 2 = .ok (.iconst 0, 1) := by decide +kernel
set_option maxRecDepth 20000 in
theorem dX8_meets_3 : decode cX8_meets 3 = .ok (.invokevirtual 58, 3) := by decide +kernel
set_option maxRecDepth 20000 in
theorem dX8_meets_6 : decode cX8_meets 6 = .ok (.iconst (-1), 1) := by decide +kernel
set_option maxRecDepth 20000 in
theorem dX8_meets_7 : decode cX8_meets 7 = .ok (.if_icmp .eq 21, 3) := by decide +kernel
set_option maxRecDepth 20000 in
theorem dX8_meets_10 : decode cX8_meets 10 = .ok (.aload_n 0, 1) := by decide +kernel
set_option maxRecDepth 20000 in
theorem dX8_meets_11 : decode cX8_meets 11 = .ok (.iload_n 1, 1) := by decide +kernel
set_option maxRecDepth 20000 in
theorem dX8_meets_12 : decode cX8_meets 12 = .ok (.iconst 0, 1) := by decide +kernel
set_option maxRecDepth 20000 in
theorem dX8_meets_13 : decode cX8_meets 13 = .ok (.invokevirtual 58, 3) := by decide +kernel
set_option maxRecDepth 20000 in
theorem dX8_meets_16 : decode cX8_meets 16 = .ok (.aload_n 0, 1) := by decide +kernel
set_option maxRecDepth 20000 in
theorem dX8_meets_17 : decode cX8_meets 17 = .ok (.getfield 7, 3) := by decide +kernel
set_option maxRecDepth 20000 in
theorem dX8_meets_20 : decode cX8_meets 20 = .ok (.bipush 18, 2) := by decide +kernel
set_option maxRecDepth 20000 in
theorem dX8_meets_22 : decode cX8_meets 22 = .ok (.iload_n 2, 1) := by decide +kernel
set_option maxRecDepth 20000 in
theorem dX8_meets_23 : decode cX8_meets 23 = .ok (.iadd, 1) := by decide +kernel
set_option maxRecDepth 20000 in
theorem dX8_meets_24 : decode cX8_meets 24 = .ok (.iaload, 1) := by decide +kernel
set_option maxRecDepth 20000 in
theorem dX8_meets_25 : decode cX8_meets 25 = .ok (.if_icmp .ne 7, 3) := by decide +kernel
set_option maxRecDepth 20000 in
theorem dX8_meets_28 : decode cX8_meets 28 = .ok (.iconst 1, 1) := by decide +kernel
set_option maxRecDepth 20000 in
theorem dX8_meets_29 : decode cX8_meets 29 = .ok (.goto 4, 3) := by decide +kernel
set_option maxRecDepth 20000 in
theorem dX8_meets_32 : decode cX8_meets 32 = .ok (.iconst 0, 1) := by decide +kernel
set_option maxRecDepth 20000 in
theorem dX8_meets_33 : decode cX8_meets 33 = .ok (.istore_n 3, 1) := by decide +kernel
set_option maxRecDepth 20000 in
theorem dX8_meets_34 : decode cX8_meets 34 = .ok (.aload_n 0, 1) := by decide +kernel
set_option maxRecDepth 20000 in
theorem dX8_meets_35 : decode cX8_meets 35 = .ok (.iload_n 1, 1) := by decide +kernel
set_option maxRecDepth 20000 in
theorem dX8_meets_36 : decode cX8_meets 36 = .ok (.iconst 1, 1) := by decide +kernel
set_option maxRecDepth 20000 in
theorem dX8_meets_37 : decode cX8_meets 37 = .ok (.invokevirtual 58, 3) := by decide +kernel
set_option maxRecDepth 20000 in
theorem dX8_meets_40 : decode cX8_meets 40 = .ok (.aload_n 0, 1) := by decide +kernel
set_option maxRecDepth 20000 in
theorem dX8_meets_41 : decode cX8_meets 41 = .ok (.getfield 7, 3) := by decide +kernel
set_option maxRecDepth 20000 in
theorem dX8_meets_44 : decode cX8_meets 44 = .ok (.bipush 34, 2) := by decide +kernel
set_option maxRecDepth 20000 in
theorem dX8_meets_46 : decode cX8_meets 46 = .ok (.iload_n 2, 1) := by decide +kernel
set_option maxRecDepth 20000 in
theorem dX8_meets_47 : decode cX8_meets 47 = .ok (.iadd, 1) := by decide +kernel
set_option maxRecDepth 20000 in
theorem dX8_meets_48 : decode cX8_meets 48 = .ok (.iaload, 1) := by decide +kernel
set_option maxRecDepth 20000 in
theorem dX8_meets_49 : decode cX8_meets 49 = .ok (.iconst (-1), 1) := by decide +kernel
set_option maxRecDepth 20000 in
theorem dX8_meets_50 : decode cX8_meets 50 = .ok (.ixor, 1) := by decide +kernel
set_option maxRecDepth 20000 in
theorem dX8_meets_51 : decode cX8_meets 51 = .ok (.iand, 1) := by decide +kernel
set_option maxRecDepth 20000 in
theorem dX8_meets_52 : decode cX8_meets 52 = .ok (.ifCond .ne 7, 3) := by decide +kernel
set_option maxRecDepth 20000 in
theorem dX8_meets_55 : decode cX8_meets 55 = .ok (.iconst 1, 1) := by decide +kernel
set_option maxRecDepth 20000 in
theorem dX8_meets_56 : decode cX8_meets 56 = .ok (.goto 4, 3) := by decide +kernel
set_option maxRecDepth 20000 in
theorem dX8_meets_59 : decode cX8_meets 59 = .ok (.iconst 0, 1) := by decide +kernel
set_option maxRecDepth 20000 in
theorem dX8_meets_60 : decode cX8_meets 60 = .ok (.istore 4, 2) := by decide +kernel
set_option maxRecDepth 20000 in
theorem dX8_meets_62 : decode cX8_meets 62 = .ok (.aload_n 0, 1) := by decide +kernel
set_option maxRecDepth 20000 in
theorem dX8_meets_63 : decode cX8_meets 63 = .ok (.iload_n 1, 1) := by decide +kernel
set_option maxRecDepth 20000 in
theorem dX8_meets_64 : decode cX8_meets 64 = .ok (.iconst 2, 1) := by decide +kernel
set_option maxRecDepth 20000 in
theorem dX8_meets_65 : decode cX8_meets 65 = .ok (.invokevirtual 58, 3) := by decide +kernel
set_option maxRecDepth 20000 in
theorem dX8_meets_68 : decode cX8_meets 68 = .ok (.iconst (-1), 1) := by decide +kernel
set_option maxRecDepth 20000 in
theorem dX8_meets_69 : decode cX8_meets 69 = .ok (.if_icmp .ne 7, 3) := by decide +kernel
set_option maxRecDepth 20000 in
theorem dX8_meets_72 : decode cX8_meets 72 = .ok (.iconst 1, 1) := by decide +kernel
set_option maxRecDepth 20000 in
theorem dX8_meets_73 : decode cX8_meets 73 = .ok (.goto 4, 3) := by decide +kernel
set_option maxRecDepth 20000 in
theorem dX8_meets_76 : decode cX8_meets 76 = .ok (.iconst 0, 1) := by decide +kernel
set_option maxRecDepth 20000 in
theorem dX8_meets_77 : decode cX8_meets 77 = .ok (.istore 5, 2) := by decide +kernel
set_option maxRecDepth 20000 in
theorem dX8_meets_79 : decode cX8_meets 79 = .ok (.aload_n 0, 1) := by decide +kernel
set_option maxRecDepth 20000 in
theorem dX8_meets_80 : decode cX8_meets 80 = .ok (.getfield 7, 3) := by decide +kernel
set_option maxRecDepth 20000 in
theorem dX8_meets_83 : decode cX8_meets 83 = .ok (.iconst 2, 1) := by decide +kernel
set_option maxRecDepth 20000 in
theorem dX8_meets_84 : decode cX8_meets 84 = .ok (.iload_n 2, 1) := by decide +kernel
set_option maxRecDepth 20000 in
theorem dX8_meets_85 : decode cX8_meets 85 = .ok (.iadd, 1) := by decide +kernel
set_option maxRecDepth 20000 in
theorem dX8_meets_86 : decode cX8_meets 86 = .ok (.iaload, 1) := by decide +kernel
set_option maxRecDepth 20000 in
theorem dX8_meets_87 : decode cX8_meets 87 = .ok (.istore 6, 2) := by decide +kernel
set_option maxRecDepth 20000 in
theorem dX8_meets_89 : decode cX8_meets 89 = .ok (.iload 6, 2) := by decide +kernel
set_option maxRecDepth 20000 in
theorem dX8_meets_91 : decode cX8_meets 91 = .ok (.iconst (-1), 1) := by decide +kernel
set_option maxRecDepth 20000 in
theorem dX8_meets_92 : decode cX8_meets 92 = .ok (.if_icmp .eq 48, 3) := by decide +kernel
set_option maxRecDepth 20000 in
theorem dX8_meets_95 : decode cX8_meets 95 = .ok (.iload 5, 2) := by decide +kernel
set_option maxRecDepth 20000 in
theorem dX8_meets_97 : decode cX8_meets 97 = .ok (.ifCond .ne 22, 3) := by decide +kernel
set_option maxRecDepth 20000 in
theorem dX8_meets_100 : decode cX8_meets 100 = .ok (.aload_n 0, 1) := by decide +kernel
set_option maxRecDepth 20000 in
theorem dX8_meets_101 : decode cX8_meets 101 = .ok (.getfield 7, 3) := by decide +kernel
set_option maxRecDepth 20000 in
theorem dX8_meets_104 : decode cX8_meets 104 = .ok (.bipush 18, 2) := by decide +kernel
set_option maxRecDepth 20000 in
theorem dX8_meets_106 : decode cX8_meets 106 = .ok (.iload 6, 2) := by decide +kernel
set_option maxRecDepth 20000 in
theorem dX8_meets_108 : decode cX8_meets 108 = .ok (.iadd, 1) := by decide +kernel
set_option maxRecDepth 20000 in
theorem dX8_meets_109 : decode cX8_meets 109 = .ok (.iaload, 1) := by decide +kernel
set_option maxRecDepth 20000 in
theorem dX8_meets_110 : decode cX8_meets 110 = .ok (.aload_n 0, 1) := by decide +kernel
set_option maxRecDepth 20000 in
theorem dX8_meets_111 : decode cX8_meets 111 = .ok (.iload_n 1, 1) := by decide +kernel
set_option maxRecDepth 20000 in
theorem dX8_meets_112 : decode cX8_meets 112 = .ok (.iconst 2, 1) := by decide +kernel
set_option maxRecDepth 20000 in
theorem dX8_meets_113 : decode cX8_meets 113 = .ok (.invokevirtual 58, 3) := by decide +kernel
set_option maxRecDepth 20000 in
theorem dX8_meets_116 : decode cX8_meets 116 = .ok (.if_icmp .ne 7, 3) := by decide +kernel
set_option maxRecDepth 20000 in
theorem dX8_meets_119 : decode cX8_meets 119 = .ok (.iconst 1, 1) := by decide +kernel
set_option maxRecDepth 20000 in
theorem dX8_meets_120 : decode cX8_meets 120 = .ok (.goto 4, 3) := by decide +kernel
set_option maxRecDepth 20000 in
theorem dX8_meets_123 : decode cX8_meets 123 = .ok (.iconst 0, 1) := by decide +kernel
set_option maxRecDepth 20000 in
theorem dX8_meets_124 : decode cX8_meets 124 = .ok (.istore 5, 2) := by decide +kernel
set_option maxRecDepth 20000 in
theorem dX8_meets_126 : decode cX8_meets 126 = .ok (.aload_n 0, 1) := by decide +kernel
set_option maxRecDepth 20000 in
theorem dX8_meets_127 : decode cX8_meets 127 = .ok (.getfield 7, 3) := by decide +kernel
set_option maxRecDepth 20000 in
theorem dX8_meets_130 : decode cX8_meets 130 = .ok (.iconst 2, 1) := by decide +kernel
set_option maxRecDepth 20000 in
theorem dX8_meets_131 : decode cX8_meets 131 = .ok (.iload 6, 2) := by decide +kernel
set_option maxRecDepth 20000 in
theorem dX8_meets_133 : decode cX8_meets 133 = .ok (.iadd, 1) := by decide +kernel
set_option maxRecDepth 20000 in
theorem dX8_meets_134 : decode cX8_meets 134 = .ok (.iaload, 1) := by decide +kernel
set_option maxRecDepth 20000 in
theorem dX8_meets_135 : decode cX8_meets 135 = .ok (.istore 6, 2) := by decide +kernel
set_option maxRecDepth 20000 in
theorem dX8_meets_137 : decode cX8_meets 137 = .ok (.goto (-48), 3) := by decide +kernel
set_option maxRecDepth 20000 in
theorem dX8_meets_140 : decode cX8_meets 140 = .ok (.iload_n 3, 1) := by decide +kernel
set_option maxRecDepth 20000 in
theorem dX8_meets_141 : decode cX8_meets 141 = .ok (.ifCond .eq 41, 3) := by decide +kernel
set_option maxRecDepth 20000 in
theorem dX8_meets_144 : decode cX8_meets 144 = .ok (.iload 4, 2) := by decide +kernel
set_option maxRecDepth 20000 in
theorem dX8_meets_146 : decode cX8_meets 146 = .ok (.ifCond .eq 36, 3) := by decide +kernel
set_option maxRecDepth 20000 in
theorem dX8_meets_149 : decode cX8_meets 149 = .ok (.iload 5, 2) := by decide +kernel
set_option maxRecDepth 20000 in
theorem dX8_meets_151 : decode cX8_meets 151 = .ok (.ifCond .eq 31, 3) := by decide +kernel
set_option maxRecDepth 20000 in
theorem dX8_meets_154 : decode cX8_meets 154 = .ok (.aload_n 0, 1) := by decide +kernel
set_option maxRecDepth 20000 in
theorem dX8_meets_155 : decode cX8_meets 155 = .ok (.iload_n 1, 1) := by decide +kernel
set_option maxRecDepth 20000 in
theorem dX8_meets_156 : decode cX8_meets 156 = .ok (.iconst 4, 1) := by decide +kernel
set_option maxRecDepth 20000 in
theorem dX8_meets_157 : decode cX8_meets 157 = .ok (.invokevirtual 58, 3) := by decide +kernel
set_option maxRecDepth 20000 in
theorem dX8_meets_160 : decode cX8_meets 160 = .ok (.iconst (-1), 1) := by decide +kernel
set_option maxRecDepth 20000 in
theorem dX8_meets_161 : decode cX8_meets 161 = .ok (.if_icmp .eq 17, 3) := by decide +kernel
set_option maxRecDepth 20000 in
theorem dX8_meets_164 : decode cX8_meets 164 = .ok (.aload_n 0, 1) := by decide +kernel
set_option maxRecDepth 20000 in
theorem dX8_meets_165 : decode cX8_meets 165 = .ok (.iload_n 2, 1) := by decide +kernel
set_option maxRecDepth 20000 in
theorem dX8_meets_166 : decode cX8_meets 166 = .ok (.aload_n 0, 1) := by decide +kernel
set_option maxRecDepth 20000 in
theorem dX8_meets_167 : decode cX8_meets 167 = .ok (.iload_n 1, 1) := by decide +kernel
set_option maxRecDepth 20000 in
theorem dX8_meets_168 : decode cX8_meets 168 = .ok (.iconst 4, 1) := by decide +kernel
set_option maxRecDepth 20000 in
theorem dX8_meets_169 : decode cX8_meets 169 = .ok (.invokevirtual 58, 3) := by decide +kernel
set_option maxRecDepth 20000 in
theorem dX8_meets_172 : decode cX8_meets 172 = .ok (.invokevirtual 62, 3) := by decide +kernel
set_option maxRecDepth 20000 in
theorem dX8_meets_175 : decode cX8_meets 175 = .ok (.ifCond .lt 7, 3) := by decide +kernel
set_option maxRecDepth 20000 in
theorem dX8_meets_178 : decode cX8_meets 178 = .ok (.iconst 1, 1) := by decide +kernel
set_option maxRecDepth 20000 in
theorem dX8_meets_179 : decode cX8_meets 179 = .ok (.goto 4, 3) := by decide +kernel
set_option maxRecDepth 20000 in
theorem dX8_meets_182 : decode cX8_meets 182 = .ok (.iconst 0, 1) := by decide +kernel
set_option maxRecDepth 20000 in
theorem dX8_meets_183 : decode cX8_meets 183 = .ok (.ireturn, 1) := by decide +kernel
set_option maxRecDepth 20000 in
theorem dX8_matching_0 : decode cX8_matching 0 = .ok (.iconst 0, 1) := by decide +kernel
set_option maxRecDepth 20000 in
theorem dX8_matching_1 : decode cX8_matching 1 = .ok (.istore_n 2, 1) := by decide +kernel
set_option maxRecDepth 20000 in
theorem dX8_matching_2 : decode cX8_matching 2 = .ok (.iconst 0, 1) := by decide +kernel
set_option maxRecDepth 20000 in
theorem dX8_matching_3 : decode cX8_matching 3 = .ok (.istore_n 3, 1) := by decide +kernel
set_option maxRecDepth 20000 in
theorem dX8_matching_4 : decode cX8_matching 4 = .ok (.iload_n 3, 1) := by decide +kernel
set_option maxRecDepth 20000 in
theorem dX8_matching_5 : decode cX8_matching 5 = .ok (.aload_n 0, 1) := by decide +kernel
set_option maxRecDepth 20000 in
theorem dX8_matching_6 : decode cX8_matching 6 = .ok (.getfield 7, 3) := by decide +kernel
set_option maxRecDepth 20000 in
theorem dX8_matching_9 : decode cX8_matching 9 = .ok (.iconst 1, 1) := by decide +kernel
set_option maxRecDepth 20000 in
theorem dX8_matching_10 : decode cX8_matching 10 = .ok (.iaload, 1) := by decide +kernel
set_option maxRecDepth 20000 in
theorem dX8_matching_11 : decode cX8_matching 11 = .ok (.if_icmp .ge 26, 3) := by decide +kernel
set_option maxRecDepth 20000 in
theorem dX8_matching_14 : decode cX8_matching 14 = .ok (.iload_n 2, 1) := by decide +kernel
set_option maxRecDepth 20000 in
theorem dX8_matching_15 : decode cX8_matching 15 = .ok (.aload_n 0, 1) := by decide +kernel
set_option maxRecDepth 20000 in
theorem dX8_matching_16 : decode cX8_matching 16 = .ok (.iload_n 3, 1) := by decide +kernel
set_option maxRecDepth 20000 in
theorem dX8_matching_17 : decode cX8_matching 17 = .ok (.iload_n 1, 1) := by decide +kernel
set_option maxRecDepth 20000 in
theorem dX8_matching_18 : decode cX8_matching 18 = .ok (.invokevirtual 65, 3) := by decide +kernel
set_option maxRecDepth 20000 in
theorem dX8_matching_21 : decode cX8_matching 21 = .ok (.ifCond .eq 7, 3) := by decide +kernel
set_option maxRecDepth 20000 in
theorem dX8_matching_24 : decode cX8_matching 24 = .ok (.iconst 1, 1) := by decide +kernel
set_option maxRecDepth 20000 in
theorem dX8_matching_25 : decode cX8_matching 25 = .ok (.goto 4, 3) := by decide +kernel
set_option maxRecDepth 20000 in
theorem dX8_matching_28 : decode cX8_matching 28 = .ok (.iconst 0, 1) := by decide +kernel
set_option maxRecDepth 20000 in
theorem dX8_matching_29 : decode cX8_matching 29 = .ok (.iadd, 1) := by decide +kernel
set_option maxRecDepth 20000 in
theorem dX8_matching_30 : decode cX8_matching 30 = .ok (.istore_n 2, 1) := by decide +kernel
set_option maxRecDepth 20000 in
theorem dX8_matching_31 : decode cX8_matching 31 = .ok (.iinc 3 1, 3) := by decide +kernel
set_option maxRecDepth 20000 in
theorem dX8_matching_34 : decode cX8_matching 34 = .ok (.goto (-30), 3) := by decide +kernel
set_option maxRecDepth 20000 in
theorem dX8_matching_37 : decode cX8_matching 37 = .ok (.iload_n 2, 1) := by decide +kernel
set_option maxRecDepth 20000 in
theorem dX8_matching_38 : decode cX8_matching 38 = .ok (.ireturn, 1) := by decide +kernel
set_option maxRecDepth 20000 in
theorem dX8_cycles_0 : decode cX8_cycles 0 = .ok (.iconst 0, 1) := by decide +kernel
set_option maxRecDepth 20000 in
theorem dX8_cycles_1 : decode cX8_cycles 1 = .ok (.istore_n 2, 1) := by decide +kernel
set_option maxRecDepth 20000 in
theorem dX8_cycles_2 : decode cX8_cycles 2 = .ok (.bipush 8, 2) := by decide +kernel
set_option maxRecDepth 20000 in
theorem dX8_cycles_4 : decode cX8_cycles 4 = .ok (.istore_n 3, 1) := by decide +kernel
set_option maxRecDepth 20000 in
theorem dX8_cycles_5 : decode cX8_cycles 5 = .ok (.iload_n 3, 1) := by decide +kernel
set_option maxRecDepth 20000 in
theorem dX8_cycles_6 : decode cX8_cycles 6 = .ok (.bipush 16, 2) := by decide +kernel
set_option maxRecDepth 20000 in
theorem dX8_cycles_8 : decode cX8_cycles 8 = .ok (.if_icmp .ge 26, 3) := by decide +kernel
set_option maxRecDepth 20000 in
theorem dX8_cycles_11 : decode cX8_cycles 11 = .ok (.iload_n 2, 1) := by decide +kernel
set_option maxRecDepth 20000 in
theorem dX8_cycles_12 : decode cX8_cycles 12 = .ok (.aload_n 0, 1) := by decide +kernel
set_option maxRecDepth 20000 in
theorem dX8_cycles_13 : decode cX8_cycles 13 = .ok (.iload_n 1, 1) := by decide +kernel
set_option maxRecDepth 20000 in
theorem dX8_cycles_14 : decode cX8_cycles 14 = .ok (.iload_n 3, 1) := by decide +kernel
set_option maxRecDepth 20000 in
theorem dX8_cycles_15 : decode cX8_cycles 15 = .ok (.invokevirtual 68, 3) := by decide +kernel
set_option maxRecDepth 20000 in
theorem dX8_cycles_18 : decode cX8_cycles 18 = .ok (.ifCond .le 7, 3) := by decide +kernel
set_option maxRecDepth 20000 in
theorem dX8_cycles_21 : decode cX8_cycles 21 = .ok (.iconst 1, 1) := by decide +kernel
set_option maxRecDepth 20000 in
theorem dX8_cycles_22 : decode cX8_cycles 22 = .ok (.goto 4, 3) := by decide +kernel
set_option maxRecDepth 20000 in
theorem dX8_cycles_25 : decode cX8_cycles 25 = .ok (.iconst 0, 1) := by decide +kernel
set_option maxRecDepth 20000 in
theorem dX8_cycles_26 : decode cX8_cycles 26 = .ok (.iadd, 1) := by decide +kernel
set_option maxRecDepth 20000 in
theorem dX8_cycles_27 : decode cX8_cycles 27 = .ok (.istore_n 2, 1) := by decide +kernel
set_option maxRecDepth 20000 in
theorem dX8_cycles_28 : decode cX8_cycles 28 = .ok (.iinc 3 1, 3) := by decide +kernel
set_option maxRecDepth 20000 in
theorem dX8_cycles_31 : decode cX8_cycles 31 = .ok (.goto (-26), 3) := by decide +kernel
set_option maxRecDepth 20000 in
theorem dX8_cycles_34 : decode cX8_cycles 34 = .ok (.iload_n 2, 1) := by decide +kernel
set_option maxRecDepth 20000 in
theorem dX8_cycles_35 : decode cX8_cycles 35 = .ok (.ireturn, 1) := by decide +kernel
set_option maxRecDepth 20000 in
theorem dX8_element_0 : decode cX8_element 0 = .ok (.aload_n 0, 1) := by decide +kernel
set_option maxRecDepth 20000 in
theorem dX8_element_1 : decode cX8_element 1 = .ok (.iload_n 1, 1) := by decide +kernel
set_option maxRecDepth 20000 in
theorem dX8_element_2 : decode cX8_element 2 = .ok (.invokevirtual 47, 3) := by decide +kernel
set_option maxRecDepth 20000 in
theorem dX8_element_5 : decode cX8_element 5 = .ok (.ifCond .eq 12, 3) := by decide +kernel
set_option maxRecDepth 20000 in
theorem dX8_element_8 : decode cX8_element 8 = .ok (.iload_n 2, 1) := by decide +kernel
set_option maxRecDepth 20000 in
theorem dX8_element_9 : decode cX8_element 9 = .ok (.iconst 0, 1) := by decide +kernel
set_option maxRecDepth 20000 in
theorem dX8_element_10 : decode cX8_element 10 = .ok (.iconst 5, 1) := by decide +kernel
set_option maxRecDepth 20000 in
theorem dX8_element_11 : decode cX8_element 11 = .ok (.invokestatic 39, 3) := by decide +kernel
set_option maxRecDepth 20000 in
theorem dX8_element_14 : decode cX8_element 14 = .ok (.ifCond .ne 6, 3) := by decide +kernel
set_option maxRecDepth 20000 in
theorem dX8_element_17 : decode cX8_element 17 = .ok (.bipush (-11), 2) := by decide +kernel
set_option maxRecDepth 20000 in
theorem dX8_element_19 : decode cX8_element 19 = .ok (.ireturn, 1) := by decide +kernel
set_option maxRecDepth 20000 in
theorem dX8_element_20 : decode cX8_element 20 = .ok (.iload_n 2, 1) := by decide +kernel
set_option maxRecDepth 20000 in
theorem dX8_element_21 : decode cX8_element 21 = .ok (.tableswitch 86 0 4 #[35, 53, 63, 73, 80], 35) := by decide +kernel
set_option maxRecDepth 20000 in
theorem dX8_element_56 : decode cX8_element 56 = .ok (.iload_n 1, 1) := by decide +kernel
set_option maxRecDepth 20000 in
theorem dX8_element_57 : decode cX8_element 57 = .ok (.ifCond .ne 8, 3) := by decide +kernel
set_option maxRecDepth 20000 in
theorem dX8_element_60 : decode cX8_element 60 = .ok (.bipush (-14), 2) := by decide +kernel
set_option maxRecDepth 20000 in
theorem dX8_element_62 : decode cX8_element 62 = .ok (.goto 11, 3) := by decide +kernel
set_option maxRecDepth 20000 in
theorem dX8_element_65 : decode cX8_element 65 = .ok (.aload_n 0, 1) := by decide +kernel
set_option maxRecDepth 20000 in
theorem dX8_element_66 : decode cX8_element 66 = .ok (.getfield 7, 3) := by decide +kernel
set_option maxRecDepth 20000 in
theorem dX8_element_69 : decode cX8_element 69 = .ok (.iconst 2, 1) := by decide +kernel
set_option maxRecDepth 20000 in
theorem dX8_element_70 : decode cX8_element 70 = .ok (.iload_n 1, 1) := by decide +kernel
set_option maxRecDepth 20000 in
theorem dX8_element_71 : decode cX8_element 71 = .ok (.iadd, 1) := by decide +kernel
set_option maxRecDepth 20000 in
theorem dX8_element_72 : decode cX8_element 72 = .ok (.iaload, 1) := by decide +kernel
set_option maxRecDepth 20000 in
theorem dX8_element_73 : decode cX8_element 73 = .ok (.ireturn, 1) := by decide +kernel
set_option maxRecDepth 20000 in
theorem dX8_element_74 : decode cX8_element 74 = .ok (.aload_n 0, 1) := by decide +kernel
set_option maxRecDepth 20000 in
theorem dX8_element_75 : decode cX8_element 75 = .ok (.getfield 7, 3) := by decide +kernel
set_option maxRecDepth 20000 in
theorem dX8_element_78 : decode cX8_element 78 = .ok (.bipush 18, 2) := by decide +kernel
set_option maxRecDepth 20000 in
theorem dX8_element_80 : decode cX8_element 80 = .ok (.iload_n 1, 1) := by decide +kernel
set_option maxRecDepth 20000 in
theorem dX8_element_81 : decode cX8_element 81 = .ok (.iadd, 1) := by decide +kernel
set_option maxRecDepth 20000 in
theorem dX8_element_82 : decode cX8_element 82 = .ok (.iaload, 1) := by decide +kernel
set_option maxRecDepth 20000 in
theorem dX8_element_83 : decode cX8_element 83 = .ok (.ireturn, 1) := by decide +kernel
set_option maxRecDepth 20000 in
theorem dX8_element_84 : decode cX8_element 84 = .ok (.aload_n 0, 1) := by decide +kernel
set_option maxRecDepth 20000 in
theorem dX8_element_85 : decode cX8_element 85 = .ok (.getfield 7, 3) := by decide +kernel
set_option maxRecDepth 20000 in
theorem dX8_element_88 : decode cX8_element 88 = .ok (.bipush 34, 2) := by decide +kernel
set_option maxRecDepth 20000 in
theorem dX8_element_90 : decode cX8_element 90 = .ok (.iload_n 1, 1) := by decide +kernel
set_option maxRecDepth 20000 in
theorem dX8_element_91 : decode cX8_element 91 = .ok (.iadd, 1) := by decide +kernel
set_option maxRecDepth 20000 in
theorem dX8_element_92 : decode cX8_element 92 = .ok (.iaload, 1) := by decide +kernel
set_option maxRecDepth 20000 in
theorem dX8_element_93 : decode cX8_element 93 = .ok (.ireturn, 1) := by decide +kernel
set_option maxRecDepth 20000 in
theorem dX8_element_94 : decode cX8_element 94 = .ok (.aload_n 0, 1) := by decide +kernel
set_option maxRecDepth 20000 in
theorem dX8_element_95 : decode cX8_element 95 = .ok (.iload_n 1, 1) := by decide +kernel
set_option maxRecDepth 20000 in
theorem dX8_element_96 : decode cX8_element 96 = .ok (.iconst 0, 1) := by decide +kernel
set_option maxRecDepth 20000 in
theorem dX8_element_97 : decode cX8_element 97 = .ok (.invokevirtual 62, 3) := by decide +kernel
set_option maxRecDepth 20000 in
theorem dX8_element_100 : decode cX8_element 100 = .ok (.ireturn, 1) := by decide +kernel
set_option maxRecDepth 20000 in
theorem dX8_element_101 : decode cX8_element 101 = .ok (.aload_n 0, 1) := by decide +kernel
set_option maxRecDepth 20000 in
theorem dX8_element_102 : decode cX8_element 102 = .ok (.iload_n 1, 1) := by decide +kernel
set_option maxRecDepth 20000 in
theorem dX8_element_103 : decode cX8_element 103 = .ok (.invokevirtual 71, 3) := by decide +kernel
set_option maxRecDepth 20000 in
theorem dX8_element_106 : decode cX8_element 106 = .ok (.ireturn, 1) := by decide +kernel
set_option maxRecDepth 20000 in
theorem dX8_element_107 : decode cX8_element 107 = .ok (.aload_n 0, 1) := by decide +kernel
set_option maxRecDepth 20000 in
theorem dX8_element_108 : decode cX8_element 108 = .ok (.iload_n 1, 1) := by decide +kernel
set_option maxRecDepth 20000 in
theorem dX8_element_109 : decode cX8_element 109 = .ok (.invokevirtual 75, 3) := by decide +kernel
set_option maxRecDepth 20000 in
theorem dX8_element_112 : decode cX8_element 112 = .ok (.ireturn, 1) := by decide +kernel
set_option maxRecDepth 20000 in
theorem dX8_declarations_0 : decode cX8_declarations 0 = .ok (.iconst 0, 1) := by decide +kernel
set_option maxRecDepth 20000 in
theorem dX8_declarations_1 : decode cX8_declarations 1 = .ok (.istore_n 2, 1) := by decide +kernel
set_option maxRecDepth 20000 in
theorem dX8_declarations_2 : decode cX8_declarations 2 = .ok (.iconst 0, 1) := by decide +kernel
set_option maxRecDepth 20000 in
theorem dX8_declarations_3 : decode cX8_declarations 3 = .ok (.istore_n 3, 1) := by decide +kernel
set_option maxRecDepth 20000 in
theorem dX8_declarations_4 : decode cX8_declarations 4 = .ok (.iload_n 3, 1) := by decide +kernel
set_option maxRecDepth 20000 in
theorem dX8_declarations_5 : decode cX8_declarations 5 = .ok (.bipush 16, 2) := by decide +kernel
set_option maxRecDepth 20000 in
theorem dX8_declarations_7 : decode cX8_declarations 7 = .ok (.if_icmp .ge 30, 3) := by decide +kernel
set_option maxRecDepth 20000 in
theorem dX8_declarations_10 : decode cX8_declarations 10 = .ok (.iload_n 2, 1) := by decide +kernel
set_option maxRecDepth 20000 in
theorem dX8_declarations_11 : decode cX8_declarations 11 = .ok (.aload_n 0, 1) := by decide +kernel
set_option maxRecDepth 20000 in
theorem dX8_declarations_12 : decode cX8_declarations 12 = .ok (.getfield 7, 3) := by decide +kernel
set_option maxRecDepth 20000 in
theorem dX8_declarations_15 : decode cX8_declarations 15 = .ok (.iload_n 1, 1) := by decide +kernel
set_option maxRecDepth 20000 in
theorem dX8_declarations_16 : decode cX8_declarations 16 = .ok (.iload_n 3, 1) := by decide +kernel
set_option maxRecDepth 20000 in
theorem dX8_declarations_17 : decode cX8_declarations 17 = .ok (.invokestatic 78, 3) := by decide +kernel
set_option maxRecDepth 20000 in
theorem dX8_declarations_20 : decode cX8_declarations 20 = .ok (.iaload, 1) := by decide +kernel
set_option maxRecDepth 20000 in
theorem dX8_declarations_21 : decode cX8_declarations 21 = .ok (.ifCond .ne 7, 3) := by decide +kernel
set_option maxRecDepth 20000 in
theorem dX8_declarations_24 : decode cX8_declarations 24 = .ok (.iconst 0, 1) := by decide +kernel
set_option maxRecDepth 20000 in
theorem dX8_declarations_25 : decode cX8_declarations 25 = .ok (.goto 4, 3) := by decide +kernel
set_option maxRecDepth 20000 in
theorem dX8_declarations_28 : decode cX8_declarations 28 = .ok (.iconst 1, 1) := by decide +kernel
set_option maxRecDepth 20000 in
theorem dX8_declarations_29 : decode cX8_declarations 29 = .ok (.iadd, 1) := by decide +kernel
set_option maxRecDepth 20000 in
theorem dX8_declarations_30 : decode cX8_declarations 30 = .ok (.istore_n 2, 1) := by decide +kernel
set_option maxRecDepth 20000 in
theorem dX8_declarations_31 : decode cX8_declarations 31 = .ok (.iinc 3 1, 3) := by decide +kernel
set_option maxRecDepth 20000 in
theorem dX8_declarations_34 : decode cX8_declarations 34 = .ok (.goto (-30), 3) := by decide +kernel
set_option maxRecDepth 20000 in
theorem dX8_declarations_37 : decode cX8_declarations 37 = .ok (.iload_n 2, 1) := by decide +kernel
set_option maxRecDepth 20000 in
theorem dX8_declarations_38 : decode cX8_declarations 38 = .ok (.ireturn, 1) := by decide +kernel
set_option maxRecDepth 20000 in
theorem dX8_inRules_0 : decode cX8_inRules 0 = .ok (.iconst 0, 1) := by decide +kernel
set_option maxRecDepth 20000 in
theorem dX8_inRules_1 : decode cX8_inRules 1 = .ok (.istore_n 2, 1) := by decide +kernel
set_option maxRecDepth 20000 in
theorem dX8_inRules_2 : decode cX8_inRules 2 = .ok (.iconst 0, 1) := by decide +kernel
set_option maxRecDepth 20000 in
theorem dX8_inRules_3 : decode cX8_inRules 3 = .ok (.istore_n 3, 1) := by decide +kernel
set_option maxRecDepth 20000 in
theorem dX8_inRules_4 : decode cX8_inRules 4 = .ok (.iload_n 3, 1) := by decide +kernel
set_option maxRecDepth 20000 in
theorem dX8_inRules_5 : decode cX8_inRules 5 = .ok (.aload_n 0, 1) := by decide +kernel
set_option maxRecDepth 20000 in
theorem dX8_inRules_6 : decode cX8_inRules 6 = .ok (.getfield 7, 3) := by decide +kernel
set_option maxRecDepth 20000 in
theorem dX8_inRules_9 : decode cX8_inRules 9 = .ok (.iconst 1, 1) := by decide +kernel
set_option maxRecDepth 20000 in
theorem dX8_inRules_10 : decode cX8_inRules 10 = .ok (.iaload, 1) := by decide +kernel
set_option maxRecDepth 20000 in
theorem dX8_inRules_11 : decode cX8_inRules 11 = .ok (.if_icmp .ge 67, 3) := by decide +kernel
set_option maxRecDepth 20000 in
theorem dX8_inRules_14 : decode cX8_inRules 14 = .ok (.iconst 0, 1) := by decide +kernel
set_option maxRecDepth 20000 in
theorem dX8_inRules_15 : decode cX8_inRules 15 = .ok (.istore 4, 2) := by decide +kernel
set_option maxRecDepth 20000 in
theorem dX8_inRules_17 : decode cX8_inRules 17 = .ok (.iload 4, 2) := by decide +kernel
set_option maxRecDepth 20000 in
theorem dX8_inRules_19 : decode cX8_inRules 19 = .ok (.bipush 16, 2) := by decide +kernel
set_option maxRecDepth 20000 in
theorem dX8_inRules_21 : decode cX8_inRules 21 = .ok (.if_icmp .ge 51, 3) := by decide +kernel
set_option maxRecDepth 20000 in
theorem dX8_inRules_24 : decode cX8_inRules 24 = .ok (.iload_n 2, 1) := by decide +kernel
set_option maxRecDepth 20000 in
theorem dX8_inRules_25 : decode cX8_inRules 25 = .ok (.aload_n 0, 1) := by decide +kernel
set_option maxRecDepth 20000 in
theorem dX8_inRules_26 : decode cX8_inRules 26 = .ok (.getfield 7, 3) := by decide +kernel
set_option maxRecDepth 20000 in
theorem dX8_inRules_29 : decode cX8_inRules 29 = .ok (.iload_n 3, 1) := by decide +kernel
set_option maxRecDepth 20000 in
theorem dX8_inRules_30 : decode cX8_inRules 30 = .ok (.iload 4, 2) := by decide +kernel
set_option maxRecDepth 20000 in
theorem dX8_inRules_32 : decode cX8_inRules 32 = .ok (.invokestatic 78, 3) := by decide +kernel
set_option maxRecDepth 20000 in
theorem dX8_inRules_35 : decode cX8_inRules 35 = .ok (.iaload, 1) := by decide +kernel
set_option maxRecDepth 20000 in
theorem dX8_inRules_36 : decode cX8_inRules 36 = .ok (.iconst 2, 1) := by decide +kernel
set_option maxRecDepth 20000 in
theorem dX8_inRules_37 : decode cX8_inRules 37 = .ok (.if_icmp .eq 22, 3) := by decide +kernel
set_option maxRecDepth 20000 in
theorem dX8_inRules_40 : decode cX8_inRules 40 = .ok (.iload_n 1, 1) := by decide +kernel
set_option maxRecDepth 20000 in
theorem dX8_inRules_41 : decode cX8_inRules 41 = .ok (.ifCond .ne 22, 3) := by decide +kernel
set_option maxRecDepth 20000 in
theorem dX8_inRules_44 : decode cX8_inRules 44 = .ok (.aload_n 0, 1) := by decide +kernel
set_option maxRecDepth 20000 in
theorem dX8_inRules_45 : decode cX8_inRules 45 = .ok (.getfield 7, 3) := by decide +kernel
set_option maxRecDepth 20000 in
theorem dX8_inRules_48 : decode cX8_inRules 48 = .ok (.iload_n 3, 1) := by decide +kernel
set_option maxRecDepth 20000 in
theorem dX8_inRules_49 : decode cX8_inRules 49 = .ok (.iload 4, 2) := by decide +kernel
set_option maxRecDepth 20000 in
theorem dX8_inRules_51 : decode cX8_inRules 51 = .ok (.invokestatic 78, 3) := by decide +kernel
set_option maxRecDepth 20000 in
theorem dX8_inRules_54 : decode cX8_inRules 54 = .ok (.iaload, 1) := by decide +kernel
set_option maxRecDepth 20000 in
theorem dX8_inRules_55 : decode cX8_inRules 55 = .ok (.iconst 1, 1) := by decide +kernel
set_option maxRecDepth 20000 in
theorem dX8_inRules_56 : decode cX8_inRules 56 = .ok (.if_icmp .ne 7, 3) := by decide +kernel
set_option maxRecDepth 20000 in
theorem dX8_inRules_59 : decode cX8_inRules 59 = .ok (.iconst 1, 1) := by decide +kernel
set_option maxRecDepth 20000 in
theorem dX8_inRules_60 : decode cX8_inRules 60 = .ok (.goto 4, 3) := by decide +kernel
set_option maxRecDepth 20000 in
theorem dX8_inRules_63 : decode cX8_inRules 63 = .ok (.iconst 0, 1) := by decide +kernel
set_option maxRecDepth 20000 in
theorem dX8_inRules_64 : decode cX8_inRules 64 = .ok (.iadd, 1) := by decide +kernel
set_option maxRecDepth 20000 in
theorem dX8_inRules_65 : decode cX8_inRules 65 = .ok (.istore_n 2, 1) := by decide +kernel
set_option maxRecDepth 20000 in
theorem dX8_inRules_66 : decode cX8_inRules 66 = .ok (.iinc 4 1, 3) := by decide +kernel
set_option maxRecDepth 20000 in
theorem dX8_inRules_69 : decode cX8_inRules 69 = .ok (.goto (-52), 3) := by decide +kernel
set_option maxRecDepth 20000 in
theorem dX8_inRules_72 : decode cX8_inRules 72 = .ok (.iinc 3 1, 3) := by decide +kernel
set_option maxRecDepth 20000 in
theorem dX8_inRules_75 : decode cX8_inRules 75 = .ok (.goto (-71), 3) := by decide +kernel
set_option maxRecDepth 20000 in
theorem dX8_inRules_78 : decode cX8_inRules 78 = .ok (.iload_n 2, 1) := by decide +kernel
set_option maxRecDepth 20000 in
theorem dX8_inRules_79 : decode cX8_inRules 79 = .ok (.ireturn, 1) := by decide +kernel
set_option maxRecDepth 20000 in
theorem dX8_count_0 : decode cX8_count 0 = .ok (.iconst 0, 1) := by decide +kernel
set_option maxRecDepth 20000 in
theorem dX8_count_1 : decode cX8_count 1 = .ok (.istore_n 2, 1) := by decide +kernel
set_option maxRecDepth 20000 in
theorem dX8_count_2 : decode cX8_count 2 = .ok (.iload_n 1, 1) := by decide +kernel
set_option maxRecDepth 20000 in
theorem dX8_count_3 : decode cX8_count 3 = .ok (.tableswitch 98 0 6 #[41, 41, 48, 54, 60, 88, 93], 41) := by decide +kernel
set_option maxRecDepth 20000 in
theorem dX8_count_44 : decode cX8_count 44 = .ok (.aload_n 0, 1) := by decide +kernel
set_option maxRecDepth 20000 in
theorem dX8_count_45 : decode cX8_count 45 = .ok (.getfield 7, 3) := by decide +kernel
set_option maxRecDepth 20000 in
theorem dX8_count_48 : decode cX8_count 48 = .ok (.iload_n 1, 1) := by decide +kernel
set_option maxRecDepth 20000 in
theorem dX8_count_49 : decode cX8_count 49 = .ok (.iaload, 1) := by decide +kernel
set_option maxRecDepth 20000 in
theorem dX8_count_50 : decode cX8_count 50 = .ok (.ireturn, 1) := by decide +kernel
set_option maxRecDepth 20000 in
theorem dX8_count_51 : decode cX8_count 51 = .ok (.aload_n 0, 1) := by decide +kernel
set_option maxRecDepth 20000 in
theorem dX8_count_52 : decode cX8_count 52 = .ok (.iconst 0, 1) := by decide +kernel
set_option maxRecDepth 20000 in
theorem dX8_count_53 : decode cX8_count 53 = .ok (.invokevirtual 81, 3) := by decide +kernel
set_option maxRecDepth 20000 in
theorem dX8_count_56 : decode cX8_count 56 = .ok (.ireturn, 1) := by decide +kernel
set_option maxRecDepth 20000 in
theorem dX8_count_57 : decode cX8_count 57 = .ok (.aload_n 0, 1) := by decide +kernel
set_option maxRecDepth 20000 in
theorem dX8_count_58 : decode cX8_count 58 = .ok (.iconst 1, 1) := by decide +kernel
set_option maxRecDepth 20000 in
theorem dX8_count_59 : decode cX8_count 59 = .ok (.invokevirtual 81, 3) := by decide +kernel
set_option maxRecDepth 20000 in
theorem dX8_count_62 : decode cX8_count 62 = .ok (.ireturn, 1) := by decide +kernel
set_option maxRecDepth 20000 in
theorem dX8_count_63 : decode cX8_count 63 = .ok (.iconst 0, 1) := by decide +kernel
set_option maxRecDepth 20000 in
theorem dX8_count_64 : decode cX8_count 64 = .ok (.istore_n 3, 1) := by decide +kernel
set_option maxRecDepth 20000 in
theorem dX8_count_65 : decode cX8_count 65 = .ok (.iload_n 3, 1) := by decide +kernel
set_option maxRecDepth 20000 in
theorem dX8_count_66 : decode cX8_count 66 = .ok (.aload_n 0, 1) := by decide +kernel
set_option maxRecDepth 20000 in
theorem dX8_count_67 : decode cX8_count 67 = .ok (.getfield 7, 3) := by decide +kernel
set_option maxRecDepth 20000 in
theorem dX8_count_70 : decode cX8_count 70 = .ok (.iconst 0, 1) := by decide +kernel
set_option maxRecDepth 20000 in
theorem dX8_count_71 : decode cX8_count 71 = .ok (.iaload, 1) := by decide +kernel
set_option maxRecDepth 20000 in
theorem dX8_count_72 : decode cX8_count 72 = .ok (.if_icmp .ge 17, 3) := by decide +kernel
set_option maxRecDepth 20000 in
theorem dX8_count_75 : decode cX8_count 75 = .ok (.iload_n 2, 1) := by decide +kernel
set_option maxRecDepth 20000 in
theorem dX8_count_76 : decode cX8_count 76 = .ok (.aload_n 0, 1) := by decide +kernel
set_option maxRecDepth 20000 in
theorem dX8_count_77 : decode cX8_count 77 = .ok (.iload_n 3, 1) := by decide +kernel
set_option maxRecDepth 20000 in
theorem dX8_count_78 : decode cX8_count 78 = .ok (.invokevirtual 75, 3) := by decide +kernel
set_option maxRecDepth 20000 in
theorem dX8_count_81 : decode cX8_count 81 = .ok (.iadd, 1) := by decide +kernel
set_option maxRecDepth 20000 in
theorem dX8_count_82 : decode cX8_count 82 = .ok (.istore_n 2, 1) := by decide +kernel
set_option maxRecDepth 20000 in
theorem dX8_count_83 : decode cX8_count 83 = .ok (.iinc 3 1, 3) := by decide +kernel
set_option maxRecDepth 20000 in
theorem dX8_count_86 : decode cX8_count 86 = .ok (.goto (-21), 3) := by decide +kernel
set_option maxRecDepth 20000 in
theorem dX8_count_89 : decode cX8_count 89 = .ok (.iload_n 2, 1) := by decide +kernel
set_option maxRecDepth 20000 in
theorem dX8_count_90 : decode cX8_count 90 = .ok (.ireturn, 1) := by decide +kernel
set_option maxRecDepth 20000 in
theorem dX8_count_91 : decode cX8_count 91 = .ok (.aload_n 0, 1) := by decide +kernel
set_option maxRecDepth 20000 in
theorem dX8_count_92 : decode cX8_count 92 = .ok (.getfield 43, 3) := by decide +kernel
set_option maxRecDepth 20000 in
theorem dX8_count_95 : decode cX8_count 95 = .ok (.ireturn, 1) := by decide +kernel
set_option maxRecDepth 20000 in
theorem dX8_count_96 : decode cX8_count 96 = .ok (.aload_n 0, 1) := by decide +kernel
set_option maxRecDepth 20000 in
theorem dX8_count_97 : decode cX8_count 97 = .ok (.getfield 85, 3) := by decide +kernel
set_option maxRecDepth 20000 in
theorem dX8_count_100 : decode cX8_count 100 = .ok (.ireturn, 1) := by decide +kernel
set_option maxRecDepth 20000 in
theorem dX8_count_101 : decode cX8_count 101 = .ok (.bipush (-11), 2) := by decide +kernel
set_option maxRecDepth 20000 in
theorem dX8_count_103 : decode cX8_count 103 = .ok (.ireturn, 1) := by decide +kernel
set_option maxRecDepth 20000 in
theorem dX8_undo_0 : decode cX8_undo 0 = .ok (.aload_n 0, 1) := by decide +kernel
set_option maxRecDepth 20000 in
theorem dX8_undo_1 : decode cX8_undo 1 = .ok (.getfield 43, 3) := by decide +kernel
set_option maxRecDepth 20000 in
theorem dX8_undo_4 : decode cX8_undo 4 = .ok (.ifCond .ne 6, 3) := by decide +kernel
set_option maxRecDepth 20000 in
theorem dX8_undo_7 : decode cX8_undo 7 = .ok (.bipush (-12), 2) := by decide +kernel
set_option maxRecDepth 20000 in
theorem dX8_undo_9 : decode cX8_undo 9 = .ok (.ireturn, 1) := by decide +kernel
set_option maxRecDepth 20000 in
theorem dX8_undo_10 : decode cX8_undo 10 = .ok (.aload_n 0, 1) := by decide +kernel
set_option maxRecDepth 20000 in
theorem dX8_undo_11 : decode cX8_undo 11 = .ok (.dup, 1) := by decide +kernel
set_option maxRecDepth 20000 in
theorem dX8_undo_12 : decode cX8_undo 12 = .ok (.getfield 43, 3) := by decide +kernel
set_option maxRecDepth 20000 in
theorem dX8_undo_15 : decode cX8_undo 15 = .ok (.iconst 1, 1) := by decide +kernel
set_option maxRecDepth 20000 in
theorem dX8_undo_16 : decode cX8_undo 16 = .ok (.isub, 1) := by decide +kernel
set_option maxRecDepth 20000 in
theorem dX8_undo_17 : decode cX8_undo 17 = .ok (.putfield 43, 3) := by decide +kernel
set_option maxRecDepth 20000 in
theorem dX8_undo_20 : decode cX8_undo 20 = .ok (.iconst 0, 1) := by decide +kernel
set_option maxRecDepth 20000 in
theorem dX8_undo_21 : decode cX8_undo 21 = .ok (.istore_n 1, 1) := by decide +kernel
set_option maxRecDepth 20000 in
theorem dX8_undo_22 : decode cX8_undo 22 = .ok (.iload_n 1, 1) := by decide +kernel
set_option maxRecDepth 20000 in
theorem dX8_undo_23 : decode cX8_undo 23 = .ok (.sipush 914, 3) := by decide +kernel
set_option maxRecDepth 20000 in
theorem dX8_undo_26 : decode cX8_undo 26 = .ok (.if_icmp .ge 30, 3) := by decide +kernel
set_option maxRecDepth 20000 in
theorem dX8_undo_29 : decode cX8_undo 29 = .ok (.aload_n 0, 1) := by decide +kernel
set_option maxRecDepth 20000 in
theorem dX8_undo_30 : decode cX8_undo 30 = .ok (.getfield 7, 3) := by decide +kernel
set_option maxRecDepth 20000 in
theorem dX8_undo_33 : decode cX8_undo 33 = .ok (.iload_n 1, 1) := by decide +kernel
set_option maxRecDepth 20000 in
theorem dX8_undo_34 : decode cX8_undo 34 = .ok (.aload_n 0, 1) := by decide +kernel
set_option maxRecDepth 20000 in
theorem dX8_undo_35 : decode cX8_undo 35 = .ok (.getfield 13, 3) := by decide +kernel
set_option maxRecDepth 20000 in
theorem dX8_undo_38 : decode cX8_undo 38 = .ok (.sipush 914, 3) := by decide +kernel
set_option maxRecDepth 20000 in
theorem dX8_undo_41 : decode cX8_undo 41 = .ok (.aload_n 0, 1) := by decide +kernel
set_option maxRecDepth 20000 in
theorem dX8_undo_42 : decode cX8_undo 42 = .ok (.getfield 43, 3) := by decide +kernel
set_option maxRecDepth 20000 in
theorem dX8_undo_45 : decode cX8_undo 45 = .ok (.imul, 1) := by decide +kernel
set_option maxRecDepth 20000 in
theorem dX8_undo_46 : decode cX8_undo 46 = .ok (.iload_n 1, 1) := by decide +kernel
set_option maxRecDepth 20000 in
theorem dX8_undo_47 : decode cX8_undo 47 = .ok (.iadd, 1) := by decide +kernel
set_option maxRecDepth 20000 in
theorem dX8_undo_48 : decode cX8_undo 48 = .ok (.iaload, 1) := by decide +kernel
set_option maxRecDepth 20000 in
theorem dX8_undo_49 : decode cX8_undo 49 = .ok (.iastore, 1) := by decide +kernel
set_option maxRecDepth 20000 in
theorem dX8_undo_50 : decode cX8_undo 50 = .ok (.iinc 1 1, 3) := by decide +kernel
set_option maxRecDepth 20000 in
theorem dX8_undo_53 : decode cX8_undo 53 = .ok (.goto (-31), 3) := by decide +kernel
set_option maxRecDepth 20000 in
theorem dX8_undo_56 : decode cX8_undo 56 = .ok (.aload_n 0, 1) := by decide +kernel
set_option maxRecDepth 20000 in
theorem dX8_undo_57 : decode cX8_undo 57 = .ok (.getfield 43, 3) := by decide +kernel
set_option maxRecDepth 20000 in
theorem dX8_undo_60 : decode cX8_undo 60 = .ok (.ireturn, 1) := by decide +kernel
set_option maxRecDepth 20000 in
theorem dX8_isScope_0 : decode cX8_isScope 0 = .ok (.iload_n 1, 1) := by decide +kernel
set_option maxRecDepth 20000 in
theorem dX8_isScope_1 : decode cX8_isScope 1 = .ok (.iconst (-1), 1) := by decide +kernel
set_option maxRecDepth 20000 in
theorem dX8_isScope_2 : decode cX8_isScope 2 = .ok (.if_icmp .eq 11, 3) := by decide +kernel
set_option maxRecDepth 20000 in
theorem dX8_isScope_5 : decode cX8_isScope 5 = .ok (.aload_n 0, 1) := by decide +kernel
set_option maxRecDepth 20000 in
theorem dX8_isScope_6 : decode cX8_isScope 6 = .ok (.iload_n 1, 1) := by decide +kernel
set_option maxRecDepth 20000 in
theorem dX8_isScope_7 : decode cX8_isScope 7 = .ok (.invokevirtual 47, 3) := by decide +kernel
set_option maxRecDepth 20000 in
theorem dX8_isScope_10 : decode cX8_isScope 10 = .ok (.ifCond .eq 7, 3) := by decide +kernel
set_option maxRecDepth 20000 in
theorem dX8_isScope_13 : decode cX8_isScope 13 = .ok (.iconst 1, 1) := by decide +kernel
set_option maxRecDepth 20000 in
theorem dX8_isScope_14 : decode cX8_isScope 14 = .ok (.goto 4, 3) := by decide +kernel
set_option maxRecDepth 20000 in
theorem dX8_isScope_17 : decode cX8_isScope 17 = .ok (.iconst 0, 1) := by decide +kernel
set_option maxRecDepth 20000 in
theorem dX8_isScope_18 : decode cX8_isScope 18 = .ok (.ireturn, 1) := by decide +kernel
set_option maxRecDepth 20000 in
theorem dX8_appends_0 : decode cX8_appends 0 = .ok (.bipush 50, 2) := by decide +kernel
set_option maxRecDepth 20000 in
theorem dX8_appends_2 : decode cX8_appends 2 = .ok (.bipush 6, 2) := by decide +kernel
set_option maxRecDepth 20000 in
theorem dX8_appends_4 : decode cX8_appends 4 = .ok (.aload_n 0, 1) := by decide +kernel
set_option maxRecDepth 20000 in
theorem dX8_appends_5 : decode cX8_appends 5 = .ok (.getfield 7, 3) := by decide +kernel
set_option maxRecDepth 20000 in
theorem dX8_appends_8 : decode cX8_appends 8 = .ok (.iconst 1, 1) := by decide +kernel
set_option maxRecDepth 20000 in
theorem dX8_appends_9 : decode cX8_appends 9 = .ok (.iaload, 1) := by decide +kernel
set_option maxRecDepth 20000 in
theorem dX8_appends_10 : decode cX8_appends 10 = .ok (.imul, 1) := by decide +kernel
set_option maxRecDepth 20000 in
theorem dX8_appends_11 : decode cX8_appends 11 = .ok (.iadd, 1) := by decide +kernel
set_option maxRecDepth 20000 in
theorem dX8_appends_12 : decode cX8_appends 12 = .ok (.istore 7, 2) := by decide +kernel
set_option maxRecDepth 20000 in
theorem dX8_appends_14 : decode cX8_appends 14 = .ok (.aload_n 0, 1) := by decide +kernel
set_option maxRecDepth 20000 in
theorem dX8_appends_15 : decode cX8_appends 15 = .ok (.getfield 7, 3) := by decide +kernel
set_option maxRecDepth 20000 in
theorem dX8_appends_18 : decode cX8_appends 18 = .ok (.iload 7, 2) := by decide +kernel
set_option maxRecDepth 20000 in
theorem dX8_appends_20 : decode cX8_appends 20 = .ok (.iload_n 1, 1) := by decide +kernel
set_option maxRecDepth 20000 in
theorem dX8_appends_21 : decode cX8_appends 21 = .ok (.iastore, 1) := by decide +kernel
set_option maxRecDepth 20000 in
theorem dX8_appends_22 : decode cX8_appends 22 = .ok (.aload_n 0, 1) := by decide +kernel
set_option maxRecDepth 20000 in
theorem dX8_appends_23 : decode cX8_appends 23 = .ok (.getfield 7, 3) := by decide +kernel
set_option maxRecDepth 20000 in
theorem dX8_appends_26 : decode cX8_appends 26 = .ok (.iload 7, 2) := by decide +kernel
set_option maxRecDepth 20000 in
theorem dX8_appends_28 : decode cX8_appends 28 = .ok (.iconst 1, 1) := by decide +kernel
set_option maxRecDepth 20000 in
theorem dX8_appends_29 : decode cX8_appends 29 = .ok (.iadd, 1) := by decide +kernel
set_option maxRecDepth 20000 in
theorem dX8_appends_30 : decode cX8_appends 30 = .ok (.iload_n 2, 1) := by decide +kernel
set_option maxRecDepth 20000 in
theorem dX8_appends_31 : decode cX8_appends 31 = .ok (.iastore, 1) := by decide +kernel
set_option maxRecDepth 20000 in
theorem dX8_appends_32 : decode cX8_appends 32 = .ok (.aload_n 0, 1) := by decide +kernel
set_option maxRecDepth 20000 in
theorem dX8_appends_33 : decode cX8_appends 33 = .ok (.getfield 7, 3) := by decide +kernel
set_option maxRecDepth 20000 in
theorem dX8_appends_36 : decode cX8_appends 36 = .ok (.iload 7, 2) := by decide +kernel
set_option maxRecDepth 20000 in
theorem dX8_appends_38 : decode cX8_appends 38 = .ok (.iconst 2, 1) := by decide +kernel
set_option maxRecDepth 20000 in
theorem dX8_appends_39 : decode cX8_appends 39 = .ok (.iadd, 1) := by decide +kernel
set_option maxRecDepth 20000 in
theorem dX8_appends_40 : decode cX8_appends 40 = .ok (.iload_n 3, 1) := by decide +kernel
set_option maxRecDepth 20000 in
theorem dX8_appends_41 : decode cX8_appends 41 = .ok (.iastore, 1) := by decide +kernel
set_option maxRecDepth 20000 in
theorem dX8_appends_42 : decode cX8_appends 42 = .ok (.aload_n 0, 1) := by decide +kernel
set_option maxRecDepth 20000 in
theorem dX8_appends_43 : decode cX8_appends 43 = .ok (.getfield 7, 3) := by decide +kernel
set_option maxRecDepth 20000 in
theorem dX8_appends_46 : decode cX8_appends 46 = .ok (.iload 7, 2) := by decide +kernel
set_option maxRecDepth 20000 in
theorem dX8_appends_48 : decode cX8_appends 48 = .ok (.iconst 3, 1) := by decide +kernel
set_option maxRecDepth 20000 in
theorem dX8_appends_49 : decode cX8_appends 49 = .ok (.iadd, 1) := by decide +kernel
set_option maxRecDepth 20000 in
theorem dX8_appends_50 : decode cX8_appends 50 = .ok (.iload 4, 2) := by decide +kernel
set_option maxRecDepth 20000 in
theorem dX8_appends_52 : decode cX8_appends 52 = .ok (.iastore, 1) := by decide +kernel
set_option maxRecDepth 20000 in
theorem dX8_appends_53 : decode cX8_appends 53 = .ok (.aload_n 0, 1) := by decide +kernel
set_option maxRecDepth 20000 in
theorem dX8_appends_54 : decode cX8_appends 54 = .ok (.getfield 7, 3) := by decide +kernel
set_option maxRecDepth 20000 in
theorem dX8_appends_57 : decode cX8_appends 57 = .ok (.iload 7, 2) := by decide +kernel
set_option maxRecDepth 20000 in
theorem dX8_appends_59 : decode cX8_appends 59 = .ok (.iconst 4, 1) := by decide +kernel
set_option maxRecDepth 20000 in
theorem dX8_appends_60 : decode cX8_appends 60 = .ok (.iadd, 1) := by decide +kernel
set_option maxRecDepth 20000 in
theorem dX8_appends_61 : decode cX8_appends 61 = .ok (.iload 5, 2) := by decide +kernel
set_option maxRecDepth 20000 in
theorem dX8_appends_63 : decode cX8_appends 63 = .ok (.iastore, 1) := by decide +kernel
set_option maxRecDepth 20000 in
theorem dX8_appends_64 : decode cX8_appends 64 = .ok (.aload_n 0, 1) := by decide +kernel
set_option maxRecDepth 20000 in
theorem dX8_appends_65 : decode cX8_appends 65 = .ok (.getfield 7, 3) := by decide +kernel
set_option maxRecDepth 20000 in
theorem dX8_appends_68 : decode cX8_appends 68 = .ok (.iload 7, 2) := by decide +kernel
set_option maxRecDepth 20000 in
theorem dX8_appends_70 : decode cX8_appends 70 = .ok (.iconst 5, 1) := by decide +kernel
set_option maxRecDepth 20000 in
theorem dX8_appends_71 : decode cX8_appends 71 = .ok (.iadd, 1) := by decide +kernel
set_option maxRecDepth 20000 in
theorem dX8_appends_72 : decode cX8_appends 72 = .ok (.iload 6, 2) := by decide +kernel
set_option maxRecDepth 20000 in
theorem dX8_appends_74 : decode cX8_appends 74 = .ok (.iastore, 1) := by decide +kernel
set_option maxRecDepth 20000 in
theorem dX8_appends_75 : decode cX8_appends 75 = .ok (.iconst 0, 1) := by decide +kernel
set_option maxRecDepth 20000 in
theorem dX8_appends_76 : decode cX8_appends 76 = .ok (.istore 8, 2) := by decide +kernel
set_option maxRecDepth 20000 in
theorem dX8_appends_78 : decode cX8_appends 78 = .ok (.iload 8, 2) := by decide +kernel
set_option maxRecDepth 20000 in
theorem dX8_appends_80 : decode cX8_appends 80 = .ok (.bipush 16, 2) := by decide +kernel
set_option maxRecDepth 20000 in
theorem dX8_appends_82 : decode cX8_appends 82 = .ok (.if_icmp .ge 26, 3) := by decide +kernel
set_option maxRecDepth 20000 in
theorem dX8_appends_85 : decode cX8_appends 85 = .ok (.aload_n 0, 1) := by decide +kernel
set_option maxRecDepth 20000 in
theorem dX8_appends_86 : decode cX8_appends 86 = .ok (.getfield 7, 3) := by decide +kernel
set_option maxRecDepth 20000 in
theorem dX8_appends_89 : decode cX8_appends 89 = .ok (.aload_n 0, 1) := by decide +kernel
set_option maxRecDepth 20000 in
theorem dX8_appends_90 : decode cX8_appends 90 = .ok (.getfield 7, 3) := by decide +kernel
set_option maxRecDepth 20000 in
theorem dX8_appends_93 : decode cX8_appends 93 = .ok (.iconst 1, 1) := by decide +kernel
set_option maxRecDepth 20000 in
theorem dX8_appends_94 : decode cX8_appends 94 = .ok (.iaload, 1) := by decide +kernel
set_option maxRecDepth 20000 in
theorem dX8_appends_95 : decode cX8_appends 95 = .ok (.iload 8, 2) := by decide +kernel
set_option maxRecDepth 20000 in
theorem dX8_appends_97 : decode cX8_appends 97 = .ok (.invokestatic 78, 3) := by decide +kernel
set_option maxRecDepth 20000 in
theorem dX8_appends_100 : decode cX8_appends 100 = .ok (.iconst 0, 1) := by decide +kernel
set_option maxRecDepth 20000 in
theorem dX8_appends_101 : decode cX8_appends 101 = .ok (.iastore, 1) := by decide +kernel
set_option maxRecDepth 20000 in
theorem dX8_appends_102 : decode cX8_appends 102 = .ok (.iinc 8 1, 3) := by decide +kernel
set_option maxRecDepth 20000 in
theorem dX8_appends_105 : decode cX8_appends 105 = .ok (.goto (-27), 3) := by decide +kernel
set_option maxRecDepth 20000 in
theorem dX8_appends_108 : decode cX8_appends 108 = .ok (.aload_n 0, 1) := by decide +kernel
set_option maxRecDepth 20000 in
theorem dX8_appends_109 : decode cX8_appends 109 = .ok (.getfield 7, 3) := by decide +kernel
set_option maxRecDepth 20000 in
theorem dX8_appends_112 : decode cX8_appends 112 = .ok (.iconst 1, 1) := by decide +kernel
set_option maxRecDepth 20000 in
theorem dX8_appends_113 : decode cX8_appends 113 = .ok (.dup2, 1) := by decide +kernel
set_option maxRecDepth 20000 in
theorem dX8_appends_114 : decode cX8_appends 114 = .ok (.iaload, 1) := by decide +kernel
set_option maxRecDepth 20000 in
theorem dX8_appends_115 : decode cX8_appends 115 = .ok (.iconst 1, 1) := by decide +kernel
set_option maxRecDepth 20000 in
theorem dX8_appends_116 : decode cX8_appends 116 = .ok (.iadd, 1) := by decide +kernel
set_option maxRecDepth 20000 in
theorem dX8_appends_117 : decode cX8_appends 117 = .ok (.iastore, 1) := by decide +kernel
set_option maxRecDepth 20000 in
theorem dX8_appends_118 : decode cX8_appends 118 = .ok (.aload_n 0, 1) := by decide +kernel
set_option maxRecDepth 20000 in
theorem dX8_appends_119 : decode cX8_appends 119 = .ok (.getfield 7, 3) := by decide +kernel
set_option maxRecDepth 20000 in
theorem dX8_appends_122 : decode cX8_appends 122 = .ok (.iconst 1, 1) := by decide +kernel
set_option maxRecDepth 20000 in
theorem dX8_appends_123 : decode cX8_appends 123 = .ok (.iaload, 1) := by decide +kernel
set_option maxRecDepth 20000 in
theorem dX8_appends_124 : decode cX8_appends 124 = .ok (.iconst 1, 1) := by decide +kernel
set_option maxRecDepth 20000 in
theorem dX8_appends_125 : decode cX8_appends 125 = .ok (.isub, 1) := by decide +kernel
set_option maxRecDepth 20000 in
theorem dX8_appends_126 : decode cX8_appends 126 = .ok (.ireturn, 1) := by decide +kernel
set_option maxRecDepth 20000 in
theorem dX8_rule_0 : decode cX8_rule 0 = .ok (.iload_n 1, 1) := by decide +kernel
set_option maxRecDepth 20000 in
theorem dX8_rule_1 : decode cX8_rule 1 = .ok (.iconst (-1), 1) := by decide +kernel
set_option maxRecDepth 20000 in
theorem dX8_rule_2 : decode cX8_rule 2 = .ok (.iconst 5, 1) := by decide +kernel
set_option maxRecDepth 20000 in
theorem dX8_rule_3 : decode cX8_rule 3 = .ok (.invokestatic 39, 3) := by decide +kernel
set_option maxRecDepth 20000 in
theorem dX8_rule_6 : decode cX8_rule 6 = .ok (.ifCond .eq 51, 3) := by decide +kernel
set_option maxRecDepth 20000 in
theorem dX8_rule_9 : decode cX8_rule 9 = .ok (.iload_n 2, 1) := by decide +kernel
set_option maxRecDepth 20000 in
theorem dX8_rule_10 : decode cX8_rule 10 = .ok (.iconst 0, 1) := by decide +kernel
set_option maxRecDepth 20000 in
theorem dX8_rule_11 : decode cX8_rule 11 = .ok (.bipush 15, 2) := by decide +kernel
set_option maxRecDepth 20000 in
theorem dX8_rule_13 : decode cX8_rule 13 = .ok (.invokestatic 39, 3) := by decide +kernel
set_option maxRecDepth 20000 in
theorem dX8_rule_16 : decode cX8_rule 16 = .ok (.ifCond .eq 41, 3) := by decide +kernel
set_option maxRecDepth 20000 in
theorem dX8_rule_19 : decode cX8_rule 19 = .ok (.iload_n 3, 1) := by decide +kernel
set_option maxRecDepth 20000 in
theorem dX8_rule_20 : decode cX8_rule 20 = .ok (.iconst (-1), 1) := by decide +kernel
set_option maxRecDepth 20000 in
theorem dX8_rule_21 : decode cX8_rule 21 = .ok (.iconst 5, 1) := by decide +kernel
set_option maxRecDepth 20000 in
theorem dX8_rule_22 : decode cX8_rule 22 = .ok (.invokestatic 39, 3) := by decide +kernel
set_option maxRecDepth 20000 in
theorem dX8_rule_25 : decode cX8_rule 25 = .ok (.ifCond .eq 32, 3) := by decide +kernel
set_option maxRecDepth 20000 in
theorem dX8_rule_28 : decode cX8_rule 28 = .ok (.iload 4, 2) := by decide +kernel
set_option maxRecDepth 20000 in
theorem dX8_rule_30 : decode cX8_rule 30 = .ok (.iconst 0, 1) := by decide +kernel
set_option maxRecDepth 20000 in
theorem dX8_rule_31 : decode cX8_rule 31 = .ok (.iconst 3, 1) := by decide +kernel
set_option maxRecDepth 20000 in
theorem dX8_rule_32 : decode cX8_rule 32 = .ok (.invokestatic 39, 3) := by decide +kernel
set_option maxRecDepth 20000 in
theorem dX8_rule_35 : decode cX8_rule 35 = .ok (.ifCond .eq 22, 3) := by decide +kernel
set_option maxRecDepth 20000 in
theorem dX8_rule_38 : decode cX8_rule 38 = .ok (.aload_n 0, 1) := by decide +kernel
set_option maxRecDepth 20000 in
theorem dX8_rule_39 : decode cX8_rule 39 = .ok (.iload 5, 2) := by decide +kernel
set_option maxRecDepth 20000 in
theorem dX8_rule_41 : decode cX8_rule 41 = .ok (.invokevirtual 88, 3) := by decide +kernel
set_option maxRecDepth 20000 in
theorem dX8_rule_44 : decode cX8_rule 44 = .ok (.ifCond .eq 13, 3) := by decide +kernel
set_option maxRecDepth 20000 in
theorem dX8_rule_47 : decode cX8_rule 47 = .ok (.iload 6, 2) := by decide +kernel
set_option maxRecDepth 20000 in
theorem dX8_rule_49 : decode cX8_rule 49 = .ok (.iconst 0, 1) := by decide +kernel
set_option maxRecDepth 20000 in
theorem dX8_rule_50 : decode cX8_rule 50 = .ok (.iconst 1, 1) := by decide +kernel
set_option maxRecDepth 20000 in
theorem dX8_rule_51 : decode cX8_rule 51 = .ok (.invokestatic 39, 3) := by decide +kernel
set_option maxRecDepth 20000 in
theorem dX8_rule_54 : decode cX8_rule 54 = .ok (.ifCond .ne 6, 3) := by decide +kernel
set_option maxRecDepth 20000 in
theorem dX8_rule_57 : decode cX8_rule 57 = .ok (.bipush (-11), 2) := by decide +kernel
set_option maxRecDepth 20000 in
theorem dX8_rule_59 : decode cX8_rule 59 = .ok (.ireturn, 1) := by decide +kernel
set_option maxRecDepth 20000 in
theorem dX8_rule_60 : decode cX8_rule 60 = .ok (.aload_n 0, 1) := by decide +kernel
set_option maxRecDepth 20000 in
theorem dX8_rule_61 : decode cX8_rule 61 = .ok (.getfield 7, 3) := by decide +kernel
set_option maxRecDepth 20000 in
theorem dX8_rule_64 : decode cX8_rule 64 = .ok (.iconst 1, 1) := by decide +kernel
set_option maxRecDepth 20000 in
theorem dX8_rule_65 : decode cX8_rule 65 = .ok (.iaload, 1) := by decide +kernel
set_option maxRecDepth 20000 in
theorem dX8_rule_66 : decode cX8_rule 66 = .ok (.bipush 16, 2) := by decide +kernel
set_option maxRecDepth 20000 in
theorem dX8_rule_68 : decode cX8_rule 68 = .ok (.if_icmp .ne 6, 3) := by decide +kernel
set_option maxRecDepth 20000 in
theorem dX8_rule_71 : decode cX8_rule 71 = .ok (.bipush (-13), 2) := by decide +kernel
set_option maxRecDepth 20000 in
theorem dX8_rule_73 : decode cX8_rule 73 = .ok (.ireturn, 1) := by decide +kernel
set_option maxRecDepth 20000 in
theorem dX8_rule_74 : decode cX8_rule 74 = .ok (.aload_n 0, 1) := by decide +kernel
set_option maxRecDepth 20000 in
theorem dX8_rule_75 : decode cX8_rule 75 = .ok (.invokevirtual 55, 3) := by decide +kernel
set_option maxRecDepth 20000 in
theorem dX8_rule_78 : decode cX8_rule 78 = .ok (.aload_n 0, 1) := by decide +kernel
set_option maxRecDepth 20000 in
theorem dX8_rule_79 : decode cX8_rule 79 = .ok (.iload_n 1, 1) := by decide +kernel
set_option maxRecDepth 20000 in
theorem dX8_rule_80 : decode cX8_rule 80 = .ok (.iload_n 2, 1) := by decide +kernel
set_option maxRecDepth 20000 in
theorem dX8_rule_81 : decode cX8_rule 81 = .ok (.iload_n 3, 1) := by decide +kernel
set_option maxRecDepth 20000 in
theorem dX8_rule_82 : decode cX8_rule 82 = .ok (.iload 4, 2) := by decide +kernel
set_option maxRecDepth 20000 in
theorem dX8_rule_84 : decode cX8_rule 84 = .ok (.iload 5, 2) := by decide +kernel
set_option maxRecDepth 20000 in
theorem dX8_rule_86 : decode cX8_rule 86 = .ok (.iload 6, 2) := by decide +kernel
set_option maxRecDepth 20000 in
theorem dX8_rule_88 : decode cX8_rule 88 = .ok (.invokevirtual 91, 3) := by decide +kernel
set_option maxRecDepth 20000 in
theorem dX8_rule_91 : decode cX8_rule 91 = .ok (.ireturn, 1) := by decide +kernel
set_option maxRecDepth 20000 in
theorem dX8_drop_0 : decode cX8_drop 0 = .ok (.aload_n 0, 1) := by decide +kernel
set_option maxRecDepth 20000 in
theorem dX8_drop_1 : decode cX8_drop 1 = .ok (.iload_n 1, 1) := by decide +kernel
set_option maxRecDepth 20000 in
theorem dX8_drop_2 : decode cX8_drop 2 = .ok (.invokevirtual 95, 3) := by decide +kernel
set_option maxRecDepth 20000 in
theorem dX8_drop_5 : decode cX8_drop 5 = .ok (.ifCond .ne 6, 3) := by decide +kernel
set_option maxRecDepth 20000 in
theorem dX8_drop_8 : decode cX8_drop 8 = .ok (.bipush (-11), 2) := by decide +kernel
set_option maxRecDepth 20000 in
theorem dX8_drop_10 : decode cX8_drop 10 = .ok (.ireturn, 1) := by decide +kernel
set_option maxRecDepth 20000 in
theorem dX8_drop_11 : decode cX8_drop 11 = .ok (.aload_n 0, 1) := by decide +kernel
set_option maxRecDepth 20000 in
theorem dX8_drop_12 : decode cX8_drop 12 = .ok (.invokevirtual 55, 3) := by decide +kernel
set_option maxRecDepth 20000 in
theorem dX8_drop_15 : decode cX8_drop 15 = .ok (.aload_n 0, 1) := by decide +kernel
set_option maxRecDepth 20000 in
theorem dX8_drop_16 : decode cX8_drop 16 = .ok (.getfield 7, 3) := by decide +kernel
set_option maxRecDepth 20000 in
theorem dX8_drop_19 : decode cX8_drop 19 = .ok (.iconst 1, 1) := by decide +kernel
set_option maxRecDepth 20000 in
theorem dX8_drop_20 : decode cX8_drop 20 = .ok (.dup2, 1) := by decide +kernel
set_option maxRecDepth 20000 in
theorem dX8_drop_21 : decode cX8_drop 21 = .ok (.iaload, 1) := by decide +kernel
set_option maxRecDepth 20000 in
theorem dX8_drop_22 : decode cX8_drop 22 = .ok (.iconst 1, 1) := by decide +kernel
set_option maxRecDepth 20000 in
theorem dX8_drop_23 : decode cX8_drop 23 = .ok (.isub, 1) := by decide +kernel
set_option maxRecDepth 20000 in
theorem dX8_drop_24 : decode cX8_drop 24 = .ok (.iastore, 1) := by decide +kernel
set_option maxRecDepth 20000 in
theorem dX8_drop_25 : decode cX8_drop 25 = .ok (.iload_n 1, 1) := by decide +kernel
set_option maxRecDepth 20000 in
theorem dX8_drop_26 : decode cX8_drop 26 = .ok (.istore_n 2, 1) := by decide +kernel
set_option maxRecDepth 20000 in
theorem dX8_drop_27 : decode cX8_drop 27 = .ok (.iload_n 2, 1) := by decide +kernel
set_option maxRecDepth 20000 in
theorem dX8_drop_28 : decode cX8_drop 28 = .ok (.aload_n 0, 1) := by decide +kernel
set_option maxRecDepth 20000 in
theorem dX8_drop_29 : decode cX8_drop 29 = .ok (.getfield 7, 3) := by decide +kernel
set_option maxRecDepth 20000 in
theorem dX8_drop_32 : decode cX8_drop 32 = .ok (.iconst 1, 1) := by decide +kernel
set_option maxRecDepth 20000 in
theorem dX8_drop_33 : decode cX8_drop 33 = .ok (.iaload, 1) := by decide +kernel
set_option maxRecDepth 20000 in
theorem dX8_drop_34 : decode cX8_drop 34 = .ok (.if_icmp .ge 85, 3) := by decide +kernel
set_option maxRecDepth 20000 in
theorem dX8_drop_37 : decode cX8_drop 37 = .ok (.iconst 0, 1) := by decide +kernel
set_option maxRecDepth 20000 in
theorem dX8_drop_38 : decode cX8_drop 38 = .ok (.istore_n 3, 1) := by decide +kernel
set_option maxRecDepth 20000 in
theorem dX8_drop_39 : decode cX8_drop 39 = .ok (.iload_n 3, 1) := by decide +kernel
set_option maxRecDepth 20000 in
theorem dX8_drop_40 : decode cX8_drop 40 = .ok (.bipush 6, 2) := by decide +kernel
set_option maxRecDepth 20000 in
theorem dX8_drop_42 : decode cX8_drop 42 = .ok (.if_icmp .ge 31, 3) := by decide +kernel
set_option maxRecDepth 20000 in
theorem dX8_drop_45 : decode cX8_drop 45 = .ok (.aload_n 0, 1) := by decide +kernel
set_option maxRecDepth 20000 in
theorem dX8_drop_46 : decode cX8_drop 46 = .ok (.getfield 7, 3) := by decide +kernel
set_option maxRecDepth 20000 in
theorem dX8_drop_49 : decode cX8_drop 49 = .ok (.bipush 50, 2) := by decide +kernel
set_option maxRecDepth 20000 in
theorem dX8_drop_51 : decode cX8_drop 51 = .ok (.bipush 6, 2) := by decide +kernel
set_option maxRecDepth 20000 in
theorem dX8_drop_53 : decode cX8_drop 53 = .ok (.iload_n 2, 1) := by decide +kernel
set_option maxRecDepth 20000 in
theorem dX8_drop_54 : decode cX8_drop 54 = .ok (.imul, 1) := by decide +kernel
set_option maxRecDepth 20000 in
theorem dX8_drop_55 : decode cX8_drop 55 = .ok (.iadd, 1) := by decide +kernel
set_option maxRecDepth 20000 in
theorem dX8_drop_56 : decode cX8_drop 56 = .ok (.iload_n 3, 1) := by decide +kernel
set_option maxRecDepth 20000 in
theorem dX8_drop_57 : decode cX8_drop 57 = .ok (.iadd, 1) := by decide +kernel
set_option maxRecDepth 20000 in
theorem dX8_drop_58 : decode cX8_drop 58 = .ok (.aload_n 0, 1) := by decide +kernel
set_option maxRecDepth 20000 in
theorem dX8_drop_59 : decode cX8_drop 59 = .ok (.iload_n 2, 1) := by decide +kernel
set_option maxRecDepth 20000 in
theorem dX8_drop_60 : decode cX8_drop 60 = .ok (.iconst 1, 1) := by decide +kernel
set_option maxRecDepth 20000 in
theorem dX8_drop_61 : decode cX8_drop 61 = .ok (.iadd, 1) := by decide +kernel
set_option maxRecDepth 20000 in
theorem dX8_drop_62 : decode cX8_drop 62 = .ok (.iload_n 3, 1) := by decide +kernel
set_option maxRecDepth 20000 in
theorem dX8_drop_63 : decode cX8_drop 63 = .ok (.invokevirtual 58, 3) := by decide +kernel
set_option maxRecDepth 20000 in
theorem dX8_drop_66 : decode cX8_drop 66 = .ok (.iastore, 1) := by decide +kernel
set_option maxRecDepth 20000 in
theorem dX8_drop_67 : decode cX8_drop 67 = .ok (.iinc 3 1, 3) := by decide +kernel
set_option maxRecDepth 20000 in
theorem dX8_drop_70 : decode cX8_drop 70 = .ok (.goto (-31), 3) := by decide +kernel
set_option maxRecDepth 20000 in
theorem dX8_drop_73 : decode cX8_drop 73 = .ok (.iconst 0, 1) := by decide +kernel
set_option maxRecDepth 20000 in
theorem dX8_drop_74 : decode cX8_drop 74 = .ok (.istore_n 3, 1) := by decide +kernel
set_option maxRecDepth 20000 in
theorem dX8_drop_75 : decode cX8_drop 75 = .ok (.iload_n 3, 1) := by decide +kernel
set_option maxRecDepth 20000 in
theorem dX8_drop_76 : decode cX8_drop 76 = .ok (.bipush 48, 2) := by decide +kernel
set_option maxRecDepth 20000 in
theorem dX8_drop_78 : decode cX8_drop 78 = .ok (.if_icmp .ge 35, 3) := by decide +kernel
set_option maxRecDepth 20000 in
theorem dX8_drop_81 : decode cX8_drop 81 = .ok (.aload_n 0, 1) := by decide +kernel
set_option maxRecDepth 20000 in
theorem dX8_drop_82 : decode cX8_drop 82 = .ok (.getfield 7, 3) := by decide +kernel
set_option maxRecDepth 20000 in
theorem dX8_drop_85 : decode cX8_drop 85 = .ok (.iload_n 2, 1) := by decide +kernel
set_option maxRecDepth 20000 in
theorem dX8_drop_86 : decode cX8_drop 86 = .ok (.iconst 0, 1) := by decide +kernel
set_option maxRecDepth 20000 in
theorem dX8_drop_87 : decode cX8_drop 87 = .ok (.invokestatic 78, 3) := by decide +kernel
set_option maxRecDepth 20000 in
theorem dX8_drop_90 : decode cX8_drop 90 = .ok (.iload_n 3, 1) := by decide +kernel
set_option maxRecDepth 20000 in
theorem dX8_drop_91 : decode cX8_drop 91 = .ok (.iadd, 1) := by decide +kernel
set_option maxRecDepth 20000 in
theorem dX8_drop_92 : decode cX8_drop 92 = .ok (.aload_n 0, 1) := by decide +kernel
set_option maxRecDepth 20000 in
theorem dX8_drop_93 : decode cX8_drop 93 = .ok (.getfield 7, 3) := by decide +kernel
set_option maxRecDepth 20000 in
theorem dX8_drop_96 : decode cX8_drop 96 = .ok (.iload_n 2, 1) := by decide +kernel
set_option maxRecDepth 20000 in
theorem dX8_drop_97 : decode cX8_drop 97 = .ok (.iconst 1, 1) := by decide +kernel
set_option maxRecDepth 20000 in
theorem dX8_drop_98 : decode cX8_drop 98 = .ok (.iadd, 1) := by decide +kernel
set_option maxRecDepth 20000 in
theorem dX8_drop_99 : decode cX8_drop 99 = .ok (.iconst 0, 1) := by decide +kernel
set_option maxRecDepth 20000 in
theorem dX8_drop_100 : decode cX8_drop 100 = .ok (.invokestatic 78, 3) := by decide +kernel
set_option maxRecDepth 20000 in
theorem dX8_drop_103 : decode cX8_drop 103 = .ok (.iload_n 3, 1) := by decide +kernel
set_option maxRecDepth 20000 in
theorem dX8_drop_104 : decode cX8_drop 104 = .ok (.iadd, 1) := by decide +kernel
set_option maxRecDepth 20000 in
theorem dX8_drop_105 : decode cX8_drop 105 = .ok (.iaload, 1) := by decide +kernel
set_option maxRecDepth 20000 in
theorem dX8_drop_106 : decode cX8_drop 106 = .ok (.iastore, 1) := by decide +kernel
set_option maxRecDepth 20000 in
theorem dX8_drop_107 : decode cX8_drop 107 = .ok (.iinc 3 1, 3) := by decide +kernel
set_option maxRecDepth 20000 in
theorem dX8_drop_110 : decode cX8_drop 110 = .ok (.goto (-35), 3) := by decide +kernel
set_option maxRecDepth 20000 in
theorem dX8_drop_113 : decode cX8_drop 113 = .ok (.iinc 2 1, 3) := by decide +kernel
set_option maxRecDepth 20000 in
theorem dX8_drop_116 : decode cX8_drop 116 = .ok (.goto (-89), 3) := by decide +kernel
set_option maxRecDepth 20000 in
theorem dX8_drop_119 : decode cX8_drop 119 = .ok (.aload_n 0, 1) := by decide +kernel
set_option maxRecDepth 20000 in
theorem dX8_drop_120 : decode cX8_drop 120 = .ok (.getfield 7, 3) := by decide +kernel
set_option maxRecDepth 20000 in
theorem dX8_drop_123 : decode cX8_drop 123 = .ok (.iconst 1, 1) := by decide +kernel
set_option maxRecDepth 20000 in
theorem dX8_drop_124 : decode cX8_drop 124 = .ok (.iaload, 1) := by decide +kernel
set_option maxRecDepth 20000 in
theorem dX8_drop_125 : decode cX8_drop 125 = .ok (.ireturn, 1) := by decide +kernel
set_option maxRecDepth 20000 in
theorem dX8_lays_0 : decode cX8_lays 0 = .ok (.aload_n 0, 1) := by decide +kernel
set_option maxRecDepth 20000 in
theorem dX8_lays_1 : decode cX8_lays 1 = .ok (.getfield 7, 3) := by decide +kernel
set_option maxRecDepth 20000 in
theorem dX8_lays_4 : decode cX8_lays 4 = .ok (.iload_n 1, 1) := by decide +kernel
set_option maxRecDepth 20000 in
theorem dX8_lays_5 : decode cX8_lays 5 = .ok (.iload_n 2, 1) := by decide +kernel
set_option maxRecDepth 20000 in
theorem dX8_lays_6 : decode cX8_lays 6 = .ok (.invokestatic 78, 3) := by decide +kernel
set_option maxRecDepth 20000 in
theorem dX8_lays_9 : decode cX8_lays 9 = .ok (.iload_n 3, 1) := by decide +kernel
set_option maxRecDepth 20000 in
theorem dX8_lays_10 : decode cX8_lays 10 = .ok (.iastore, 1) := by decide +kernel
set_option maxRecDepth 20000 in
theorem dX8_lays_11 : decode cX8_lays 11 = .ok (.aload_n 0, 1) := by decide +kernel
set_option maxRecDepth 20000 in
theorem dX8_lays_12 : decode cX8_lays 12 = .ok (.getfield 7, 3) := by decide +kernel
set_option maxRecDepth 20000 in
theorem dX8_lays_15 : decode cX8_lays 15 = .ok (.iload_n 1, 1) := by decide +kernel
set_option maxRecDepth 20000 in
theorem dX8_lays_16 : decode cX8_lays 16 = .ok (.iload_n 2, 1) := by decide +kernel
set_option maxRecDepth 20000 in
theorem dX8_lays_17 : decode cX8_lays 17 = .ok (.invokestatic 78, 3) := by decide +kernel
set_option maxRecDepth 20000 in
theorem dX8_lays_20 : decode cX8_lays 20 = .ok (.iconst 1, 1) := by decide +kernel
set_option maxRecDepth 20000 in
theorem dX8_lays_21 : decode cX8_lays 21 = .ok (.iadd, 1) := by decide +kernel
set_option maxRecDepth 20000 in
theorem dX8_lays_22 : decode cX8_lays 22 = .ok (.iload 4, 2) := by decide +kernel
set_option maxRecDepth 20000 in
theorem dX8_lays_24 : decode cX8_lays 24 = .ok (.iastore, 1) := by decide +kernel
set_option maxRecDepth 20000 in
theorem dX8_lays_25 : decode cX8_lays 25 = .ok (.aload_n 0, 1) := by decide +kernel
set_option maxRecDepth 20000 in
theorem dX8_lays_26 : decode cX8_lays 26 = .ok (.getfield 7, 3) := by decide +kernel
set_option maxRecDepth 20000 in
theorem dX8_lays_29 : decode cX8_lays 29 = .ok (.iload_n 1, 1) := by decide +kernel
set_option maxRecDepth 20000 in
theorem dX8_lays_30 : decode cX8_lays 30 = .ok (.iload_n 2, 1) := by decide +kernel
set_option maxRecDepth 20000 in
theorem dX8_lays_31 : decode cX8_lays 31 = .ok (.invokestatic 78, 3) := by decide +kernel
set_option maxRecDepth 20000 in
theorem dX8_lays_34 : decode cX8_lays 34 = .ok (.iconst 2, 1) := by decide +kernel
set_option maxRecDepth 20000 in
theorem dX8_lays_35 : decode cX8_lays 35 = .ok (.iadd, 1) := by decide +kernel
set_option maxRecDepth 20000 in
theorem dX8_lays_36 : decode cX8_lays 36 = .ok (.iload 5, 2) := by decide +kernel
set_option maxRecDepth 20000 in
theorem dX8_lays_38 : decode cX8_lays 38 = .ok (.iastore, 1) := by decide +kernel
set_option maxRecDepth 20000 in
theorem dX8_lays_39 : decode cX8_lays 39 = .ok (.return_, 1) := by decide +kernel
set_option maxRecDepth 20000 in
theorem dX8_declare_0 : decode cX8_declare 0 = .ok (.aload_n 0, 1) := by decide +kernel
set_option maxRecDepth 20000 in
theorem dX8_declare_1 : decode cX8_declare 1 = .ok (.iload_n 1, 1) := by decide +kernel
set_option maxRecDepth 20000 in
theorem dX8_declare_2 : decode cX8_declare 2 = .ok (.invokevirtual 95, 3) := by decide +kernel
set_option maxRecDepth 20000 in
theorem dX8_declare_5 : decode cX8_declare 5 = .ok (.ifCond .eq 21, 3) := by decide +kernel
set_option maxRecDepth 20000 in
theorem dX8_declare_8 : decode cX8_declare 8 = .ok (.iload_n 2, 1) := by decide +kernel
set_option maxRecDepth 20000 in
theorem dX8_declare_9 : decode cX8_declare 9 = .ok (.invokestatic 98, 3) := by decide +kernel
set_option maxRecDepth 20000 in
theorem dX8_declare_12 : decode cX8_declare 12 = .ok (.ifCond .eq 14, 3) := by decide +kernel
set_option maxRecDepth 20000 in
theorem dX8_declare_15 : decode cX8_declare 15 = .ok (.iload_n 3, 1) := by decide +kernel
set_option maxRecDepth 20000 in
theorem dX8_declare_16 : decode cX8_declare 16 = .ok (.iconst 0, 1) := by decide +kernel
set_option maxRecDepth 20000 in
theorem dX8_declare_17 : decode cX8_declare 17 = .ok (.sipush 999, 3) := by decide +kernel
set_option maxRecDepth 20000 in
theorem dX8_declare_20 : decode cX8_declare 20 = .ok (.invokestatic 39, 3) := by decide +kernel
set_option maxRecDepth 20000 in
theorem dX8_declare_23 : decode cX8_declare 23 = .ok (.ifCond .ne 6, 3) := by decide +kernel
set_option maxRecDepth 20000 in
theorem dX8_declare_26 : decode cX8_declare 26 = .ok (.bipush (-11), 2) := by decide +kernel
set_option maxRecDepth 20000 in
theorem dX8_declare_28 : decode cX8_declare 28 = .ok (.ireturn, 1) := by decide +kernel
set_option maxRecDepth 20000 in
theorem dX8_declare_29 : decode cX8_declare 29 = .ok (.aload_n 0, 1) := by decide +kernel
set_option maxRecDepth 20000 in
theorem dX8_declare_30 : decode cX8_declare 30 = .ok (.invokevirtual 55, 3) := by decide +kernel
set_option maxRecDepth 20000 in
theorem dX8_declare_33 : decode cX8_declare 33 = .ok (.aload_n 0, 1) := by decide +kernel
set_option maxRecDepth 20000 in
theorem dX8_declare_34 : decode cX8_declare 34 = .ok (.iload_n 1, 1) := by decide +kernel
set_option maxRecDepth 20000 in
theorem dX8_declare_35 : decode cX8_declare 35 = .ok (.iload_n 2, 1) := by decide +kernel
set_option maxRecDepth 20000 in
theorem dX8_declare_36 : decode cX8_declare 36 = .ok (.iconst 1, 1) := by decide +kernel
set_option maxRecDepth 20000 in
theorem dX8_declare_37 : decode cX8_declare 37 = .ok (.iload_n 3, 1) := by decide +kernel
set_option maxRecDepth 20000 in
theorem dX8_declare_38 : decode cX8_declare 38 = .ok (.iconst (-1), 1) := by decide +kernel
set_option maxRecDepth 20000 in
theorem dX8_declare_39 : decode cX8_declare 39 = .ok (.invokevirtual 101, 3) := by decide +kernel
set_option maxRecDepth 20000 in
theorem dX8_declare_42 : decode cX8_declare 42 = .ok (.aload_n 0, 1) := by decide +kernel
set_option maxRecDepth 20000 in
theorem dX8_declare_43 : decode cX8_declare 43 = .ok (.iload_n 1, 1) := by decide +kernel
set_option maxRecDepth 20000 in
theorem dX8_declare_44 : decode cX8_declare 44 = .ok (.invokevirtual 105, 3) := by decide +kernel
set_option maxRecDepth 20000 in
theorem dX8_declare_47 : decode cX8_declare 47 = .ok (.ireturn, 1) := by decide +kernel
set_option maxRecDepth 20000 in
theorem dX8_refer_0 : decode cX8_refer 0 = .ok (.aload_n 0, 1) := by decide +kernel
set_option maxRecDepth 20000 in
theorem dX8_refer_1 : decode cX8_refer 1 = .ok (.iload_n 1, 1) := by decide +kernel
set_option maxRecDepth 20000 in
theorem dX8_refer_2 : decode cX8_refer 2 = .ok (.invokevirtual 95, 3) := by decide +kernel
set_option maxRecDepth 20000 in
theorem dX8_refer_5 : decode cX8_refer 5 = .ok (.ifCond .eq 33, 3) := by decide +kernel
set_option maxRecDepth 20000 in
theorem dX8_refer_8 : decode cX8_refer 8 = .ok (.iload_n 2, 1) := by decide +kernel
set_option maxRecDepth 20000 in
theorem dX8_refer_9 : decode cX8_refer 9 = .ok (.invokestatic 98, 3) := by decide +kernel
set_option maxRecDepth 20000 in
theorem dX8_refer_12 : decode cX8_refer 12 = .ok (.ifCond .eq 26, 3) := by decide +kernel
set_option maxRecDepth 20000 in
theorem dX8_refer_15 : decode cX8_refer 15 = .ok (.iload_n 3, 1) := by decide +kernel
set_option maxRecDepth 20000 in
theorem dX8_refer_16 : decode cX8_refer 16 = .ok (.bipush 8, 2) := by decide +kernel
set_option maxRecDepth 20000 in
theorem dX8_refer_18 : decode cX8_refer 18 = .ok (.bipush 15, 2) := by decide +kernel
set_option maxRecDepth 20000 in
theorem dX8_refer_20 : decode cX8_refer 20 = .ok (.invokestatic 39, 3) := by decide +kernel
set_option maxRecDepth 20000 in
theorem dX8_refer_23 : decode cX8_refer 23 = .ok (.ifCond .eq 15, 3) := by decide +kernel
set_option maxRecDepth 20000 in
theorem dX8_refer_26 : decode cX8_refer 26 = .ok (.iload 4, 2) := by decide +kernel
set_option maxRecDepth 20000 in
theorem dX8_refer_28 : decode cX8_refer 28 = .ok (.iconst (-1), 1) := by decide +kernel
set_option maxRecDepth 20000 in
theorem dX8_refer_29 : decode cX8_refer 29 = .ok (.sipush 999, 3) := by decide +kernel
set_option maxRecDepth 20000 in
theorem dX8_refer_32 : decode cX8_refer 32 = .ok (.invokestatic 39, 3) := by decide +kernel
set_option maxRecDepth 20000 in
theorem dX8_refer_35 : decode cX8_refer 35 = .ok (.ifCond .ne 6, 3) := by decide +kernel
set_option maxRecDepth 20000 in
theorem dX8_refer_38 : decode cX8_refer 38 = .ok (.bipush (-11), 2) := by decide +kernel
set_option maxRecDepth 20000 in
theorem dX8_refer_40 : decode cX8_refer 40 = .ok (.ireturn, 1) := by decide +kernel
set_option maxRecDepth 20000 in
theorem dX8_refer_41 : decode cX8_refer 41 = .ok (.aload_n 0, 1) := by decide +kernel
set_option maxRecDepth 20000 in
theorem dX8_refer_42 : decode cX8_refer 42 = .ok (.invokevirtual 55, 3) := by decide +kernel
set_option maxRecDepth 20000 in
theorem dX8_refer_45 : decode cX8_refer 45 = .ok (.aload_n 0, 1) := by decide +kernel
set_option maxRecDepth 20000 in
theorem dX8_refer_46 : decode cX8_refer 46 = .ok (.iload_n 1, 1) := by decide +kernel
set_option maxRecDepth 20000 in
theorem dX8_refer_47 : decode cX8_refer 47 = .ok (.iload_n 2, 1) := by decide +kernel
set_option maxRecDepth 20000 in
theorem dX8_refer_48 : decode cX8_refer 48 = .ok (.iconst 2, 1) := by decide +kernel
set_option maxRecDepth 20000 in
theorem dX8_refer_49 : decode cX8_refer 49 = .ok (.iload_n 3, 1) := by decide +kernel
set_option maxRecDepth 20000 in
theorem dX8_refer_50 : decode cX8_refer 50 = .ok (.iload 4, 2) := by decide +kernel
set_option maxRecDepth 20000 in
theorem dX8_refer_52 : decode cX8_refer 52 = .ok (.invokevirtual 101, 3) := by decide +kernel
set_option maxRecDepth 20000 in
theorem dX8_refer_55 : decode cX8_refer 55 = .ok (.aload_n 0, 1) := by decide +kernel
set_option maxRecDepth 20000 in
theorem dX8_refer_56 : decode cX8_refer 56 = .ok (.iload_n 1, 1) := by decide +kernel
set_option maxRecDepth 20000 in
theorem dX8_refer_57 : decode cX8_refer 57 = .ok (.invokevirtual 105, 3) := by decide +kernel
set_option maxRecDepth 20000 in
theorem dX8_refer_60 : decode cX8_refer 60 = .ok (.ireturn, 1) := by decide +kernel
set_option maxRecDepth 20000 in
theorem dX8_undeclare_0 : decode cX8_undeclare 0 = .ok (.aload_n 0, 1) := by decide +kernel
set_option maxRecDepth 20000 in
theorem dX8_undeclare_1 : decode cX8_undeclare 1 = .ok (.iload_n 1, 1) := by decide +kernel
set_option maxRecDepth 20000 in
theorem dX8_undeclare_2 : decode cX8_undeclare 2 = .ok (.invokevirtual 95, 3) := by decide +kernel
set_option maxRecDepth 20000 in
theorem dX8_undeclare_5 : decode cX8_undeclare 5 = .ok (.ifCond .eq 10, 3) := by decide +kernel
set_option maxRecDepth 20000 in
theorem dX8_undeclare_8 : decode cX8_undeclare 8 = .ok (.iload_n 2, 1) := by decide +kernel
set_option maxRecDepth 20000 in
theorem dX8_undeclare_9 : decode cX8_undeclare 9 = .ok (.invokestatic 98, 3) := by decide +kernel
set_option maxRecDepth 20000 in
theorem dX8_undeclare_12 : decode cX8_undeclare 12 = .ok (.ifCond .ne 6, 3) := by decide +kernel
set_option maxRecDepth 20000 in
theorem dX8_undeclare_15 : decode cX8_undeclare 15 = .ok (.bipush (-11), 2) := by decide +kernel
set_option maxRecDepth 20000 in
theorem dX8_undeclare_17 : decode cX8_undeclare 17 = .ok (.ireturn, 1) := by decide +kernel
set_option maxRecDepth 20000 in
theorem dX8_undeclare_18 : decode cX8_undeclare 18 = .ok (.aload_n 0, 1) := by decide +kernel
set_option maxRecDepth 20000 in
theorem dX8_undeclare_19 : decode cX8_undeclare 19 = .ok (.getfield 7, 3) := by decide +kernel
set_option maxRecDepth 20000 in
theorem dX8_undeclare_22 : decode cX8_undeclare 22 = .ok (.iload_n 1, 1) := by decide +kernel
set_option maxRecDepth 20000 in
theorem dX8_undeclare_23 : decode cX8_undeclare 23 = .ok (.iload_n 2, 1) := by decide +kernel
set_option maxRecDepth 20000 in
theorem dX8_undeclare_24 : decode cX8_undeclare 24 = .ok (.invokestatic 78, 3) := by decide +kernel
set_option maxRecDepth 20000 in
theorem dX8_undeclare_27 : decode cX8_undeclare 27 = .ok (.iaload, 1) := by decide +kernel
set_option maxRecDepth 20000 in
theorem dX8_undeclare_28 : decode cX8_undeclare 28 = .ok (.ifCond .ne 6, 3) := by decide +kernel
set_option maxRecDepth 20000 in
theorem dX8_undeclare_31 : decode cX8_undeclare 31 = .ok (.bipush (-12), 2) := by decide +kernel
set_option maxRecDepth 20000 in
theorem dX8_undeclare_33 : decode cX8_undeclare 33 = .ok (.ireturn, 1) := by decide +kernel
set_option maxRecDepth 20000 in
theorem dX8_undeclare_34 : decode cX8_undeclare 34 = .ok (.aload_n 0, 1) := by decide +kernel
set_option maxRecDepth 20000 in
theorem dX8_undeclare_35 : decode cX8_undeclare 35 = .ok (.invokevirtual 55, 3) := by decide +kernel
set_option maxRecDepth 20000 in
theorem dX8_undeclare_38 : decode cX8_undeclare 38 = .ok (.aload_n 0, 1) := by decide +kernel
set_option maxRecDepth 20000 in
theorem dX8_undeclare_39 : decode cX8_undeclare 39 = .ok (.getfield 7, 3) := by decide +kernel
set_option maxRecDepth 20000 in
theorem dX8_undeclare_42 : decode cX8_undeclare 42 = .ok (.iload_n 1, 1) := by decide +kernel
set_option maxRecDepth 20000 in
theorem dX8_undeclare_43 : decode cX8_undeclare 43 = .ok (.iload_n 2, 1) := by decide +kernel
set_option maxRecDepth 20000 in
theorem dX8_undeclare_44 : decode cX8_undeclare 44 = .ok (.invokestatic 78, 3) := by decide +kernel
set_option maxRecDepth 20000 in
theorem dX8_undeclare_47 : decode cX8_undeclare 47 = .ok (.iconst 0, 1) := by decide +kernel
set_option maxRecDepth 20000 in
theorem dX8_undeclare_48 : decode cX8_undeclare 48 = .ok (.iastore, 1) := by decide +kernel
set_option maxRecDepth 20000 in
theorem dX8_undeclare_49 : decode cX8_undeclare 49 = .ok (.aload_n 0, 1) := by decide +kernel
set_option maxRecDepth 20000 in
theorem dX8_undeclare_50 : decode cX8_undeclare 50 = .ok (.iload_n 1, 1) := by decide +kernel
set_option maxRecDepth 20000 in
theorem dX8_undeclare_51 : decode cX8_undeclare 51 = .ok (.invokevirtual 105, 3) := by decide +kernel
set_option maxRecDepth 20000 in
theorem dX8_undeclare_54 : decode cX8_undeclare 54 = .ok (.ireturn, 1) := by decide +kernel
set_option maxRecDepth 20000 in
theorem dX8_specificity_0 : decode cX8_specificity 0 = .ok (.aload_n 0, 1) := by decide +kernel
set_option maxRecDepth 20000 in
theorem dX8_specificity_1 : decode cX8_specificity 1 = .ok (.iload_n 1, 1) := by decide +kernel
set_option maxRecDepth 20000 in
theorem dX8_specificity_2 : decode cX8_specificity 2 = .ok (.iconst 0, 1) := by decide +kernel
set_option maxRecDepth 20000 in
theorem dX8_specificity_3 : decode cX8_specificity 3 = .ok (.invokevirtual 58, 3) := by decide +kernel
set_option maxRecDepth 20000 in
theorem dX8_specificity_6 : decode cX8_specificity 6 = .ok (.iconst (-1), 1) := by decide +kernel
set_option maxRecDepth 20000 in
theorem dX8_specificity_7 : decode cX8_specificity 7 = .ok (.if_icmp .ne 7, 3) := by decide +kernel
set_option maxRecDepth 20000 in
theorem dX8_specificity_10 : decode cX8_specificity 10 = .ok (.iconst 0, 1) := by decide +kernel
set_option maxRecDepth 20000 in
theorem dX8_specificity_11 : decode cX8_specificity 11 = .ok (.goto 4, 3) := by decide +kernel
set_option maxRecDepth 20000 in
theorem dX8_specificity_14 : decode cX8_specificity 14 = .ok (.iconst 1, 1) := by decide +kernel
set_option maxRecDepth 20000 in
theorem dX8_specificity_15 : decode cX8_specificity 15 = .ok (.aload_n 0, 1) := by decide +kernel
set_option maxRecDepth 20000 in
theorem dX8_specificity_16 : decode cX8_specificity 16 = .ok (.iload_n 1, 1) := by decide +kernel
set_option maxRecDepth 20000 in
theorem dX8_specificity_17 : decode cX8_specificity 17 = .ok (.iconst 2, 1) := by decide +kernel
set_option maxRecDepth 20000 in
theorem dX8_specificity_18 : decode cX8_specificity 18 = .ok (.invokevirtual 58, 3) := by decide +kernel
set_option maxRecDepth 20000 in
theorem dX8_specificity_21 : decode cX8_specificity 21 = .ok (.iconst (-1), 1) := by decide +kernel
set_option maxRecDepth 20000 in
theorem dX8_specificity_22 : decode cX8_specificity 22 = .ok (.if_icmp .ne 7, 3) := by decide +kernel
set_option maxRecDepth 20000 in
theorem dX8_specificity_25 : decode cX8_specificity 25 = .ok (.iconst 0, 1) := by decide +kernel
set_option maxRecDepth 20000 in
theorem dX8_specificity_26 : decode cX8_specificity 26 = .ok (.goto 4, 3) := by decide +kernel
set_option maxRecDepth 20000 in
theorem dX8_specificity_29 : decode cX8_specificity 29 = .ok (.iconst 1, 1) := by decide +kernel
set_option maxRecDepth 20000 in
theorem dX8_specificity_30 : decode cX8_specificity 30 = .ok (.iadd, 1) := by decide +kernel
set_option maxRecDepth 20000 in
theorem dX8_specificity_31 : decode cX8_specificity 31 = .ok (.istore_n 2, 1) := by decide +kernel
set_option maxRecDepth 20000 in
theorem dX8_specificity_32 : decode cX8_specificity 32 = .ok (.iconst 0, 1) := by decide +kernel
set_option maxRecDepth 20000 in
theorem dX8_specificity_33 : decode cX8_specificity 33 = .ok (.istore_n 3, 1) := by decide +kernel
set_option maxRecDepth 20000 in
theorem dX8_specificity_34 : decode cX8_specificity 34 = .ok (.iload_n 3, 1) := by decide +kernel
set_option maxRecDepth 20000 in
theorem dX8_specificity_35 : decode cX8_specificity 35 = .ok (.iconst 4, 1) := by decide +kernel
set_option maxRecDepth 20000 in
theorem dX8_specificity_36 : decode cX8_specificity 36 = .ok (.if_icmp .ge 25, 3) := by decide +kernel
set_option maxRecDepth 20000 in
theorem dX8_specificity_39 : decode cX8_specificity 39 = .ok (.iload_n 2, 1) := by decide +kernel
set_option maxRecDepth 20000 in
theorem dX8_specificity_40 : decode cX8_specificity 40 = .ok (.bipush 10, 2) := by decide +kernel
set_option maxRecDepth 20000 in
theorem dX8_specificity_42 : decode cX8_specificity 42 = .ok (.aload_n 0, 1) := by decide +kernel
set_option maxRecDepth 20000 in
theorem dX8_specificity_43 : decode cX8_specificity 43 = .ok (.iload_n 1, 1) := by decide +kernel
set_option maxRecDepth 20000 in
theorem dX8_specificity_44 : decode cX8_specificity 44 = .ok (.iconst 1, 1) := by decide +kernel
set_option maxRecDepth 20000 in
theorem dX8_specificity_45 : decode cX8_specificity 45 = .ok (.invokevirtual 58, 3) := by decide +kernel
set_option maxRecDepth 20000 in
theorem dX8_specificity_48 : decode cX8_specificity 48 = .ok (.iload_n 3, 1) := by decide +kernel
set_option maxRecDepth 20000 in
theorem dX8_specificity_49 : decode cX8_specificity 49 = .ok (.ishr, 1) := by decide +kernel
set_option maxRecDepth 20000 in
theorem dX8_specificity_50 : decode cX8_specificity 50 = .ok (.iconst 1, 1) := by decide +kernel
set_option maxRecDepth 20000 in
theorem dX8_specificity_51 : decode cX8_specificity 51 = .ok (.iand, 1) := by decide +kernel
set_option maxRecDepth 20000 in
theorem dX8_specificity_52 : decode cX8_specificity 52 = .ok (.imul, 1) := by decide +kernel
set_option maxRecDepth 20000 in
theorem dX8_specificity_53 : decode cX8_specificity 53 = .ok (.iadd, 1) := by decide +kernel
set_option maxRecDepth 20000 in
theorem dX8_specificity_54 : decode cX8_specificity 54 = .ok (.istore_n 2, 1) := by decide +kernel
set_option maxRecDepth 20000 in
theorem dX8_specificity_55 : decode cX8_specificity 55 = .ok (.iinc 3 1, 3) := by decide +kernel
set_option maxRecDepth 20000 in
theorem dX8_specificity_58 : decode cX8_specificity 58 = .ok (.goto (-24), 3) := by decide +kernel
set_option maxRecDepth 20000 in
theorem dX8_specificity_61 : decode cX8_specificity 61 = .ok (.iload_n 2, 1) := by decide +kernel
set_option maxRecDepth 20000 in
theorem dX8_specificity_62 : decode cX8_specificity 62 = .ok (.ireturn, 1) := by decide +kernel
set_option maxRecDepth 20000 in
theorem dX8_ruleOf_0 : decode cX8_ruleOf 0 = .ok (.aload_n 0, 1) := by decide +kernel
set_option maxRecDepth 20000 in
theorem dX8_ruleOf_1 : decode cX8_ruleOf 1 = .ok (.iload_n 1, 1) := by decide +kernel
set_option maxRecDepth 20000 in
theorem dX8_ruleOf_2 : decode cX8_ruleOf 2 = .ok (.invokevirtual 95, 3) := by decide +kernel
set_option maxRecDepth 20000 in
theorem dX8_ruleOf_5 : decode cX8_ruleOf 5 = .ok (.ifCond .eq 13, 3) := by decide +kernel
set_option maxRecDepth 20000 in
theorem dX8_ruleOf_8 : decode cX8_ruleOf 8 = .ok (.iload_n 2, 1) := by decide +kernel
set_option maxRecDepth 20000 in
theorem dX8_ruleOf_9 : decode cX8_ruleOf 9 = .ok (.iconst 0, 1) := by decide +kernel
set_option maxRecDepth 20000 in
theorem dX8_ruleOf_10 : decode cX8_ruleOf 10 = .ok (.bipush 8, 2) := by decide +kernel
set_option maxRecDepth 20000 in
theorem dX8_ruleOf_12 : decode cX8_ruleOf 12 = .ok (.invokestatic 39, 3) := by decide +kernel
set_option maxRecDepth 20000 in
theorem dX8_ruleOf_15 : decode cX8_ruleOf 15 = .ok (.ifCond .ne 6, 3) := by decide +kernel
set_option maxRecDepth 20000 in
theorem dX8_ruleOf_18 : decode cX8_ruleOf 18 = .ok (.bipush (-11), 2) := by decide +kernel
set_option maxRecDepth 20000 in
theorem dX8_ruleOf_20 : decode cX8_ruleOf 20 = .ok (.ireturn, 1) := by decide +kernel
set_option maxRecDepth 20000 in
theorem dX8_ruleOf_21 : decode cX8_ruleOf 21 = .ok (.iload_n 2, 1) := by decide +kernel
set_option maxRecDepth 20000 in
theorem dX8_ruleOf_22 : decode cX8_ruleOf 22 = .ok (.bipush 6, 2) := by decide +kernel
set_option maxRecDepth 20000 in
theorem dX8_ruleOf_24 : decode cX8_ruleOf 24 = .ok (.if_icmp .ge 10, 3) := by decide +kernel
set_option maxRecDepth 20000 in
theorem dX8_ruleOf_27 : decode cX8_ruleOf 27 = .ok (.aload_n 0, 1) := by decide +kernel
set_option maxRecDepth 20000 in
theorem dX8_ruleOf_28 : decode cX8_ruleOf 28 = .ok (.iload_n 1, 1) := by decide +kernel
set_option maxRecDepth 20000 in
theorem dX8_ruleOf_29 : decode cX8_ruleOf 29 = .ok (.iload_n 2, 1) := by decide +kernel
set_option maxRecDepth 20000 in
theorem dX8_ruleOf_30 : decode cX8_ruleOf 30 = .ok (.invokevirtual 58, 3) := by decide +kernel
set_option maxRecDepth 20000 in
theorem dX8_ruleOf_33 : decode cX8_ruleOf 33 = .ok (.ireturn, 1) := by decide +kernel
set_option maxRecDepth 20000 in
theorem dX8_ruleOf_34 : decode cX8_ruleOf 34 = .ok (.iconst 0, 1) := by decide +kernel
set_option maxRecDepth 20000 in
theorem dX8_ruleOf_35 : decode cX8_ruleOf 35 = .ok (.istore_n 3, 1) := by decide +kernel
set_option maxRecDepth 20000 in
theorem dX8_ruleOf_36 : decode cX8_ruleOf 36 = .ok (.iconst 0, 1) := by decide +kernel
set_option maxRecDepth 20000 in
theorem dX8_ruleOf_37 : decode cX8_ruleOf 37 = .ok (.istore 4, 2) := by decide +kernel
set_option maxRecDepth 20000 in
theorem dX8_ruleOf_39 : decode cX8_ruleOf 39 = .ok (.iload 4, 2) := by decide +kernel
set_option maxRecDepth 20000 in
theorem dX8_ruleOf_41 : decode cX8_ruleOf 41 = .ok (.aload_n 0, 1) := by decide +kernel
set_option maxRecDepth 20000 in
theorem dX8_ruleOf_42 : decode cX8_ruleOf 42 = .ok (.getfield 7, 3) := by decide +kernel
set_option maxRecDepth 20000 in
theorem dX8_ruleOf_45 : decode cX8_ruleOf 45 = .ok (.iconst 0, 1) := by decide +kernel
set_option maxRecDepth 20000 in
theorem dX8_ruleOf_46 : decode cX8_ruleOf 46 = .ok (.iaload, 1) := by decide +kernel
set_option maxRecDepth 20000 in
theorem dX8_ruleOf_47 : decode cX8_ruleOf 47 = .ok (.if_icmp .ge 27, 3) := by decide +kernel
set_option maxRecDepth 20000 in
theorem dX8_ruleOf_50 : decode cX8_ruleOf 50 = .ok (.iload_n 3, 1) := by decide +kernel
set_option maxRecDepth 20000 in
theorem dX8_ruleOf_51 : decode cX8_ruleOf 51 = .ok (.aload_n 0, 1) := by decide +kernel
set_option maxRecDepth 20000 in
theorem dX8_ruleOf_52 : decode cX8_ruleOf 52 = .ok (.iload_n 1, 1) := by decide +kernel
set_option maxRecDepth 20000 in
theorem dX8_ruleOf_53 : decode cX8_ruleOf 53 = .ok (.iload 4, 2) := by decide +kernel
set_option maxRecDepth 20000 in
theorem dX8_ruleOf_55 : decode cX8_ruleOf 55 = .ok (.invokevirtual 65, 3) := by decide +kernel
set_option maxRecDepth 20000 in
theorem dX8_ruleOf_58 : decode cX8_ruleOf 58 = .ok (.ifCond .eq 7, 3) := by decide +kernel
set_option maxRecDepth 20000 in
theorem dX8_ruleOf_61 : decode cX8_ruleOf 61 = .ok (.iconst 1, 1) := by decide +kernel
set_option maxRecDepth 20000 in
theorem dX8_ruleOf_62 : decode cX8_ruleOf 62 = .ok (.goto 4, 3) := by decide +kernel
set_option maxRecDepth 20000 in
theorem dX8_ruleOf_65 : decode cX8_ruleOf 65 = .ok (.iconst 0, 1) := by decide +kernel
set_option maxRecDepth 20000 in
theorem dX8_ruleOf_66 : decode cX8_ruleOf 66 = .ok (.iadd, 1) := by decide +kernel
set_option maxRecDepth 20000 in
theorem dX8_ruleOf_67 : decode cX8_ruleOf 67 = .ok (.istore_n 3, 1) := by decide +kernel
set_option maxRecDepth 20000 in
theorem dX8_ruleOf_68 : decode cX8_ruleOf 68 = .ok (.iinc 4 1, 3) := by decide +kernel
set_option maxRecDepth 20000 in
theorem dX8_ruleOf_71 : decode cX8_ruleOf 71 = .ok (.goto (-32), 3) := by decide +kernel
set_option maxRecDepth 20000 in
theorem dX8_ruleOf_74 : decode cX8_ruleOf 74 = .ok (.iload_n 2, 1) := by decide +kernel
set_option maxRecDepth 20000 in
theorem dX8_ruleOf_75 : decode cX8_ruleOf 75 = .ok (.bipush 6, 2) := by decide +kernel
set_option maxRecDepth 20000 in
theorem dX8_ruleOf_77 : decode cX8_ruleOf 77 = .ok (.if_icmp .ne 11, 3) := by decide +kernel
set_option maxRecDepth 20000 in
theorem dX8_ruleOf_80 : decode cX8_ruleOf 80 = .ok (.aload_n 0, 1) := by decide +kernel
set_option maxRecDepth 20000 in
theorem dX8_ruleOf_81 : decode cX8_ruleOf 81 = .ok (.iload_n 1, 1) := by decide +kernel
set_option maxRecDepth 20000 in
theorem dX8_ruleOf_82 : decode cX8_ruleOf 82 = .ok (.invokevirtual 108, 3) := by decide +kernel
set_option maxRecDepth 20000 in
theorem dX8_ruleOf_85 : decode cX8_ruleOf 85 = .ok (.goto 18, 3) := by decide +kernel
set_option maxRecDepth 20000 in
theorem dX8_ruleOf_88 : decode cX8_ruleOf 88 = .ok (.iload_n 2, 1) := by decide +kernel
set_option maxRecDepth 20000 in
theorem dX8_ruleOf_89 : decode cX8_ruleOf 89 = .ok (.bipush 7, 2) := by decide +kernel
set_option maxRecDepth 20000 in
theorem dX8_ruleOf_91 : decode cX8_ruleOf 91 = .ok (.if_icmp .ne 11, 3) := by decide +kernel
set_option maxRecDepth 20000 in
theorem dX8_ruleOf_94 : decode cX8_ruleOf 94 = .ok (.aload_n 0, 1) := by decide +kernel
set_option maxRecDepth 20000 in
theorem dX8_ruleOf_95 : decode cX8_ruleOf 95 = .ok (.iload_n 1, 1) := by decide +kernel
set_option maxRecDepth 20000 in
theorem dX8_ruleOf_96 : decode cX8_ruleOf 96 = .ok (.invokevirtual 105, 3) := by decide +kernel
set_option maxRecDepth 20000 in
theorem dX8_ruleOf_99 : decode cX8_ruleOf 99 = .ok (.goto 4, 3) := by decide +kernel
set_option maxRecDepth 20000 in
theorem dX8_ruleOf_102 : decode cX8_ruleOf 102 = .ok (.iload_n 3, 1) := by decide +kernel
set_option maxRecDepth 20000 in
theorem dX8_ruleOf_103 : decode cX8_ruleOf 103 = .ok (.ireturn, 1) := by decide +kernel
set_option maxRecDepth 20000 in
theorem dX8_declared_0 : decode cX8_declared 0 = .ok (.aload_n 0, 1) := by decide +kernel
set_option maxRecDepth 20000 in
theorem dX8_declared_1 : decode cX8_declared 1 = .ok (.iload_n 1, 1) := by decide +kernel
set_option maxRecDepth 20000 in
theorem dX8_declared_2 : decode cX8_declared 2 = .ok (.invokevirtual 95, 3) := by decide +kernel
set_option maxRecDepth 20000 in
theorem dX8_declared_5 : decode cX8_declared 5 = .ok (.ifCond .eq 19, 3) := by decide +kernel
set_option maxRecDepth 20000 in
theorem dX8_declared_8 : decode cX8_declared 8 = .ok (.iload_n 2, 1) := by decide +kernel
set_option maxRecDepth 20000 in
theorem dX8_declared_9 : decode cX8_declared 9 = .ok (.invokestatic 98, 3) := by decide +kernel
set_option maxRecDepth 20000 in
theorem dX8_declared_12 : decode cX8_declared 12 = .ok (.ifCond .eq 12, 3) := by decide +kernel
set_option maxRecDepth 20000 in
theorem dX8_declared_15 : decode cX8_declared 15 = .ok (.iload_n 3, 1) := by decide +kernel
set_option maxRecDepth 20000 in
theorem dX8_declared_16 : decode cX8_declared 16 = .ok (.iconst 0, 1) := by decide +kernel
set_option maxRecDepth 20000 in
theorem dX8_declared_17 : decode cX8_declared 17 = .ok (.iconst 2, 1) := by decide +kernel
set_option maxRecDepth 20000 in
theorem dX8_declared_18 : decode cX8_declared 18 = .ok (.invokestatic 39, 3) := by decide +kernel
set_option maxRecDepth 20000 in
theorem dX8_declared_21 : decode cX8_declared 21 = .ok (.ifCond .ne 6, 3) := by decide +kernel
set_option maxRecDepth 20000 in
theorem dX8_declared_24 : decode cX8_declared 24 = .ok (.bipush (-11), 2) := by decide +kernel
set_option maxRecDepth 20000 in
theorem dX8_declared_26 : decode cX8_declared 26 = .ok (.ireturn, 1) := by decide +kernel
set_option maxRecDepth 20000 in
theorem dX8_declared_27 : decode cX8_declared 27 = .ok (.iload_n 1, 1) := by decide +kernel
set_option maxRecDepth 20000 in
theorem dX8_declared_28 : decode cX8_declared 28 = .ok (.iload_n 2, 1) := by decide +kernel
set_option maxRecDepth 20000 in
theorem dX8_declared_29 : decode cX8_declared 29 = .ok (.invokestatic 78, 3) := by decide +kernel
set_option maxRecDepth 20000 in
theorem dX8_declared_32 : decode cX8_declared 32 = .ok (.istore 4, 2) := by decide +kernel
set_option maxRecDepth 20000 in
theorem dX8_declared_34 : decode cX8_declared 34 = .ok (.aload_n 0, 1) := by decide +kernel
set_option maxRecDepth 20000 in
theorem dX8_declared_35 : decode cX8_declared 35 = .ok (.getfield 7, 3) := by decide +kernel
set_option maxRecDepth 20000 in
theorem dX8_declared_38 : decode cX8_declared 38 = .ok (.iload 4, 2) := by decide +kernel
set_option maxRecDepth 20000 in
theorem dX8_declared_40 : decode cX8_declared 40 = .ok (.iaload, 1) := by decide +kernel
set_option maxRecDepth 20000 in
theorem dX8_declared_41 : decode cX8_declared 41 = .ok (.iload_n 3, 1) := by decide +kernel
set_option maxRecDepth 20000 in
theorem dX8_declared_42 : decode cX8_declared 42 = .ok (.ifCond .ne 7, 3) := by decide +kernel
set_option maxRecDepth 20000 in
theorem dX8_declared_45 : decode cX8_declared 45 = .ok (.iconst 1, 1) := by decide +kernel
set_option maxRecDepth 20000 in
theorem dX8_declared_46 : decode cX8_declared 46 = .ok (.goto 4, 3) := by decide +kernel
set_option maxRecDepth 20000 in
theorem dX8_declared_49 : decode cX8_declared 49 = .ok (.iconst 2, 1) := by decide +kernel
set_option maxRecDepth 20000 in
theorem dX8_declared_50 : decode cX8_declared 50 = .ok (.if_icmp .eq 6, 3) := by decide +kernel
set_option maxRecDepth 20000 in
theorem dX8_declared_53 : decode cX8_declared 53 = .ok (.bipush (-14), 2) := by decide +kernel
set_option maxRecDepth 20000 in
theorem dX8_declared_55 : decode cX8_declared 55 = .ok (.ireturn, 1) := by decide +kernel
set_option maxRecDepth 20000 in
theorem dX8_declared_56 : decode cX8_declared 56 = .ok (.iload_n 3, 1) := by decide +kernel
set_option maxRecDepth 20000 in
theorem dX8_declared_57 : decode cX8_declared 57 = .ok (.iconst 2, 1) := by decide +kernel
set_option maxRecDepth 20000 in
theorem dX8_declared_58 : decode cX8_declared 58 = .ok (.if_icmp .ge 15, 3) := by decide +kernel
set_option maxRecDepth 20000 in
theorem dX8_declared_61 : decode cX8_declared 61 = .ok (.aload_n 0, 1) := by decide +kernel
set_option maxRecDepth 20000 in
theorem dX8_declared_62 : decode cX8_declared 62 = .ok (.getfield 7, 3) := by decide +kernel
set_option maxRecDepth 20000 in
theorem dX8_declared_65 : decode cX8_declared 65 = .ok (.iload 4, 2) := by decide +kernel
set_option maxRecDepth 20000 in
theorem dX8_declared_67 : decode cX8_declared 67 = .ok (.iconst 1, 1) := by decide +kernel
set_option maxRecDepth 20000 in
theorem dX8_declared_68 : decode cX8_declared 68 = .ok (.iadd, 1) := by decide +kernel
set_option maxRecDepth 20000 in
theorem dX8_declared_69 : decode cX8_declared 69 = .ok (.iaload, 1) := by decide +kernel
set_option maxRecDepth 20000 in
theorem dX8_declared_70 : decode cX8_declared 70 = .ok (.goto 30, 3) := by decide +kernel
set_option maxRecDepth 20000 in
theorem dX8_declared_73 : decode cX8_declared 73 = .ok (.aload_n 0, 1) := by decide +kernel
set_option maxRecDepth 20000 in
theorem dX8_declared_74 : decode cX8_declared 74 = .ok (.getfield 7, 3) := by decide +kernel
set_option maxRecDepth 20000 in
theorem dX8_declared_77 : decode cX8_declared 77 = .ok (.iload 4, 2) := by decide +kernel
set_option maxRecDepth 20000 in
theorem dX8_declared_79 : decode cX8_declared 79 = .ok (.iconst 2, 1) := by decide +kernel
set_option maxRecDepth 20000 in
theorem dX8_declared_80 : decode cX8_declared 80 = .ok (.iadd, 1) := by decide +kernel
set_option maxRecDepth 20000 in
theorem dX8_declared_81 : decode cX8_declared 81 = .ok (.iaload, 1) := by decide +kernel
set_option maxRecDepth 20000 in
theorem dX8_declared_82 : decode cX8_declared 82 = .ok (.iconst (-1), 1) := by decide +kernel
set_option maxRecDepth 20000 in
theorem dX8_declared_83 : decode cX8_declared 83 = .ok (.if_icmp .ne 8, 3) := by decide +kernel
set_option maxRecDepth 20000 in
theorem dX8_declared_86 : decode cX8_declared 86 = .ok (.bipush (-14), 2) := by decide +kernel
set_option maxRecDepth 20000 in
theorem dX8_declared_88 : decode cX8_declared 88 = .ok (.goto 12, 3) := by decide +kernel
set_option maxRecDepth 20000 in
theorem dX8_declared_91 : decode cX8_declared 91 = .ok (.aload_n 0, 1) := by decide +kernel
set_option maxRecDepth 20000 in
theorem dX8_declared_92 : decode cX8_declared 92 = .ok (.getfield 7, 3) := by decide +kernel
set_option maxRecDepth 20000 in
theorem dX8_declared_95 : decode cX8_declared 95 = .ok (.iload 4, 2) := by decide +kernel
set_option maxRecDepth 20000 in
theorem dX8_declared_97 : decode cX8_declared 97 = .ok (.iconst 2, 1) := by decide +kernel
set_option maxRecDepth 20000 in
theorem dX8_declared_98 : decode cX8_declared 98 = .ok (.iadd, 1) := by decide +kernel
set_option maxRecDepth 20000 in
theorem dX8_declared_99 : decode cX8_declared 99 = .ok (.iaload, 1) := by decide +kernel
set_option maxRecDepth 20000 in
theorem dX8_declared_100 : decode cX8_declared 100 = .ok (.ireturn, 1) := by decide +kernel
set_option maxRecDepth 20000 in
theorem dX8_matches_0 : decode cX8_matches 0 = .ok (.aload_n 0, 1) := by decide +kernel
set_option maxRecDepth 20000 in
theorem dX8_matches_1 : decode cX8_matches 1 = .ok (.iload_n 1, 1) := by decide +kernel
set_option maxRecDepth 20000 in
theorem dX8_matches_2 : decode cX8_matches 2 = .ok (.invokevirtual 95, 3) := by decide +kernel
set_option maxRecDepth 20000 in
theorem dX8_matches_5 : decode cX8_matches 5 = .ok (.ifCond .eq 28, 3) := by decide +kernel
set_option maxRecDepth 20000 in
theorem dX8_matches_8 : decode cX8_matches 8 = .ok (.aload_n 0, 1) := by decide +kernel
set_option maxRecDepth 20000 in
theorem dX8_matches_9 : decode cX8_matches 9 = .ok (.iload_n 2, 1) := by decide +kernel
set_option maxRecDepth 20000 in
theorem dX8_matches_10 : decode cX8_matches 10 = .ok (.invokevirtual 47, 3) := by decide +kernel
set_option maxRecDepth 20000 in
theorem dX8_matches_13 : decode cX8_matches 13 = .ok (.ifCond .eq 20, 3) := by decide +kernel
set_option maxRecDepth 20000 in
theorem dX8_matches_16 : decode cX8_matches 16 = .ok (.aload_n 0, 1) := by decide +kernel
set_option maxRecDepth 20000 in
theorem dX8_matches_17 : decode cX8_matches 17 = .ok (.iload_n 1, 1) := by decide +kernel
set_option maxRecDepth 20000 in
theorem dX8_matches_18 : decode cX8_matches 18 = .ok (.iload_n 2, 1) := by decide +kernel
set_option maxRecDepth 20000 in
theorem dX8_matches_19 : decode cX8_matches 19 = .ok (.invokevirtual 65, 3) := by decide +kernel
set_option maxRecDepth 20000 in
theorem dX8_matches_22 : decode cX8_matches 22 = .ok (.ifCond .eq 7, 3) := by decide +kernel
set_option maxRecDepth 20000 in
theorem dX8_matches_25 : decode cX8_matches 25 = .ok (.iconst 1, 1) := by decide +kernel
set_option maxRecDepth 20000 in
theorem dX8_matches_26 : decode cX8_matches 26 = .ok (.goto 9, 3) := by decide +kernel
set_option maxRecDepth 20000 in
theorem dX8_matches_29 : decode cX8_matches 29 = .ok (.iconst 0, 1) := by decide +kernel
set_option maxRecDepth 20000 in
theorem dX8_matches_30 : decode cX8_matches 30 = .ok (.goto 5, 3) := by decide +kernel
set_option maxRecDepth 20000 in
theorem dX8_matches_33 : decode cX8_matches 33 = .ok (.bipush (-11), 2) := by decide +kernel
set_option maxRecDepth 20000 in
theorem dX8_matches_35 : decode cX8_matches 35 = .ok (.ireturn, 1) := by decide +kernel
set_option maxRecDepth 20000 in
theorem dX8_wins_0 : decode cX8_wins 0 = .ok (.aload_n 0, 1) := by decide +kernel
set_option maxRecDepth 20000 in
theorem dX8_wins_1 : decode cX8_wins 1 = .ok (.iload_n 2, 1) := by decide +kernel
set_option maxRecDepth 20000 in
theorem dX8_wins_2 : decode cX8_wins 2 = .ok (.iconst 5, 1) := by decide +kernel
set_option maxRecDepth 20000 in
theorem dX8_wins_3 : decode cX8_wins 3 = .ok (.invokevirtual 58, 3) := by decide +kernel
set_option maxRecDepth 20000 in
theorem dX8_wins_6 : decode cX8_wins 6 = .ok (.aload_n 0, 1) := by decide +kernel
set_option maxRecDepth 20000 in
theorem dX8_wins_7 : decode cX8_wins 7 = .ok (.iload_n 3, 1) := by decide +kernel
set_option maxRecDepth 20000 in
theorem dX8_wins_8 : decode cX8_wins 8 = .ok (.iconst 5, 1) := by decide +kernel
set_option maxRecDepth 20000 in
theorem dX8_wins_9 : decode cX8_wins 9 = .ok (.invokevirtual 58, 3) := by decide +kernel
set_option maxRecDepth 20000 in
theorem dX8_wins_12 : decode cX8_wins 12 = .ok (.if_icmp .eq 24, 3) := by decide +kernel
set_option maxRecDepth 20000 in
theorem dX8_wins_15 : decode cX8_wins 15 = .ok (.aload_n 0, 1) := by decide +kernel
set_option maxRecDepth 20000 in
theorem dX8_wins_16 : decode cX8_wins 16 = .ok (.iload_n 2, 1) := by decide +kernel
set_option maxRecDepth 20000 in
theorem dX8_wins_17 : decode cX8_wins 17 = .ok (.iconst 5, 1) := by decide +kernel
set_option maxRecDepth 20000 in
theorem dX8_wins_18 : decode cX8_wins 18 = .ok (.invokevirtual 58, 3) := by decide +kernel
set_option maxRecDepth 20000 in
theorem dX8_wins_21 : decode cX8_wins 21 = .ok (.aload_n 0, 1) := by decide +kernel
set_option maxRecDepth 20000 in
theorem dX8_wins_22 : decode cX8_wins 22 = .ok (.iload_n 3, 1) := by decide +kernel
set_option maxRecDepth 20000 in
theorem dX8_wins_23 : decode cX8_wins 23 = .ok (.iconst 5, 1) := by decide +kernel
set_option maxRecDepth 20000 in
theorem dX8_wins_24 : decode cX8_wins 24 = .ok (.invokevirtual 58, 3) := by decide +kernel
set_option maxRecDepth 20000 in
theorem dX8_wins_27 : decode cX8_wins 27 = .ok (.if_icmp .le 7, 3) := by decide +kernel
set_option maxRecDepth 20000 in
theorem dX8_wins_30 : decode cX8_wins 30 = .ok (.iconst 1, 1) := by decide +kernel
set_option maxRecDepth 20000 in
theorem dX8_wins_31 : decode cX8_wins 31 = .ok (.goto 4, 3) := by decide +kernel
set_option maxRecDepth 20000 in
theorem dX8_wins_34 : decode cX8_wins 34 = .ok (.iconst (-1), 1) := by decide +kernel
set_option maxRecDepth 20000 in
theorem dX8_wins_35 : decode cX8_wins 35 = .ok (.ireturn, 1) := by decide +kernel
set_option maxRecDepth 20000 in
theorem dX8_wins_36 : decode cX8_wins 36 = .ok (.aload_n 0, 1) := by decide +kernel
set_option maxRecDepth 20000 in
theorem dX8_wins_37 : decode cX8_wins 37 = .ok (.iload_n 2, 1) := by decide +kernel
set_option maxRecDepth 20000 in
theorem dX8_wins_38 : decode cX8_wins 38 = .ok (.iconst 3, 1) := by decide +kernel
set_option maxRecDepth 20000 in
theorem dX8_wins_39 : decode cX8_wins 39 = .ok (.invokevirtual 58, 3) := by decide +kernel
set_option maxRecDepth 20000 in
theorem dX8_wins_42 : decode cX8_wins 42 = .ok (.aload_n 0, 1) := by decide +kernel
set_option maxRecDepth 20000 in
theorem dX8_wins_43 : decode cX8_wins 43 = .ok (.iload_n 3, 1) := by decide +kernel
set_option maxRecDepth 20000 in
theorem dX8_wins_44 : decode cX8_wins 44 = .ok (.iconst 3, 1) := by decide +kernel
set_option maxRecDepth 20000 in
theorem dX8_wins_45 : decode cX8_wins 45 = .ok (.invokevirtual 58, 3) := by decide +kernel
set_option maxRecDepth 20000 in
theorem dX8_wins_48 : decode cX8_wins 48 = .ok (.if_icmp .eq 47, 3) := by decide +kernel
set_option maxRecDepth 20000 in
theorem dX8_wins_51 : decode cX8_wins 51 = .ok (.aload_n 0, 1) := by decide +kernel
set_option maxRecDepth 20000 in
theorem dX8_wins_52 : decode cX8_wins 52 = .ok (.iload_n 2, 1) := by decide +kernel
set_option maxRecDepth 20000 in
theorem dX8_wins_53 : decode cX8_wins 53 = .ok (.iconst 3, 1) := by decide +kernel
set_option maxRecDepth 20000 in
theorem dX8_wins_54 : decode cX8_wins 54 = .ok (.invokevirtual 58, 3) := by decide +kernel
set_option maxRecDepth 20000 in
theorem dX8_wins_57 : decode cX8_wins 57 = .ok (.aload_n 0, 1) := by decide +kernel
set_option maxRecDepth 20000 in
theorem dX8_wins_58 : decode cX8_wins 58 = .ok (.iload_n 3, 1) := by decide +kernel
set_option maxRecDepth 20000 in
theorem dX8_wins_59 : decode cX8_wins 59 = .ok (.iconst 3, 1) := by decide +kernel
set_option maxRecDepth 20000 in
theorem dX8_wins_60 : decode cX8_wins 60 = .ok (.invokevirtual 58, 3) := by decide +kernel
set_option maxRecDepth 20000 in
theorem dX8_wins_63 : decode cX8_wins 63 = .ok (.if_icmp .le 7, 3) := by decide +kernel
set_option maxRecDepth 20000 in
theorem dX8_wins_66 : decode cX8_wins 66 = .ok (.iconst 1, 1) := by decide +kernel
set_option maxRecDepth 20000 in
theorem dX8_wins_67 : decode cX8_wins 67 = .ok (.goto 4, 3) := by decide +kernel
set_option maxRecDepth 20000 in
theorem dX8_wins_70 : decode cX8_wins 70 = .ok (.iconst 0, 1) := by decide +kernel
set_option maxRecDepth 20000 in
theorem dX8_wins_71 : decode cX8_wins 71 = .ok (.aload_n 0, 1) := by decide +kernel
set_option maxRecDepth 20000 in
theorem dX8_wins_72 : decode cX8_wins 72 = .ok (.iload_n 2, 1) := by decide +kernel
set_option maxRecDepth 20000 in
theorem dX8_wins_73 : decode cX8_wins 73 = .ok (.iconst 5, 1) := by decide +kernel
set_option maxRecDepth 20000 in
theorem dX8_wins_74 : decode cX8_wins 74 = .ok (.invokevirtual 58, 3) := by decide +kernel
set_option maxRecDepth 20000 in
theorem dX8_wins_77 : decode cX8_wins 77 = .ok (.ifCond .ne 7, 3) := by decide +kernel
set_option maxRecDepth 20000 in
theorem dX8_wins_80 : decode cX8_wins 80 = .ok (.iconst 1, 1) := by decide +kernel
set_option maxRecDepth 20000 in
theorem dX8_wins_81 : decode cX8_wins 81 = .ok (.goto 4, 3) := by decide +kernel
set_option maxRecDepth 20000 in
theorem dX8_wins_84 : decode cX8_wins 84 = .ok (.iconst 0, 1) := by decide +kernel
set_option maxRecDepth 20000 in
theorem dX8_wins_85 : decode cX8_wins 85 = .ok (.if_icmp .ne 7, 3) := by decide +kernel
set_option maxRecDepth 20000 in
theorem dX8_wins_88 : decode cX8_wins 88 = .ok (.iconst 2, 1) := by decide +kernel
set_option maxRecDepth 20000 in
theorem dX8_wins_89 : decode cX8_wins 89 = .ok (.goto 5, 3) := by decide +kernel
set_option maxRecDepth 20000 in
theorem dX8_wins_92 : decode cX8_wins 92 = .ok (.bipush (-2), 2) := by decide +kernel
set_option maxRecDepth 20000 in
theorem dX8_wins_94 : decode cX8_wins 94 = .ok (.ireturn, 1) := by decide +kernel
set_option maxRecDepth 20000 in
theorem dX8_wins_95 : decode cX8_wins 95 = .ok (.aload_n 0, 1) := by decide +kernel
set_option maxRecDepth 20000 in
theorem dX8_wins_96 : decode cX8_wins 96 = .ok (.iload_n 2, 1) := by decide +kernel
set_option maxRecDepth 20000 in
theorem dX8_wins_97 : decode cX8_wins 97 = .ok (.iconst 4, 1) := by decide +kernel
set_option maxRecDepth 20000 in
theorem dX8_wins_98 : decode cX8_wins 98 = .ok (.invokevirtual 58, 3) := by decide +kernel
set_option maxRecDepth 20000 in
theorem dX8_wins_101 : decode cX8_wins 101 = .ok (.iconst (-1), 1) := by decide +kernel
set_option maxRecDepth 20000 in
theorem dX8_wins_102 : decode cX8_wins 102 = .ok (.if_icmp .ne 8, 3) := by decide +kernel
set_option maxRecDepth 20000 in
theorem dX8_wins_105 : decode cX8_wins 105 = .ok (.bipush 99, 2) := by decide +kernel
set_option maxRecDepth 20000 in
theorem dX8_wins_107 : decode cX8_wins 107 = .ok (.goto 14, 3) := by decide +kernel
set_option maxRecDepth 20000 in
theorem dX8_wins_110 : decode cX8_wins 110 = .ok (.aload_n 0, 1) := by decide +kernel
set_option maxRecDepth 20000 in
theorem dX8_wins_111 : decode cX8_wins 111 = .ok (.iload_n 1, 1) := by decide +kernel
set_option maxRecDepth 20000 in
theorem dX8_wins_112 : decode cX8_wins 112 = .ok (.aload_n 0, 1) := by decide +kernel
set_option maxRecDepth 20000 in
theorem dX8_wins_113 : decode cX8_wins 113 = .ok (.iload_n 2, 1) := by decide +kernel
set_option maxRecDepth 20000 in
theorem dX8_wins_114 : decode cX8_wins 114 = .ok (.iconst 4, 1) := by decide +kernel
set_option maxRecDepth 20000 in
theorem dX8_wins_115 : decode cX8_wins 115 = .ok (.invokevirtual 58, 3) := by decide +kernel
set_option maxRecDepth 20000 in
theorem dX8_wins_118 : decode cX8_wins 118 = .ok (.invokevirtual 62, 3) := by decide +kernel
set_option maxRecDepth 20000 in
theorem dX8_wins_121 : decode cX8_wins 121 = .ok (.istore 4, 2) := by decide +kernel
set_option maxRecDepth 20000 in
theorem dX8_wins_123 : decode cX8_wins 123 = .ok (.aload_n 0, 1) := by decide +kernel
set_option maxRecDepth 20000 in
theorem dX8_wins_124 : decode cX8_wins 124 = .ok (.iload_n 3, 1) := by decide +kernel
set_option maxRecDepth 20000 in
theorem dX8_wins_125 : decode cX8_wins 125 = .ok (.iconst 4, 1) := by decide +kernel
set_option maxRecDepth 20000 in
theorem dX8_wins_126 : decode cX8_wins 126 = .ok (.invokevirtual 58, 3) := by decide +kernel
set_option maxRecDepth 20000 in
theorem dX8_wins_129 : decode cX8_wins 129 = .ok (.iconst (-1), 1) := by decide +kernel
set_option maxRecDepth 20000 in
theorem dX8_wins_130 : decode cX8_wins 130 = .ok (.if_icmp .ne 8, 3) := by decide +kernel
set_option maxRecDepth 20000 in
theorem dX8_wins_133 : decode cX8_wins 133 = .ok (.bipush 99, 2) := by decide +kernel
set_option maxRecDepth 20000 in
theorem dX8_wins_135 : decode cX8_wins 135 = .ok (.goto 14, 3) := by decide +kernel
set_option maxRecDepth 20000 in
theorem dX8_wins_138 : decode cX8_wins 138 = .ok (.aload_n 0, 1) := by decide +kernel
set_option maxRecDepth 20000 in
theorem dX8_wins_139 : decode cX8_wins 139 = .ok (.iload_n 1, 1) := by decide +kernel
set_option maxRecDepth 20000 in
theorem dX8_wins_140 : decode cX8_wins 140 = .ok (.aload_n 0, 1) := by decide +kernel
set_option maxRecDepth 20000 in
theorem dX8_wins_141 : decode cX8_wins 141 = .ok (.iload_n 3, 1) := by decide +kernel
set_option maxRecDepth 20000 in
theorem dX8_wins_142 : decode cX8_wins 142 = .ok (.iconst 4, 1) := by decide +kernel
set_option maxRecDepth 20000 in
theorem dX8_wins_143 : decode cX8_wins 143 = .ok (.invokevirtual 58, 3) := by decide +kernel
set_option maxRecDepth 20000 in
theorem dX8_wins_146 : decode cX8_wins 146 = .ok (.invokevirtual 62, 3) := by decide +kernel
set_option maxRecDepth 20000 in
theorem dX8_wins_149 : decode cX8_wins 149 = .ok (.istore 5, 2) := by decide +kernel
set_option maxRecDepth 20000 in
theorem dX8_wins_151 : decode cX8_wins 151 = .ok (.iload 4, 2) := by decide +kernel
set_option maxRecDepth 20000 in
theorem dX8_wins_153 : decode cX8_wins 153 = .ok (.iload 5, 2) := by decide +kernel
set_option maxRecDepth 20000 in
theorem dX8_wins_155 : decode cX8_wins 155 = .ok (.if_icmp .eq 17, 3) := by decide +kernel
set_option maxRecDepth 20000 in
theorem dX8_wins_158 : decode cX8_wins 158 = .ok (.iload 4, 2) := by decide +kernel
set_option maxRecDepth 20000 in
theorem dX8_wins_160 : decode cX8_wins 160 = .ok (.iload 5, 2) := by decide +kernel
set_option maxRecDepth 20000 in
theorem dX8_wins_162 : decode cX8_wins 162 = .ok (.if_icmp .ge 7, 3) := by decide +kernel
set_option maxRecDepth 20000 in
theorem dX8_wins_165 : decode cX8_wins 165 = .ok (.iconst 3, 1) := by decide +kernel
set_option maxRecDepth 20000 in
theorem dX8_wins_166 : decode cX8_wins 166 = .ok (.goto 5, 3) := by decide +kernel
set_option maxRecDepth 20000 in
theorem dX8_wins_169 : decode cX8_wins 169 = .ok (.bipush (-3), 2) := by decide +kernel
set_option maxRecDepth 20000 in
theorem dX8_wins_171 : decode cX8_wins 171 = .ok (.ireturn, 1) := by decide +kernel
set_option maxRecDepth 20000 in
theorem dX8_wins_172 : decode cX8_wins 172 = .ok (.aload_n 0, 1) := by decide +kernel
set_option maxRecDepth 20000 in
theorem dX8_wins_173 : decode cX8_wins 173 = .ok (.iload_n 2, 1) := by decide +kernel
set_option maxRecDepth 20000 in
theorem dX8_wins_174 : decode cX8_wins 174 = .ok (.invokevirtual 108, 3) := by decide +kernel
set_option maxRecDepth 20000 in
theorem dX8_wins_177 : decode cX8_wins 177 = .ok (.aload_n 0, 1) := by decide +kernel
set_option maxRecDepth 20000 in
theorem dX8_wins_178 : decode cX8_wins 178 = .ok (.iload_n 3, 1) := by decide +kernel
set_option maxRecDepth 20000 in
theorem dX8_wins_179 : decode cX8_wins 179 = .ok (.invokevirtual 108, 3) := by decide +kernel
set_option maxRecDepth 20000 in
theorem dX8_wins_182 : decode cX8_wins 182 = .ok (.if_icmp .eq 23, 3) := by decide +kernel
set_option maxRecDepth 20000 in
theorem dX8_wins_185 : decode cX8_wins 185 = .ok (.aload_n 0, 1) := by decide +kernel
set_option maxRecDepth 20000 in
theorem dX8_wins_186 : decode cX8_wins 186 = .ok (.iload_n 2, 1) := by decide +kernel
set_option maxRecDepth 20000 in
theorem dX8_wins_187 : decode cX8_wins 187 = .ok (.invokevirtual 108, 3) := by decide +kernel
set_option maxRecDepth 20000 in
theorem dX8_wins_190 : decode cX8_wins 190 = .ok (.aload_n 0, 1) := by decide +kernel
set_option maxRecDepth 20000 in
theorem dX8_wins_191 : decode cX8_wins 191 = .ok (.iload_n 3, 1) := by decide +kernel
set_option maxRecDepth 20000 in
theorem dX8_wins_192 : decode cX8_wins 192 = .ok (.invokevirtual 108, 3) := by decide +kernel
set_option maxRecDepth 20000 in
theorem dX8_wins_195 : decode cX8_wins 195 = .ok (.if_icmp .le 7, 3) := by decide +kernel
set_option maxRecDepth 20000 in
theorem dX8_wins_198 : decode cX8_wins 198 = .ok (.iconst 4, 1) := by decide +kernel
set_option maxRecDepth 20000 in
theorem dX8_wins_199 : decode cX8_wins 199 = .ok (.goto 5, 3) := by decide +kernel
set_option maxRecDepth 20000 in
theorem dX8_wins_202 : decode cX8_wins 202 = .ok (.bipush (-4), 2) := by decide +kernel
set_option maxRecDepth 20000 in
theorem dX8_wins_204 : decode cX8_wins 204 = .ok (.ireturn, 1) := by decide +kernel
set_option maxRecDepth 20000 in
theorem dX8_wins_205 : decode cX8_wins 205 = .ok (.iload_n 2, 1) := by decide +kernel
set_option maxRecDepth 20000 in
theorem dX8_wins_206 : decode cX8_wins 206 = .ok (.iload_n 3, 1) := by decide +kernel
set_option maxRecDepth 20000 in
theorem dX8_wins_207 : decode cX8_wins 207 = .ok (.if_icmp .le 7, 3) := by decide +kernel
set_option maxRecDepth 20000 in
theorem dX8_wins_210 : decode cX8_wins 210 = .ok (.iconst 5, 1) := by decide +kernel
set_option maxRecDepth 20000 in
theorem dX8_wins_211 : decode cX8_wins 211 = .ok (.goto 5, 3) := by decide +kernel
set_option maxRecDepth 20000 in
theorem dX8_wins_214 : decode cX8_wins 214 = .ok (.bipush (-5), 2) := by decide +kernel
set_option maxRecDepth 20000 in
theorem dX8_wins_216 : decode cX8_wins 216 = .ok (.ireturn, 1) := by decide +kernel
set_option maxRecDepth 20000 in
theorem dX8_orders_0 : decode cX8_orders 0 = .ok (.iconst 0, 1) := by decide +kernel
set_option maxRecDepth 20000 in
theorem dX8_orders_1 : decode cX8_orders 1 = .ok (.istore_n 3, 1) := by decide +kernel
set_option maxRecDepth 20000 in
theorem dX8_orders_2 : decode cX8_orders 2 = .ok (.iconst 0, 1) := by decide +kernel
set_option maxRecDepth 20000 in
theorem dX8_orders_3 : decode cX8_orders 3 = .ok (.istore 4, 2) := by decide +kernel
set_option maxRecDepth 20000 in
theorem dX8_orders_5 : decode cX8_orders 5 = .ok (.iload 4, 2) := by decide +kernel
set_option maxRecDepth 20000 in
theorem dX8_orders_7 : decode cX8_orders 7 = .ok (.aload_n 0, 1) := by decide +kernel
set_option maxRecDepth 20000 in
theorem dX8_orders_8 : decode cX8_orders 8 = .ok (.getfield 7, 3) := by decide +kernel
set_option maxRecDepth 20000 in
theorem dX8_orders_11 : decode cX8_orders 11 = .ok (.iconst 1, 1) := by decide +kernel
set_option maxRecDepth 20000 in
theorem dX8_orders_12 : decode cX8_orders 12 = .ok (.iaload, 1) := by decide +kernel
set_option maxRecDepth 20000 in
theorem dX8_orders_13 : decode cX8_orders 13 = .ok (.if_icmp .ge 94, 3) := by decide +kernel
set_option maxRecDepth 20000 in
theorem dX8_orders_16 : decode cX8_orders 16 = .ok (.aload_n 0, 1) := by decide +kernel
set_option maxRecDepth 20000 in
theorem dX8_orders_17 : decode cX8_orders 17 = .ok (.getfield 7, 3) := by decide +kernel
set_option maxRecDepth 20000 in
theorem dX8_orders_20 : decode cX8_orders 20 = .ok (.iload 4, 2) := by decide +kernel
set_option maxRecDepth 20000 in
theorem dX8_orders_22 : decode cX8_orders 22 = .ok (.iload_n 2, 1) := by decide +kernel
set_option maxRecDepth 20000 in
theorem dX8_orders_23 : decode cX8_orders 23 = .ok (.invokestatic 78, 3) := by decide +kernel
set_option maxRecDepth 20000 in
theorem dX8_orders_26 : decode cX8_orders 26 = .ok (.iaload, 1) := by decide +kernel
set_option maxRecDepth 20000 in
theorem dX8_orders_27 : decode cX8_orders 27 = .ok (.ifCond .le 74, 3) := by decide +kernel
set_option maxRecDepth 20000 in
theorem dX8_orders_30 : decode cX8_orders 30 = .ok (.aload_n 0, 1) := by decide +kernel
set_option maxRecDepth 20000 in
theorem dX8_orders_31 : decode cX8_orders 31 = .ok (.iload 4, 2) := by decide +kernel
set_option maxRecDepth 20000 in
theorem dX8_orders_33 : decode cX8_orders 33 = .ok (.iload_n 1, 1) := by decide +kernel
set_option maxRecDepth 20000 in
theorem dX8_orders_34 : decode cX8_orders 34 = .ok (.invokevirtual 65, 3) := by decide +kernel
set_option maxRecDepth 20000 in
theorem dX8_orders_37 : decode cX8_orders 37 = .ok (.ifCond .eq 64, 3) := by decide +kernel
set_option maxRecDepth 20000 in
theorem dX8_orders_40 : decode cX8_orders 40 = .ok (.iload_n 3, 1) := by decide +kernel
set_option maxRecDepth 20000 in
theorem dX8_orders_41 : decode cX8_orders 41 = .ok (.istore 5, 2) := by decide +kernel
set_option maxRecDepth 20000 in
theorem dX8_orders_43 : decode cX8_orders 43 = .ok (.iload 5, 2) := by decide +kernel
set_option maxRecDepth 20000 in
theorem dX8_orders_45 : decode cX8_orders 45 = .ok (.ifCond .le 44, 3) := by decide +kernel
set_option maxRecDepth 20000 in
theorem dX8_orders_48 : decode cX8_orders 48 = .ok (.aload_n 0, 1) := by decide +kernel
set_option maxRecDepth 20000 in
theorem dX8_orders_49 : decode cX8_orders 49 = .ok (.iload_n 1, 1) := by decide +kernel
set_option maxRecDepth 20000 in
theorem dX8_orders_50 : decode cX8_orders 50 = .ok (.iload 4, 2) := by decide +kernel
set_option maxRecDepth 20000 in
theorem dX8_orders_52 : decode cX8_orders 52 = .ok (.aload_n 0, 1) := by decide +kernel
set_option maxRecDepth 20000 in
theorem dX8_orders_53 : decode cX8_orders 53 = .ok (.getfield 36, 3) := by decide +kernel
set_option maxRecDepth 20000 in
theorem dX8_orders_56 : decode cX8_orders 56 = .ok (.iload 5, 2) := by decide +kernel
set_option maxRecDepth 20000 in
theorem dX8_orders_58 : decode cX8_orders 58 = .ok (.iconst 1, 1) := by decide +kernel
set_option maxRecDepth 20000 in
theorem dX8_orders_59 : decode cX8_orders 59 = .ok (.isub, 1) := by decide +kernel
set_option maxRecDepth 20000 in
theorem dX8_orders_60 : decode cX8_orders 60 = .ok (.iaload, 1) := by decide +kernel
set_option maxRecDepth 20000 in
theorem dX8_orders_61 : decode cX8_orders 61 = .ok (.invokevirtual 111, 3) := by decide +kernel
set_option maxRecDepth 20000 in
theorem dX8_orders_64 : decode cX8_orders 64 = .ok (.ifCond .le 25, 3) := by decide +kernel
set_option maxRecDepth 20000 in
theorem dX8_orders_67 : decode cX8_orders 67 = .ok (.aload_n 0, 1) := by decide +kernel
set_option maxRecDepth 20000 in
theorem dX8_orders_68 : decode cX8_orders 68 = .ok (.getfield 36, 3) := by decide +kernel
set_option maxRecDepth 20000 in
theorem dX8_orders_71 : decode cX8_orders 71 = .ok (.iload 5, 2) := by decide +kernel
set_option maxRecDepth 20000 in
theorem dX8_orders_73 : decode cX8_orders 73 = .ok (.aload_n 0, 1) := by decide +kernel
set_option maxRecDepth 20000 in
theorem dX8_orders_74 : decode cX8_orders 74 = .ok (.getfield 36, 3) := by decide +kernel
set_option maxRecDepth 20000 in
theorem dX8_orders_77 : decode cX8_orders 77 = .ok (.iload 5, 2) := by decide +kernel
set_option maxRecDepth 20000 in
theorem dX8_orders_79 : decode cX8_orders 79 = .ok (.iconst 1, 1) := by decide +kernel
set_option maxRecDepth 20000 in
theorem dX8_orders_80 : decode cX8_orders 80 = .ok (.isub, 1) := by decide +kernel
set_option maxRecDepth 20000 in
theorem dX8_orders_81 : decode cX8_orders 81 = .ok (.iaload, 1) := by decide +kernel
set_option maxRecDepth 20000 in
theorem dX8_orders_82 : decode cX8_orders 82 = .ok (.iastore, 1) := by decide +kernel
set_option maxRecDepth 20000 in
theorem dX8_orders_83 : decode cX8_orders 83 = .ok (.iinc 5 (-1), 3) := by decide +kernel
set_option maxRecDepth 20000 in
theorem dX8_orders_86 : decode cX8_orders 86 = .ok (.goto (-43), 3) := by decide +kernel
set_option maxRecDepth 20000 in
theorem dX8_orders_89 : decode cX8_orders 89 = .ok (.aload_n 0, 1) := by decide +kernel
set_option maxRecDepth 20000 in
theorem dX8_orders_90 : decode cX8_orders 90 = .ok (.getfield 36, 3) := by decide +kernel
set_option maxRecDepth 20000 in
theorem dX8_orders_93 : decode cX8_orders 93 = .ok (.iload 5, 2) := by decide +kernel
set_option maxRecDepth 20000 in
theorem dX8_orders_95 : decode cX8_orders 95 = .ok (.iload 4, 2) := by decide +kernel
set_option maxRecDepth 20000 in
theorem dX8_orders_97 : decode cX8_orders 97 = .ok (.iastore, 1) := by decide +kernel
set_option maxRecDepth 20000 in
theorem dX8_orders_98 : decode cX8_orders 98 = .ok (.iinc 3 1, 3) := by decide +kernel
set_option maxRecDepth 20000 in
theorem dX8_orders_101 : decode cX8_orders 101 = .ok (.iinc 4 1, 3) := by decide +kernel
set_option maxRecDepth 20000 in
theorem dX8_orders_104 : decode cX8_orders 104 = .ok (.goto (-99), 3) := by decide +kernel
set_option maxRecDepth 20000 in
theorem dX8_orders_107 : decode cX8_orders 107 = .ok (.iload_n 3, 1) := by decide +kernel
set_option maxRecDepth 20000 in
theorem dX8_orders_108 : decode cX8_orders 108 = .ok (.ireturn, 1) := by decide +kernel
set_option maxRecDepth 20000 in
theorem dX8_winnerOf_0 : decode cX8_winnerOf 0 = .ok (.aload_n 0, 1) := by decide +kernel
set_option maxRecDepth 20000 in
theorem dX8_winnerOf_1 : decode cX8_winnerOf 1 = .ok (.iload_n 1, 1) := by decide +kernel
set_option maxRecDepth 20000 in
theorem dX8_winnerOf_2 : decode cX8_winnerOf 2 = .ok (.iload_n 2, 1) := by decide +kernel
set_option maxRecDepth 20000 in
theorem dX8_winnerOf_3 : decode cX8_winnerOf 3 = .ok (.invokevirtual 115, 3) := by decide +kernel
set_option maxRecDepth 20000 in
theorem dX8_winnerOf_6 : decode cX8_winnerOf 6 = .ok (.ifCond .ne 7, 3) := by decide +kernel
set_option maxRecDepth 20000 in
theorem dX8_winnerOf_9 : decode cX8_winnerOf 9 = .ok (.iconst (-1), 1) := by decide +kernel
set_option maxRecDepth 20000 in
theorem dX8_winnerOf_10 : decode cX8_winnerOf 10 = .ok (.goto 9, 3) := by decide +kernel
set_option maxRecDepth 20000 in
theorem dX8_winnerOf_13 : decode cX8_winnerOf 13 = .ok (.aload_n 0, 1) := by decide +kernel
set_option maxRecDepth 20000 in
theorem dX8_winnerOf_14 : decode cX8_winnerOf 14 = .ok (.getfield 36, 3) := by decide +kernel
set_option maxRecDepth 20000 in
theorem dX8_winnerOf_17 : decode cX8_winnerOf 17 = .ok (.iconst 0, 1) := by decide +kernel
set_option maxRecDepth 20000 in
theorem dX8_winnerOf_18 : decode cX8_winnerOf 18 = .ok (.iaload, 1) := by decide +kernel
set_option maxRecDepth 20000 in
theorem dX8_winnerOf_19 : decode cX8_winnerOf 19 = .ok (.ireturn, 1) := by decide +kernel
set_option maxRecDepth 20000 in
theorem dX8_leadsTo_0 : decode cX8_leadsTo 0 = .ok (.aload_n 0, 1) := by decide +kernel
set_option maxRecDepth 20000 in
theorem dX8_leadsTo_1 : decode cX8_leadsTo 1 = .ok (.iload_n 1, 1) := by decide +kernel
set_option maxRecDepth 20000 in
theorem dX8_leadsTo_2 : decode cX8_leadsTo 2 = .ok (.iload_n 2, 1) := by decide +kernel
set_option maxRecDepth 20000 in
theorem dX8_leadsTo_3 : decode cX8_leadsTo 3 = .ok (.invokevirtual 118, 3) := by decide +kernel
set_option maxRecDepth 20000 in
theorem dX8_leadsTo_6 : decode cX8_leadsTo 6 = .ok (.istore_n 3, 1) := by decide +kernel
set_option maxRecDepth 20000 in
theorem dX8_leadsTo_7 : decode cX8_leadsTo 7 = .ok (.iload_n 3, 1) := by decide +kernel
set_option maxRecDepth 20000 in
theorem dX8_leadsTo_8 : decode cX8_leadsTo 8 = .ok (.iconst (-1), 1) := by decide +kernel
set_option maxRecDepth 20000 in
theorem dX8_leadsTo_9 : decode cX8_leadsTo 9 = .ok (.if_icmp .eq 32, 3) := by decide +kernel
set_option maxRecDepth 20000 in
theorem dX8_leadsTo_12 : decode cX8_leadsTo 12 = .ok (.aload_n 0, 1) := by decide +kernel
set_option maxRecDepth 20000 in
theorem dX8_leadsTo_13 : decode cX8_leadsTo 13 = .ok (.getfield 7, 3) := by decide +kernel
set_option maxRecDepth 20000 in
theorem dX8_leadsTo_16 : decode cX8_leadsTo 16 = .ok (.iload_n 3, 1) := by decide +kernel
set_option maxRecDepth 20000 in
theorem dX8_leadsTo_17 : decode cX8_leadsTo 17 = .ok (.iload_n 2, 1) := by decide +kernel
set_option maxRecDepth 20000 in
theorem dX8_leadsTo_18 : decode cX8_leadsTo 18 = .ok (.invokestatic 78, 3) := by decide +kernel
set_option maxRecDepth 20000 in
theorem dX8_leadsTo_21 : decode cX8_leadsTo 21 = .ok (.iaload, 1) := by decide +kernel
set_option maxRecDepth 20000 in
theorem dX8_leadsTo_22 : decode cX8_leadsTo 22 = .ok (.iconst 2, 1) := by decide +kernel
set_option maxRecDepth 20000 in
theorem dX8_leadsTo_23 : decode cX8_leadsTo 23 = .ok (.if_icmp .ne 18, 3) := by decide +kernel
set_option maxRecDepth 20000 in
theorem dX8_leadsTo_26 : decode cX8_leadsTo 26 = .ok (.aload_n 0, 1) := by decide +kernel
set_option maxRecDepth 20000 in
theorem dX8_leadsTo_27 : decode cX8_leadsTo 27 = .ok (.getfield 7, 3) := by decide +kernel
set_option maxRecDepth 20000 in
theorem dX8_leadsTo_30 : decode cX8_leadsTo 30 = .ok (.iload_n 3, 1) := by decide +kernel
set_option maxRecDepth 20000 in
theorem dX8_leadsTo_31 : decode cX8_leadsTo 31 = .ok (.iload_n 2, 1) := by decide +kernel
set_option maxRecDepth 20000 in
theorem dX8_leadsTo_32 : decode cX8_leadsTo 32 = .ok (.invokestatic 78, 3) := by decide +kernel
set_option maxRecDepth 20000 in
theorem dX8_leadsTo_35 : decode cX8_leadsTo 35 = .ok (.iconst 1, 1) := by decide +kernel
set_option maxRecDepth 20000 in
theorem dX8_leadsTo_36 : decode cX8_leadsTo 36 = .ok (.iadd, 1) := by decide +kernel
set_option maxRecDepth 20000 in
theorem dX8_leadsTo_37 : decode cX8_leadsTo 37 = .ok (.iaload, 1) := by decide +kernel
set_option maxRecDepth 20000 in
theorem dX8_leadsTo_38 : decode cX8_leadsTo 38 = .ok (.goto 4, 3) := by decide +kernel
set_option maxRecDepth 20000 in
theorem dX8_leadsTo_41 : decode cX8_leadsTo 41 = .ok (.iconst (-1), 1) := by decide +kernel
set_option maxRecDepth 20000 in
theorem dX8_leadsTo_42 : decode cX8_leadsTo 42 = .ok (.ireturn, 1) := by decide +kernel
set_option maxRecDepth 20000 in
theorem dX8_cycleOf_0 : decode cX8_cycleOf 0 = .ok (.iconst 1, 1) := by decide +kernel
set_option maxRecDepth 20000 in
theorem dX8_cycleOf_1 : decode cX8_cycleOf 1 = .ok (.istore_n 3, 1) := by decide +kernel
set_option maxRecDepth 20000 in
theorem dX8_cycleOf_2 : decode cX8_cycleOf 2 = .ok (.aload_n 0, 1) := by decide +kernel
set_option maxRecDepth 20000 in
theorem dX8_cycleOf_3 : decode cX8_cycleOf 3 = .ok (.iload_n 1, 1) := by decide +kernel
set_option maxRecDepth 20000 in
theorem dX8_cycleOf_4 : decode cX8_cycleOf 4 = .ok (.iload_n 2, 1) := by decide +kernel
set_option maxRecDepth 20000 in
theorem dX8_cycleOf_5 : decode cX8_cycleOf 5 = .ok (.invokevirtual 121, 3) := by decide +kernel
set_option maxRecDepth 20000 in
theorem dX8_cycleOf_8 : decode cX8_cycleOf 8 = .ok (.istore 4, 2) := by decide +kernel
set_option maxRecDepth 20000 in
theorem dX8_cycleOf_10 : decode cX8_cycleOf 10 = .ok (.iload 4, 2) := by decide +kernel
set_option maxRecDepth 20000 in
theorem dX8_cycleOf_12 : decode cX8_cycleOf 12 = .ok (.iconst (-1), 1) := by decide +kernel
set_option maxRecDepth 20000 in
theorem dX8_cycleOf_13 : decode cX8_cycleOf 13 = .ok (.if_icmp .eq 30, 3) := by decide +kernel
set_option maxRecDepth 20000 in
theorem dX8_cycleOf_16 : decode cX8_cycleOf 16 = .ok (.iload 4, 2) := by decide +kernel
set_option maxRecDepth 20000 in
theorem dX8_cycleOf_18 : decode cX8_cycleOf 18 = .ok (.iload_n 2, 1) := by decide +kernel
set_option maxRecDepth 20000 in
theorem dX8_cycleOf_19 : decode cX8_cycleOf 19 = .ok (.if_icmp .eq 24, 3) := by decide +kernel
set_option maxRecDepth 20000 in
theorem dX8_cycleOf_22 : decode cX8_cycleOf 22 = .ok (.iload_n 3, 1) := by decide +kernel
set_option maxRecDepth 20000 in
theorem dX8_cycleOf_23 : decode cX8_cycleOf 23 = .ok (.bipush 8, 2) := by decide +kernel
set_option maxRecDepth 20000 in
theorem dX8_cycleOf_25 : decode cX8_cycleOf 25 = .ok (.if_icmp .gt 18, 3) := by decide +kernel
set_option maxRecDepth 20000 in
theorem dX8_cycleOf_28 : decode cX8_cycleOf 28 = .ok (.aload_n 0, 1) := by decide +kernel
set_option maxRecDepth 20000 in
theorem dX8_cycleOf_29 : decode cX8_cycleOf 29 = .ok (.iload_n 1, 1) := by decide +kernel
set_option maxRecDepth 20000 in
theorem dX8_cycleOf_30 : decode cX8_cycleOf 30 = .ok (.iload 4, 2) := by decide +kernel
set_option maxRecDepth 20000 in
theorem dX8_cycleOf_32 : decode cX8_cycleOf 32 = .ok (.invokevirtual 121, 3) := by decide +kernel
set_option maxRecDepth 20000 in
theorem dX8_cycleOf_35 : decode cX8_cycleOf 35 = .ok (.istore 4, 2) := by decide +kernel
set_option maxRecDepth 20000 in
theorem dX8_cycleOf_37 : decode cX8_cycleOf 37 = .ok (.iinc 3 1, 3) := by decide +kernel
set_option maxRecDepth 20000 in
theorem dX8_cycleOf_40 : decode cX8_cycleOf 40 = .ok (.goto (-30), 3) := by decide +kernel
set_option maxRecDepth 20000 in
theorem dX8_cycleOf_43 : decode cX8_cycleOf 43 = .ok (.iload 4, 2) := by decide +kernel
set_option maxRecDepth 20000 in
theorem dX8_cycleOf_45 : decode cX8_cycleOf 45 = .ok (.iload_n 2, 1) := by decide +kernel
set_option maxRecDepth 20000 in
theorem dX8_cycleOf_46 : decode cX8_cycleOf 46 = .ok (.if_icmp .ne 7, 3) := by decide +kernel
set_option maxRecDepth 20000 in
theorem dX8_cycleOf_49 : decode cX8_cycleOf 49 = .ok (.iload_n 3, 1) := by decide +kernel
set_option maxRecDepth 20000 in
theorem dX8_cycleOf_50 : decode cX8_cycleOf 50 = .ok (.goto 4, 3) := by decide +kernel
set_option maxRecDepth 20000 in
theorem dX8_cycleOf_53 : decode cX8_cycleOf 53 = .ok (.iconst 0, 1) := by decide +kernel
set_option maxRecDepth 20000 in
theorem dX8_cycleOf_54 : decode cX8_cycleOf 54 = .ok (.ireturn, 1) := by decide +kernel
set_option maxRecDepth 20000 in
theorem dX8_given_0 : decode cX8_given 0 = .ok (.aload_n 0, 1) := by decide +kernel
set_option maxRecDepth 20000 in
theorem dX8_given_1 : decode cX8_given 1 = .ok (.iload_n 1, 1) := by decide +kernel
set_option maxRecDepth 20000 in
theorem dX8_given_2 : decode cX8_given 2 = .ok (.iload_n 2, 1) := by decide +kernel
set_option maxRecDepth 20000 in
theorem dX8_given_3 : decode cX8_given 3 = .ok (.invokevirtual 118, 3) := by decide +kernel
set_option maxRecDepth 20000 in
theorem dX8_given_6 : decode cX8_given 6 = .ok (.istore_n 3, 1) := by decide +kernel
set_option maxRecDepth 20000 in
theorem dX8_given_7 : decode cX8_given 7 = .ok (.iload_n 3, 1) := by decide +kernel
set_option maxRecDepth 20000 in
theorem dX8_given_8 : decode cX8_given 8 = .ok (.iconst (-1), 1) := by decide +kernel
set_option maxRecDepth 20000 in
theorem dX8_given_9 : decode cX8_given 9 = .ok (.if_icmp .ne 5, 3) := by decide +kernel
set_option maxRecDepth 20000 in
theorem dX8_given_12 : decode cX8_given 12 = .ok (.iconst (-1), 1) := by decide +kernel
set_option maxRecDepth 20000 in
theorem dX8_given_13 : decode cX8_given 13 = .ok (.ireturn, 1) := by decide +kernel
set_option maxRecDepth 20000 in
theorem dX8_given_14 : decode cX8_given 14 = .ok (.iload_n 3, 1) := by decide +kernel
set_option maxRecDepth 20000 in
theorem dX8_given_15 : decode cX8_given 15 = .ok (.iload_n 2, 1) := by decide +kernel
set_option maxRecDepth 20000 in
theorem dX8_given_16 : decode cX8_given 16 = .ok (.invokestatic 78, 3) := by decide +kernel
set_option maxRecDepth 20000 in
theorem dX8_given_19 : decode cX8_given 19 = .ok (.istore 4, 2) := by decide +kernel
set_option maxRecDepth 20000 in
theorem dX8_given_21 : decode cX8_given 21 = .ok (.aload_n 0, 1) := by decide +kernel
set_option maxRecDepth 20000 in
theorem dX8_given_22 : decode cX8_given 22 = .ok (.getfield 7, 3) := by decide +kernel
set_option maxRecDepth 20000 in
theorem dX8_given_25 : decode cX8_given 25 = .ok (.iload 4, 2) := by decide +kernel
set_option maxRecDepth 20000 in
theorem dX8_given_27 : decode cX8_given 27 = .ok (.iaload, 1) := by decide +kernel
set_option maxRecDepth 20000 in
theorem dX8_given_28 : decode cX8_given 28 = .ok (.iconst 1, 1) := by decide +kernel
set_option maxRecDepth 20000 in
theorem dX8_given_29 : decode cX8_given 29 = .ok (.if_icmp .ne 13, 3) := by decide +kernel
set_option maxRecDepth 20000 in
theorem dX8_given_32 : decode cX8_given 32 = .ok (.aload_n 0, 1) := by decide +kernel
set_option maxRecDepth 20000 in
theorem dX8_given_33 : decode cX8_given 33 = .ok (.getfield 7, 3) := by decide +kernel
set_option maxRecDepth 20000 in
theorem dX8_given_36 : decode cX8_given 36 = .ok (.iload 4, 2) := by decide +kernel
set_option maxRecDepth 20000 in
theorem dX8_given_38 : decode cX8_given 38 = .ok (.iconst 1, 1) := by decide +kernel
set_option maxRecDepth 20000 in
theorem dX8_given_39 : decode cX8_given 39 = .ok (.iadd, 1) := by decide +kernel
set_option maxRecDepth 20000 in
theorem dX8_given_40 : decode cX8_given 40 = .ok (.iaload, 1) := by decide +kernel
set_option maxRecDepth 20000 in
theorem dX8_given_41 : decode cX8_given 41 = .ok (.ireturn, 1) := by decide +kernel
set_option maxRecDepth 20000 in
theorem dX8_given_42 : decode cX8_given 42 = .ok (.aload_n 0, 1) := by decide +kernel
set_option maxRecDepth 20000 in
theorem dX8_given_43 : decode cX8_given 43 = .ok (.getfield 26, 3) := by decide +kernel
set_option maxRecDepth 20000 in
theorem dX8_given_46 : decode cX8_given 46 = .ok (.bipush 16, 2) := by decide +kernel
set_option maxRecDepth 20000 in
theorem dX8_given_48 : decode cX8_given 48 = .ok (.iload_n 1, 1) := by decide +kernel
set_option maxRecDepth 20000 in
theorem dX8_given_49 : decode cX8_given 49 = .ok (.imul, 1) := by decide +kernel
set_option maxRecDepth 20000 in
theorem dX8_given_50 : decode cX8_given 50 = .ok (.aload_n 0, 1) := by decide +kernel
set_option maxRecDepth 20000 in
theorem dX8_given_51 : decode cX8_given 51 = .ok (.getfield 7, 3) := by decide +kernel
set_option maxRecDepth 20000 in
theorem dX8_given_54 : decode cX8_given 54 = .ok (.iload 4, 2) := by decide +kernel
set_option maxRecDepth 20000 in
theorem dX8_given_56 : decode cX8_given 56 = .ok (.iconst 1, 1) := by decide +kernel
set_option maxRecDepth 20000 in
theorem dX8_given_57 : decode cX8_given 57 = .ok (.iadd, 1) := by decide +kernel
set_option maxRecDepth 20000 in
theorem dX8_given_58 : decode cX8_given 58 = .ok (.iaload, 1) := by decide +kernel
set_option maxRecDepth 20000 in
theorem dX8_given_59 : decode cX8_given 59 = .ok (.iadd, 1) := by decide +kernel
set_option maxRecDepth 20000 in
theorem dX8_given_60 : decode cX8_given 60 = .ok (.iaload, 1) := by decide +kernel
set_option maxRecDepth 20000 in
theorem dX8_given_61 : decode cX8_given 61 = .ok (.istore 5, 2) := by decide +kernel
set_option maxRecDepth 20000 in
theorem dX8_given_63 : decode cX8_given 63 = .ok (.iload 5, 2) := by decide +kernel
set_option maxRecDepth 20000 in
theorem dX8_given_65 : decode cX8_given 65 = .ok (.iconst (-1), 1) := by decide +kernel
set_option maxRecDepth 20000 in
theorem dX8_given_66 : decode cX8_given 66 = .ok (.if_icmp .ne 15, 3) := by decide +kernel
set_option maxRecDepth 20000 in
theorem dX8_given_69 : decode cX8_given 69 = .ok (.aload_n 0, 1) := by decide +kernel
set_option maxRecDepth 20000 in
theorem dX8_given_70 : decode cX8_given 70 = .ok (.getfield 7, 3) := by decide +kernel
set_option maxRecDepth 20000 in
theorem dX8_given_73 : decode cX8_given 73 = .ok (.iload 4, 2) := by decide +kernel
set_option maxRecDepth 20000 in
theorem dX8_given_75 : decode cX8_given 75 = .ok (.iconst 2, 1) := by decide +kernel
set_option maxRecDepth 20000 in
theorem dX8_given_76 : decode cX8_given 76 = .ok (.iadd, 1) := by decide +kernel
set_option maxRecDepth 20000 in
theorem dX8_given_77 : decode cX8_given 77 = .ok (.iaload, 1) := by decide +kernel
set_option maxRecDepth 20000 in
theorem dX8_given_78 : decode cX8_given 78 = .ok (.goto 5, 3) := by decide +kernel
set_option maxRecDepth 20000 in
theorem dX8_given_81 : decode cX8_given 81 = .ok (.iload 5, 2) := by decide +kernel
set_option maxRecDepth 20000 in
theorem dX8_given_83 : decode cX8_given 83 = .ok (.ireturn, 1) := by decide +kernel
set_option maxRecDepth 20000 in
theorem dX8_settles_0 : decode cX8_settles 0 = .ok (.bipush 16, 2) := by decide +kernel
set_option maxRecDepth 20000 in
theorem dX8_settles_2 : decode cX8_settles 2 = .ok (.iload_n 1, 1) := by decide +kernel
set_option maxRecDepth 20000 in
theorem dX8_settles_3 : decode cX8_settles 3 = .ok (.imul, 1) := by decide +kernel
set_option maxRecDepth 20000 in
theorem dX8_settles_4 : decode cX8_settles 4 = .ok (.iload_n 2, 1) := by decide +kernel
set_option maxRecDepth 20000 in
theorem dX8_settles_5 : decode cX8_settles 5 = .ok (.iadd, 1) := by decide +kernel
set_option maxRecDepth 20000 in
theorem dX8_settles_6 : decode cX8_settles 6 = .ok (.istore 4, 2) := by decide +kernel
set_option maxRecDepth 20000 in
theorem dX8_settles_8 : decode cX8_settles 8 = .ok (.aload_n 0, 1) := by decide +kernel
set_option maxRecDepth 20000 in
theorem dX8_settles_9 : decode cX8_settles 9 = .ok (.iload_n 1, 1) := by decide +kernel
set_option maxRecDepth 20000 in
theorem dX8_settles_10 : decode cX8_settles 10 = .ok (.iload_n 2, 1) := by decide +kernel
set_option maxRecDepth 20000 in
theorem dX8_settles_11 : decode cX8_settles 11 = .ok (.invokevirtual 124, 3) := by decide +kernel
set_option maxRecDepth 20000 in
theorem dX8_settles_14 : decode cX8_settles 14 = .ok (.istore 5, 2) := by decide +kernel
set_option maxRecDepth 20000 in
theorem dX8_settles_16 : decode cX8_settles 16 = .ok (.aload_n 0, 1) := by decide +kernel
set_option maxRecDepth 20000 in
theorem dX8_settles_17 : decode cX8_settles 17 = .ok (.getfield 29, 3) := by decide +kernel
set_option maxRecDepth 20000 in
theorem dX8_settles_20 : decode cX8_settles 20 = .ok (.iload 4, 2) := by decide +kernel
set_option maxRecDepth 20000 in
theorem dX8_settles_22 : decode cX8_settles 22 = .ok (.iload 5, 2) := by decide +kernel
set_option maxRecDepth 20000 in
theorem dX8_settles_24 : decode cX8_settles 24 = .ok (.iconst (-1), 1) := by decide +kernel
set_option maxRecDepth 20000 in
theorem dX8_settles_25 : decode cX8_settles 25 = .ok (.if_icmp .eq 7, 3) := by decide +kernel
set_option maxRecDepth 20000 in
theorem dX8_settles_28 : decode cX8_settles 28 = .ok (.iconst 1, 1) := by decide +kernel
set_option maxRecDepth 20000 in
theorem dX8_settles_29 : decode cX8_settles 29 = .ok (.goto 4, 3) := by decide +kernel
set_option maxRecDepth 20000 in
theorem dX8_settles_32 : decode cX8_settles 32 = .ok (.iconst 0, 1) := by decide +kernel
set_option maxRecDepth 20000 in
theorem dX8_settles_33 : decode cX8_settles 33 = .ok (.bastore, 1) := by decide +kernel
set_option maxRecDepth 20000 in
theorem dX8_settles_34 : decode cX8_settles 34 = .ok (.iload_n 1, 1) := by decide +kernel
set_option maxRecDepth 20000 in
theorem dX8_settles_35 : decode cX8_settles 35 = .ok (.ifCond .ne 7, 3) := by decide +kernel
set_option maxRecDepth 20000 in
theorem dX8_settles_38 : decode cX8_settles 38 = .ok (.iconst (-1), 1) := by decide +kernel
set_option maxRecDepth 20000 in
theorem dX8_settles_39 : decode cX8_settles 39 = .ok (.goto 21, 3) := by decide +kernel
set_option maxRecDepth 20000 in
theorem dX8_settles_42 : decode cX8_settles 42 = .ok (.aload_n 0, 1) := by decide +kernel
set_option maxRecDepth 20000 in
theorem dX8_settles_43 : decode cX8_settles 43 = .ok (.getfield 26, 3) := by decide +kernel
set_option maxRecDepth 20000 in
theorem dX8_settles_46 : decode cX8_settles 46 = .ok (.bipush 16, 2) := by decide +kernel
set_option maxRecDepth 20000 in
theorem dX8_settles_48 : decode cX8_settles 48 = .ok (.aload_n 0, 1) := by decide +kernel
set_option maxRecDepth 20000 in
theorem dX8_settles_49 : decode cX8_settles 49 = .ok (.getfield 7, 3) := by decide +kernel
set_option maxRecDepth 20000 in
theorem dX8_settles_52 : decode cX8_settles 52 = .ok (.iconst 2, 1) := by decide +kernel
set_option maxRecDepth 20000 in
theorem dX8_settles_53 : decode cX8_settles 53 = .ok (.iload_n 1, 1) := by decide +kernel
set_option maxRecDepth 20000 in
theorem dX8_settles_54 : decode cX8_settles 54 = .ok (.iadd, 1) := by decide +kernel
set_option maxRecDepth 20000 in
theorem dX8_settles_55 : decode cX8_settles 55 = .ok (.iaload, 1) := by decide +kernel
set_option maxRecDepth 20000 in
theorem dX8_settles_56 : decode cX8_settles 56 = .ok (.imul, 1) := by decide +kernel
set_option maxRecDepth 20000 in
theorem dX8_settles_57 : decode cX8_settles 57 = .ok (.iload_n 2, 1) := by decide +kernel
set_option maxRecDepth 20000 in
theorem dX8_settles_58 : decode cX8_settles 58 = .ok (.iadd, 1) := by decide +kernel
set_option maxRecDepth 20000 in
theorem dX8_settles_59 : decode cX8_settles 59 = .ok (.iaload, 1) := by decide +kernel
set_option maxRecDepth 20000 in
theorem dX8_settles_60 : decode cX8_settles 60 = .ok (.istore 6, 2) := by decide +kernel
set_option maxRecDepth 20000 in
theorem dX8_settles_62 : decode cX8_settles 62 = .ok (.aload_n 0, 1) := by decide +kernel
set_option maxRecDepth 20000 in
theorem dX8_settles_63 : decode cX8_settles 63 = .ok (.getfield 26, 3) := by decide +kernel
set_option maxRecDepth 20000 in
theorem dX8_settles_66 : decode cX8_settles 66 = .ok (.iload 4, 2) := by decide +kernel
set_option maxRecDepth 20000 in
theorem dX8_settles_68 : decode cX8_settles 68 = .ok (.iload 5, 2) := by decide +kernel
set_option maxRecDepth 20000 in
theorem dX8_settles_70 : decode cX8_settles 70 = .ok (.iconst (-1), 1) := by decide +kernel
set_option maxRecDepth 20000 in
theorem dX8_settles_71 : decode cX8_settles 71 = .ok (.if_icmp .eq 8, 3) := by decide +kernel
set_option maxRecDepth 20000 in
theorem dX8_settles_74 : decode cX8_settles 74 = .ok (.iload 5, 2) := by decide +kernel
set_option maxRecDepth 20000 in
theorem dX8_settles_76 : decode cX8_settles 76 = .ok (.goto 13, 3) := by decide +kernel
set_option maxRecDepth 20000 in
theorem dX8_settles_79 : decode cX8_settles 79 = .ok (.iload_n 3, 1) := by decide +kernel
set_option maxRecDepth 20000 in
theorem dX8_settles_80 : decode cX8_settles 80 = .ok (.ifCond .eq 8, 3) := by decide +kernel
set_option maxRecDepth 20000 in
theorem dX8_settles_83 : decode cX8_settles 83 = .ok (.iload 6, 2) := by decide +kernel
set_option maxRecDepth 20000 in
theorem dX8_settles_85 : decode cX8_settles 85 = .ok (.goto 4, 3) := by decide +kernel
set_option maxRecDepth 20000 in
theorem dX8_settles_88 : decode cX8_settles 88 = .ok (.iconst (-1), 1) := by decide +kernel
set_option maxRecDepth 20000 in
theorem dX8_settles_89 : decode cX8_settles 89 = .ok (.iastore, 1) := by decide +kernel
set_option maxRecDepth 20000 in
theorem dX8_settles_90 : decode cX8_settles 90 = .ok (.return_, 1) := by decide +kernel
set_option maxRecDepth 20000 in
theorem dX8_settlesAll_0 : decode cX8_settlesAll 0 = .ok (.bipush 8, 2) := by decide +kernel
set_option maxRecDepth 20000 in
theorem dX8_settlesAll_2 : decode cX8_settlesAll 2 = .ok (.istore_n 2, 1) := by decide +kernel
set_option maxRecDepth 20000 in
theorem dX8_settlesAll_3 : decode cX8_settlesAll 3 = .ok (.iload_n 2, 1) := by decide +kernel
set_option maxRecDepth 20000 in
theorem dX8_settlesAll_4 : decode cX8_settlesAll 4 = .ok (.bipush 16, 2) := by decide +kernel
set_option maxRecDepth 20000 in
theorem dX8_settlesAll_6 : decode cX8_settlesAll 6 = .ok (.if_icmp .ge 53, 3) := by decide +kernel
set_option maxRecDepth 20000 in
theorem dX8_settlesAll_9 : decode cX8_settlesAll 9 = .ok (.aload_n 0, 1) := by decide +kernel
set_option maxRecDepth 20000 in
theorem dX8_settlesAll_10 : decode cX8_settlesAll 10 = .ok (.getfield 33, 3) := by decide +kernel
set_option maxRecDepth 20000 in
theorem dX8_settlesAll_13 : decode cX8_settlesAll 13 = .ok (.iload_n 2, 1) := by decide +kernel
set_option maxRecDepth 20000 in
theorem dX8_settlesAll_14 : decode cX8_settlesAll 14 = .ok (.aload_n 0, 1) := by decide +kernel
set_option maxRecDepth 20000 in
theorem dX8_settlesAll_15 : decode cX8_settlesAll 15 = .ok (.iload_n 1, 1) := by decide +kernel
set_option maxRecDepth 20000 in
theorem dX8_settlesAll_16 : decode cX8_settlesAll 16 = .ok (.iload_n 2, 1) := by decide +kernel
set_option maxRecDepth 20000 in
theorem dX8_settlesAll_17 : decode cX8_settlesAll 17 = .ok (.invokevirtual 68, 3) := by decide +kernel
set_option maxRecDepth 20000 in
theorem dX8_settlesAll_20 : decode cX8_settlesAll 20 = .ok (.ifCond .le 7, 3) := by decide +kernel
set_option maxRecDepth 20000 in
theorem dX8_settlesAll_23 : decode cX8_settlesAll 23 = .ok (.iconst 1, 1) := by decide +kernel
set_option maxRecDepth 20000 in
theorem dX8_settlesAll_24 : decode cX8_settlesAll 24 = .ok (.goto 4, 3) := by decide +kernel
set_option maxRecDepth 20000 in
theorem dX8_settlesAll_27 : decode cX8_settlesAll 27 = .ok (.iconst 0, 1) := by decide +kernel
set_option maxRecDepth 20000 in
theorem dX8_settlesAll_28 : decode cX8_settlesAll 28 = .ok (.bastore, 1) := by decide +kernel
set_option maxRecDepth 20000 in
theorem dX8_settlesAll_29 : decode cX8_settlesAll 29 = .ok (.aload_n 0, 1) := by decide +kernel
set_option maxRecDepth 20000 in
theorem dX8_settlesAll_30 : decode cX8_settlesAll 30 = .ok (.getfield 29, 3) := by decide +kernel
set_option maxRecDepth 20000 in
theorem dX8_settlesAll_33 : decode cX8_settlesAll 33 = .ok (.bipush 16, 2) := by decide +kernel
set_option maxRecDepth 20000 in
theorem dX8_settlesAll_35 : decode cX8_settlesAll 35 = .ok (.iload_n 1, 1) := by decide +kernel
set_option maxRecDepth 20000 in
theorem dX8_settlesAll_36 : decode cX8_settlesAll 36 = .ok (.imul, 1) := by decide +kernel
set_option maxRecDepth 20000 in
theorem dX8_settlesAll_37 : decode cX8_settlesAll 37 = .ok (.iload_n 2, 1) := by decide +kernel
set_option maxRecDepth 20000 in
theorem dX8_settlesAll_38 : decode cX8_settlesAll 38 = .ok (.iadd, 1) := by decide +kernel
set_option maxRecDepth 20000 in
theorem dX8_settlesAll_39 : decode cX8_settlesAll 39 = .ok (.iconst 0, 1) := by decide +kernel
set_option maxRecDepth 20000 in
theorem dX8_settlesAll_40 : decode cX8_settlesAll 40 = .ok (.bastore, 1) := by decide +kernel
set_option maxRecDepth 20000 in
theorem dX8_settlesAll_41 : decode cX8_settlesAll 41 = .ok (.aload_n 0, 1) := by decide +kernel
set_option maxRecDepth 20000 in
theorem dX8_settlesAll_42 : decode cX8_settlesAll 42 = .ok (.getfield 26, 3) := by decide +kernel
set_option maxRecDepth 20000 in
theorem dX8_settlesAll_45 : decode cX8_settlesAll 45 = .ok (.bipush 16, 2) := by decide +kernel
set_option maxRecDepth 20000 in
theorem dX8_settlesAll_47 : decode cX8_settlesAll 47 = .ok (.iload_n 1, 1) := by decide +kernel
set_option maxRecDepth 20000 in
theorem dX8_settlesAll_48 : decode cX8_settlesAll 48 = .ok (.imul, 1) := by decide +kernel
set_option maxRecDepth 20000 in
theorem dX8_settlesAll_49 : decode cX8_settlesAll 49 = .ok (.iload_n 2, 1) := by decide +kernel
set_option maxRecDepth 20000 in
theorem dX8_settlesAll_50 : decode cX8_settlesAll 50 = .ok (.iadd, 1) := by decide +kernel
set_option maxRecDepth 20000 in
theorem dX8_settlesAll_51 : decode cX8_settlesAll 51 = .ok (.iconst (-1), 1) := by decide +kernel
set_option maxRecDepth 20000 in
theorem dX8_settlesAll_52 : decode cX8_settlesAll 52 = .ok (.iastore, 1) := by decide +kernel
set_option maxRecDepth 20000 in
theorem dX8_settlesAll_53 : decode cX8_settlesAll 53 = .ok (.iinc 2 1, 3) := by decide +kernel
set_option maxRecDepth 20000 in
theorem dX8_settlesAll_56 : decode cX8_settlesAll 56 = .ok (.goto (-53), 3) := by decide +kernel
set_option maxRecDepth 20000 in
theorem dX8_settlesAll_59 : decode cX8_settlesAll 59 = .ok (.iconst 0, 1) := by decide +kernel
set_option maxRecDepth 20000 in
theorem dX8_settlesAll_60 : decode cX8_settlesAll 60 = .ok (.istore_n 2, 1) := by decide +kernel
set_option maxRecDepth 20000 in
theorem dX8_settlesAll_61 : decode cX8_settlesAll 61 = .ok (.iload_n 2, 1) := by decide +kernel
set_option maxRecDepth 20000 in
theorem dX8_settlesAll_62 : decode cX8_settlesAll 62 = .ok (.bipush 8, 2) := by decide +kernel
set_option maxRecDepth 20000 in
theorem dX8_settlesAll_64 : decode cX8_settlesAll 64 = .ok (.if_icmp .ge 71, 3) := by decide +kernel
set_option maxRecDepth 20000 in
theorem dX8_settlesAll_67 : decode cX8_settlesAll 67 = .ok (.bipush 8, 2) := by decide +kernel
set_option maxRecDepth 20000 in
theorem dX8_settlesAll_69 : decode cX8_settlesAll 69 = .ok (.istore_n 3, 1) := by decide +kernel
set_option maxRecDepth 20000 in
theorem dX8_settlesAll_70 : decode cX8_settlesAll 70 = .ok (.iload_n 3, 1) := by decide +kernel
set_option maxRecDepth 20000 in
theorem dX8_settlesAll_71 : decode cX8_settlesAll 71 = .ok (.bipush 16, 2) := by decide +kernel
set_option maxRecDepth 20000 in
theorem dX8_settlesAll_73 : decode cX8_settlesAll 73 = .ok (.if_icmp .ge 56, 3) := by decide +kernel
set_option maxRecDepth 20000 in
theorem dX8_settlesAll_76 : decode cX8_settlesAll 76 = .ok (.aload_n 0, 1) := by decide +kernel
set_option maxRecDepth 20000 in
theorem dX8_settlesAll_77 : decode cX8_settlesAll 77 = .ok (.iload_n 1, 1) := by decide +kernel
set_option maxRecDepth 20000 in
theorem dX8_settlesAll_78 : decode cX8_settlesAll 78 = .ok (.iload_n 3, 1) := by decide +kernel
set_option maxRecDepth 20000 in
theorem dX8_settlesAll_79 : decode cX8_settlesAll 79 = .ok (.invokevirtual 121, 3) := by decide +kernel
set_option maxRecDepth 20000 in
theorem dX8_settlesAll_82 : decode cX8_settlesAll 82 = .ok (.istore 4, 2) := by decide +kernel
set_option maxRecDepth 20000 in
theorem dX8_settlesAll_84 : decode cX8_settlesAll 84 = .ok (.aload_n 0, 1) := by decide +kernel
set_option maxRecDepth 20000 in
theorem dX8_settlesAll_85 : decode cX8_settlesAll 85 = .ok (.getfield 33, 3) := by decide +kernel
set_option maxRecDepth 20000 in
theorem dX8_settlesAll_88 : decode cX8_settlesAll 88 = .ok (.iload_n 3, 1) := by decide +kernel
set_option maxRecDepth 20000 in
theorem dX8_settlesAll_89 : decode cX8_settlesAll 89 = .ok (.baload, 1) := by decide +kernel
set_option maxRecDepth 20000 in
theorem dX8_settlesAll_90 : decode cX8_settlesAll 90 = .ok (.ifCond .ne 33, 3) := by decide +kernel
set_option maxRecDepth 20000 in
theorem dX8_settlesAll_93 : decode cX8_settlesAll 93 = .ok (.iload 4, 2) := by decide +kernel
set_option maxRecDepth 20000 in
theorem dX8_settlesAll_95 : decode cX8_settlesAll 95 = .ok (.iconst (-1), 1) := by decide +kernel
set_option maxRecDepth 20000 in
theorem dX8_settlesAll_96 : decode cX8_settlesAll 96 = .ok (.if_icmp .eq 13, 3) := by decide +kernel
set_option maxRecDepth 20000 in
theorem dX8_settlesAll_99 : decode cX8_settlesAll 99 = .ok (.aload_n 0, 1) := by decide +kernel
set_option maxRecDepth 20000 in
theorem dX8_settlesAll_100 : decode cX8_settlesAll 100 = .ok (.getfield 33, 3) := by decide +kernel
set_option maxRecDepth 20000 in
theorem dX8_settlesAll_103 : decode cX8_settlesAll 103 = .ok (.iload 4, 2) := by decide +kernel
set_option maxRecDepth 20000 in
theorem dX8_settlesAll_105 : decode cX8_settlesAll 105 = .ok (.baload, 1) := by decide +kernel
set_option maxRecDepth 20000 in
theorem dX8_settlesAll_106 : decode cX8_settlesAll 106 = .ok (.ifCond .eq 17, 3) := by decide +kernel
set_option maxRecDepth 20000 in
theorem dX8_settlesAll_109 : decode cX8_settlesAll 109 = .ok (.aload_n 0, 1) := by decide +kernel
set_option maxRecDepth 20000 in
theorem dX8_settlesAll_110 : decode cX8_settlesAll 110 = .ok (.iload_n 1, 1) := by decide +kernel
set_option maxRecDepth 20000 in
theorem dX8_settlesAll_111 : decode cX8_settlesAll 111 = .ok (.iload_n 3, 1) := by decide +kernel
set_option maxRecDepth 20000 in
theorem dX8_settlesAll_112 : decode cX8_settlesAll 112 = .ok (.iconst 1, 1) := by decide +kernel
set_option maxRecDepth 20000 in
theorem dX8_settlesAll_113 : decode cX8_settlesAll 113 = .ok (.invokevirtual 127, 3) := by decide +kernel
set_option maxRecDepth 20000 in
theorem dX8_settlesAll_116 : decode cX8_settlesAll 116 = .ok (.aload_n 0, 1) := by decide +kernel
set_option maxRecDepth 20000 in
theorem dX8_settlesAll_117 : decode cX8_settlesAll 117 = .ok (.getfield 33, 3) := by decide +kernel
set_option maxRecDepth 20000 in
theorem dX8_settlesAll_120 : decode cX8_settlesAll 120 = .ok (.iload_n 3, 1) := by decide +kernel
set_option maxRecDepth 20000 in
theorem dX8_settlesAll_121 : decode cX8_settlesAll 121 = .ok (.iconst 1, 1) := by decide +kernel
set_option maxRecDepth 20000 in
theorem dX8_settlesAll_122 : decode cX8_settlesAll 122 = .ok (.bastore, 1) := by decide +kernel
set_option maxRecDepth 20000 in
theorem dX8_settlesAll_123 : decode cX8_settlesAll 123 = .ok (.iinc 3 1, 3) := by decide +kernel
set_option maxRecDepth 20000 in
theorem dX8_settlesAll_126 : decode cX8_settlesAll 126 = .ok (.goto (-56), 3) := by decide +kernel
set_option maxRecDepth 20000 in
theorem dX8_settlesAll_129 : decode cX8_settlesAll 129 = .ok (.iinc 2 1, 3) := by decide +kernel
set_option maxRecDepth 20000 in
theorem dX8_settlesAll_132 : decode cX8_settlesAll 132 = .ok (.goto (-71), 3) := by decide +kernel
set_option maxRecDepth 20000 in
theorem dX8_settlesAll_135 : decode cX8_settlesAll 135 = .ok (.iconst 0, 1) := by decide +kernel
set_option maxRecDepth 20000 in
theorem dX8_settlesAll_136 : decode cX8_settlesAll 136 = .ok (.istore_n 2, 1) := by decide +kernel
set_option maxRecDepth 20000 in
theorem dX8_settlesAll_137 : decode cX8_settlesAll 137 = .ok (.iload_n 2, 1) := by decide +kernel
set_option maxRecDepth 20000 in
theorem dX8_settlesAll_138 : decode cX8_settlesAll 138 = .ok (.bipush 8, 2) := by decide +kernel
set_option maxRecDepth 20000 in
theorem dX8_settlesAll_140 : decode cX8_settlesAll 140 = .ok (.if_icmp .ge 59, 3) := by decide +kernel
set_option maxRecDepth 20000 in
theorem dX8_settlesAll_143 : decode cX8_settlesAll 143 = .ok (.aload_n 0, 1) := by decide +kernel
set_option maxRecDepth 20000 in
theorem dX8_settlesAll_144 : decode cX8_settlesAll 144 = .ok (.iload_n 1, 1) := by decide +kernel
set_option maxRecDepth 20000 in
theorem dX8_settlesAll_145 : decode cX8_settlesAll 145 = .ok (.iload_n 2, 1) := by decide +kernel
set_option maxRecDepth 20000 in
theorem dX8_settlesAll_146 : decode cX8_settlesAll 146 = .ok (.iload_n 2, 1) := by decide +kernel
set_option maxRecDepth 20000 in
theorem dX8_settlesAll_147 : decode cX8_settlesAll 147 = .ok (.iconst 2, 1) := by decide +kernel
set_option maxRecDepth 20000 in
theorem dX8_settlesAll_148 : decode cX8_settlesAll 148 = .ok (.irem, 1) := by decide +kernel
set_option maxRecDepth 20000 in
theorem dX8_settlesAll_149 : decode cX8_settlesAll 149 = .ok (.ifCond .ne 7, 3) := by decide +kernel
set_option maxRecDepth 20000 in
theorem dX8_settlesAll_152 : decode cX8_settlesAll 152 = .ok (.iconst 1, 1) := by decide +kernel
set_option maxRecDepth 20000 in
theorem dX8_settlesAll_153 : decode cX8_settlesAll 153 = .ok (.goto 4, 3) := by decide +kernel
set_option maxRecDepth 20000 in
theorem dX8_settlesAll_156 : decode cX8_settlesAll 156 = .ok (.iconst 0, 1) := by decide +kernel
set_option maxRecDepth 20000 in
theorem dX8_settlesAll_157 : decode cX8_settlesAll 157 = .ok (.invokevirtual 127, 3) := by decide +kernel
set_option maxRecDepth 20000 in
theorem dX8_settlesAll_160 : decode cX8_settlesAll 160 = .ok (.bipush 16, 2) := by decide +kernel
set_option maxRecDepth 20000 in
theorem dX8_settlesAll_162 : decode cX8_settlesAll 162 = .ok (.iload_n 1, 1) := by decide +kernel
set_option maxRecDepth 20000 in
theorem dX8_settlesAll_163 : decode cX8_settlesAll 163 = .ok (.imul, 1) := by decide +kernel
set_option maxRecDepth 20000 in
theorem dX8_settlesAll_164 : decode cX8_settlesAll 164 = .ok (.iload_n 2, 1) := by decide +kernel
set_option maxRecDepth 20000 in
theorem dX8_settlesAll_165 : decode cX8_settlesAll 165 = .ok (.iadd, 1) := by decide +kernel
set_option maxRecDepth 20000 in
theorem dX8_settlesAll_166 : decode cX8_settlesAll 166 = .ok (.istore_n 3, 1) := by decide +kernel
set_option maxRecDepth 20000 in
theorem dX8_settlesAll_167 : decode cX8_settlesAll 167 = .ok (.aload_n 0, 1) := by decide +kernel
set_option maxRecDepth 20000 in
theorem dX8_settlesAll_168 : decode cX8_settlesAll 168 = .ok (.getfield 26, 3) := by decide +kernel
set_option maxRecDepth 20000 in
theorem dX8_settlesAll_171 : decode cX8_settlesAll 171 = .ok (.iload_n 3, 1) := by decide +kernel
set_option maxRecDepth 20000 in
theorem dX8_settlesAll_172 : decode cX8_settlesAll 172 = .ok (.aload_n 0, 1) := by decide +kernel
set_option maxRecDepth 20000 in
theorem dX8_settlesAll_173 : decode cX8_settlesAll 173 = .ok (.getfield 26, 3) := by decide +kernel
set_option maxRecDepth 20000 in
theorem dX8_settlesAll_176 : decode cX8_settlesAll 176 = .ok (.iload_n 3, 1) := by decide +kernel
set_option maxRecDepth 20000 in
theorem dX8_settlesAll_177 : decode cX8_settlesAll 177 = .ok (.iaload, 1) := by decide +kernel
set_option maxRecDepth 20000 in
theorem dX8_settlesAll_178 : decode cX8_settlesAll 178 = .ok (.iconst (-1), 1) := by decide +kernel
set_option maxRecDepth 20000 in
theorem dX8_settlesAll_179 : decode cX8_settlesAll 179 = .ok (.if_icmp .ne 7, 3) := by decide +kernel
set_option maxRecDepth 20000 in
theorem dX8_settlesAll_182 : decode cX8_settlesAll 182 = .ok (.iconst 0, 1) := by decide +kernel
set_option maxRecDepth 20000 in
theorem dX8_settlesAll_183 : decode cX8_settlesAll 183 = .ok (.goto 9, 3) := by decide +kernel
set_option maxRecDepth 20000 in
theorem dX8_settlesAll_186 : decode cX8_settlesAll 186 = .ok (.aload_n 0, 1) := by decide +kernel
set_option maxRecDepth 20000 in
theorem dX8_settlesAll_187 : decode cX8_settlesAll 187 = .ok (.getfield 26, 3) := by decide +kernel
set_option maxRecDepth 20000 in
theorem dX8_settlesAll_190 : decode cX8_settlesAll 190 = .ok (.iload_n 3, 1) := by decide +kernel
set_option maxRecDepth 20000 in
theorem dX8_settlesAll_191 : decode cX8_settlesAll 191 = .ok (.iaload, 1) := by decide +kernel
set_option maxRecDepth 20000 in
theorem dX8_settlesAll_192 : decode cX8_settlesAll 192 = .ok (.iastore, 1) := by decide +kernel
set_option maxRecDepth 20000 in
theorem dX8_settlesAll_193 : decode cX8_settlesAll 193 = .ok (.iinc 2 1, 3) := by decide +kernel
set_option maxRecDepth 20000 in
theorem dX8_settlesAll_196 : decode cX8_settlesAll 196 = .ok (.goto (-59), 3) := by decide +kernel
set_option maxRecDepth 20000 in
theorem dX8_settlesAll_199 : decode cX8_settlesAll 199 = .ok (.return_, 1) := by decide +kernel
set_option maxRecDepth 20000 in
theorem dX8_settlesTo_0 : decode cX8_settlesTo 0 = .ok (.iconst 0, 1) := by decide +kernel
set_option maxRecDepth 20000 in
theorem dX8_settlesTo_1 : decode cX8_settlesTo 1 = .ok (.istore_n 2, 1) := by decide +kernel
set_option maxRecDepth 20000 in
theorem dX8_settlesTo_2 : decode cX8_settlesTo 2 = .ok (.iload_n 2, 1) := by decide +kernel
set_option maxRecDepth 20000 in
theorem dX8_settlesTo_3 : decode cX8_settlesTo 3 = .ok (.iload_n 1, 1) := by decide +kernel
set_option maxRecDepth 20000 in
theorem dX8_settlesTo_4 : decode cX8_settlesTo 4 = .ok (.if_icmp .gt 23, 3) := by decide +kernel
set_option maxRecDepth 20000 in
theorem dX8_settlesTo_7 : decode cX8_settlesTo 7 = .ok (.aload_n 0, 1) := by decide +kernel
set_option maxRecDepth 20000 in
theorem dX8_settlesTo_8 : decode cX8_settlesTo 8 = .ok (.iload_n 1, 1) := by decide +kernel
set_option maxRecDepth 20000 in
theorem dX8_settlesTo_9 : decode cX8_settlesTo 9 = .ok (.iload_n 2, 1) := by decide +kernel
set_option maxRecDepth 20000 in
theorem dX8_settlesTo_10 : decode cX8_settlesTo 10 = .ok (.invokevirtual 62, 3) := by decide +kernel
set_option maxRecDepth 20000 in
theorem dX8_settlesTo_13 : decode cX8_settlesTo 13 = .ok (.ifCond .lt 8, 3) := by decide +kernel
set_option maxRecDepth 20000 in
theorem dX8_settlesTo_16 : decode cX8_settlesTo 16 = .ok (.aload_n 0, 1) := by decide +kernel
set_option maxRecDepth 20000 in
theorem dX8_settlesTo_17 : decode cX8_settlesTo 17 = .ok (.iload_n 2, 1) := by decide +kernel
