theorem dX4_best_21 : decode cX4_best 21 = .ok (.aload_n 0, 1) := by decide +kernel
theorem dX4_best_22 : decode cX4_best 22 = .ok (.ldc 48, 2) := by decide +kernel
theorem dX4_best_24 : decode cX4_best 24 = .ok (.invokevirtual 49, 3) := by decide +kernel
theorem dX4_best_27 : decode cX4_best 27 = .ok (.ireturn, 1) := by decide +kernel
theorem dX4_best_28 : decode cX4_best 28 = .ok (.aload_n 0, 1) := by decide +kernel
theorem dX4_best_29 : decode cX4_best 29 = .ok (.getfield 10, 3) := by decide +kernel
theorem dX4_best_32 : decode cX4_best 32 = .ok (.getfield 109, 3) := by decide +kernel
theorem dX4_best_35 : decode cX4_best 35 = .ok (.iload_n 1, 1) := by decide +kernel
theorem dX4_best_36 : decode cX4_best 36 = .ok (.iaload, 1) := by decide +kernel
theorem dX4_best_37 : decode cX4_best 37 = .ok (.istore_n 3, 1) := by decide +kernel
theorem dX4_best_38 : decode cX4_best 38 = .ok (.iconst (-1), 1) := by decide +kernel
theorem dX4_best_39 : decode cX4_best 39 = .ok (.istore 4, 2) := by decide +kernel
theorem dX4_best_41 : decode cX4_best 41 = .ok (.iconst 0, 1) := by decide +kernel
theorem dX4_best_42 : decode cX4_best 42 = .ok (.istore 5, 2) := by decide +kernel
theorem dX4_best_44 : decode cX4_best 44 = .ok (.iload 5, 2) := by decide +kernel
theorem dX4_best_46 : decode cX4_best 46 = .ok (.bipush 12, 2) := by decide +kernel
theorem dX4_best_48 : decode cX4_best 48 = .ok (.if_icmp .ge 75, 3) := by decide +kernel
theorem dX4_best_51 : decode cX4_best 51 = .ok (.aload_n 0, 1) := by decide +kernel
theorem dX4_best_52 : decode cX4_best 52 = .ok (.getfield 10, 3) := by decide +kernel
theorem dX4_best_55 : decode cX4_best 55 = .ok (.iload_n 1, 1) := by decide +kernel
theorem dX4_best_56 : decode cX4_best 56 = .ok (.iload 5, 2) := by decide +kernel
theorem dX4_best_58 : decode cX4_best 58 = .ok (.invokevirtual 139, 3) := by decide +kernel
theorem dX4_best_61 : decode cX4_best 61 = .ok (.ifCond .eq 56, 3) := by decide +kernel
theorem dX4_best_64 : decode cX4_best 64 = .ok (.aload_n 0, 1) := by decide +kernel
theorem dX4_best_65 : decode cX4_best 65 = .ok (.getfield 16, 3) := by decide +kernel
theorem dX4_best_68 : decode cX4_best 68 = .ok (.aload_n 0, 1) := by decide +kernel
theorem dX4_best_69 : decode cX4_best 69 = .ok (.getfield 10, 3) := by decide +kernel
theorem dX4_best_72 : decode cX4_best 72 = .ok (.invokevirtual 155, 3) := by decide +kernel
theorem dX4_best_75 : decode cX4_best 75 = .ok (.aload_n 0, 1) := by decide +kernel
theorem dX4_best_76 : decode cX4_best 76 = .ok (.getfield 16, 3) := by decide +kernel
theorem dX4_best_79 : decode cX4_best 79 = .ok (.iload_n 1, 1) := by decide +kernel
theorem dX4_best_80 : decode cX4_best 80 = .ok (.iload 5, 2) := by decide +kernel
theorem dX4_best_82 : decode cX4_best 82 = .ok (.invokevirtual 142, 3) := by decide +kernel
theorem dX4_best_85 : decode cX4_best 85 = .ok (.aload_n 0, 1) := by decide +kernel
theorem dX4_best_86 : decode cX4_best 86 = .ok (.getfield 16, 3) := by decide +kernel
theorem dX4_best_89 : decode cX4_best 89 = .ok (.iload_n 2, 1) := by decide +kernel
theorem dX4_best_90 : decode cX4_best 90 = .ok (.invokevirtual 151, 3) := by decide +kernel
theorem dX4_best_93 : decode cX4_best 93 = .ok (.aload_n 0, 1) := by decide +kernel
theorem dX4_best_94 : decode cX4_best 94 = .ok (.getfield 16, 3) := by decide +kernel
theorem dX4_best_97 : decode cX4_best 97 = .ok (.iload_n 1, 1) := by decide +kernel
theorem dX4_best_98 : decode cX4_best 98 = .ok (.invokevirtual 171, 3) := by decide +kernel
theorem dX4_best_101 : decode cX4_best 101 = .ok (.istore 6, 2) := by decide +kernel
theorem dX4_best_103 : decode cX4_best 103 = .ok (.iload 6, 2) := by decide +kernel
theorem dX4_best_105 : decode cX4_best 105 = .ok (.iload 4, 2) := by decide +kernel
theorem dX4_best_107 : decode cX4_best 107 = .ok (.if_icmp .le 10, 3) := by decide +kernel
theorem dX4_best_110 : decode cX4_best 110 = .ok (.iload 6, 2) := by decide +kernel
theorem dX4_best_112 : decode cX4_best 112 = .ok (.istore 4, 2) := by decide +kernel
theorem dX4_best_114 : decode cX4_best 114 = .ok (.iload 5, 2) := by decide +kernel
theorem dX4_best_116 : decode cX4_best 116 = .ok (.istore_n 3, 1) := by decide +kernel
theorem dX4_best_117 : decode cX4_best 117 = .ok (.iinc 5 1, 3) := by decide +kernel
theorem dX4_best_120 : decode cX4_best 120 = .ok (.goto (-76), 3) := by decide +kernel
theorem dX4_best_123 : decode cX4_best 123 = .ok (.iload_n 3, 1) := by decide +kernel
theorem dX4_best_124 : decode cX4_best 124 = .ok (.ireturn, 1) := by decide +kernel
theorem dX4_kind_0 : decode cX4_kind 0 = .ok (.aload_n 0, 1) := by decide +kernel
theorem dX4_kind_1 : decode cX4_kind 1 = .ok (.getfield 10, 3) := by decide +kernel
theorem dX4_kind_4 : decode cX4_kind 4 = .ok (.iload_n 1, 1) := by decide +kernel
theorem dX4_kind_5 : decode cX4_kind 5 = .ok (.invokevirtual 103, 3) := by decide +kernel
theorem dX4_kind_8 : decode cX4_kind 8 = .ok (.ifCond .eq 13, 3) := by decide +kernel
theorem dX4_kind_11 : decode cX4_kind 11 = .ok (.iload_n 2, 1) := by decide +kernel
theorem dX4_kind_12 : decode cX4_kind 12 = .ok (.iconst 1, 1) := by decide +kernel
theorem dX4_kind_13 : decode cX4_kind 13 = .ok (.bipush 40, 2) := by decide +kernel
theorem dX4_kind_15 : decode cX4_kind 15 = .ok (.invokestatic 44, 3) := by decide +kernel
theorem dX4_kind_18 : decode cX4_kind 18 = .ok (.ifCond .ne 10, 3) := by decide +kernel
theorem dX4_kind_21 : decode cX4_kind 21 = .ok (.aload_n 0, 1) := by decide +kernel
theorem dX4_kind_22 : decode cX4_kind 22 = .ok (.ldc 48, 2) := by decide +kernel
theorem dX4_kind_24 : decode cX4_kind 24 = .ok (.invokevirtual 49, 3) := by decide +kernel
theorem dX4_kind_27 : decode cX4_kind 27 = .ok (.ireturn, 1) := by decide +kernel
theorem dX4_kind_28 : decode cX4_kind 28 = .ok (.iconst 0, 1) := by decide +kernel
theorem dX4_kind_29 : decode cX4_kind 29 = .ok (.istore_n 3, 1) := by decide +kernel
theorem dX4_kind_30 : decode cX4_kind 30 = .ok (.iconst (-1), 1) := by decide +kernel
theorem dX4_kind_31 : decode cX4_kind 31 = .ok (.istore 4, 2) := by decide +kernel
theorem dX4_kind_33 : decode cX4_kind 33 = .ok (.iconst 0, 1) := by decide +kernel
theorem dX4_kind_34 : decode cX4_kind 34 = .ok (.istore 5, 2) := by decide +kernel
theorem dX4_kind_36 : decode cX4_kind 36 = .ok (.iload 5, 2) := by decide +kernel
theorem dX4_kind_38 : decode cX4_kind 38 = .ok (.bipush 6, 2) := by decide +kernel
theorem dX4_kind_40 : decode cX4_kind 40 = .ok (.if_icmp .ge 63, 3) := by decide +kernel
theorem dX4_kind_43 : decode cX4_kind 43 = .ok (.aload_n 0, 1) := by decide +kernel
theorem dX4_kind_44 : decode cX4_kind 44 = .ok (.getfield 16, 3) := by decide +kernel
theorem dX4_kind_47 : decode cX4_kind 47 = .ok (.aload_n 0, 1) := by decide +kernel
theorem dX4_kind_48 : decode cX4_kind 48 = .ok (.getfield 10, 3) := by decide +kernel
theorem dX4_kind_51 : decode cX4_kind 51 = .ok (.invokevirtual 155, 3) := by decide +kernel
theorem dX4_kind_54 : decode cX4_kind 54 = .ok (.aload_n 0, 1) := by decide +kernel
theorem dX4_kind_55 : decode cX4_kind 55 = .ok (.getfield 16, 3) := by decide +kernel
theorem dX4_kind_58 : decode cX4_kind 58 = .ok (.getfield 106, 3) := by decide +kernel
theorem dX4_kind_61 : decode cX4_kind 61 = .ok (.iload_n 1, 1) := by decide +kernel
theorem dX4_kind_62 : decode cX4_kind 62 = .ok (.iload 5, 2) := by decide +kernel
theorem dX4_kind_64 : decode cX4_kind 64 = .ok (.iastore, 1) := by decide +kernel
theorem dX4_kind_65 : decode cX4_kind 65 = .ok (.aload_n 0, 1) := by decide +kernel
theorem dX4_kind_66 : decode cX4_kind 66 = .ok (.getfield 16, 3) := by decide +kernel
theorem dX4_kind_69 : decode cX4_kind 69 = .ok (.iload_n 2, 1) := by decide +kernel
theorem dX4_kind_70 : decode cX4_kind 70 = .ok (.invokevirtual 151, 3) := by decide +kernel
theorem dX4_kind_73 : decode cX4_kind 73 = .ok (.aload_n 0, 1) := by decide +kernel
theorem dX4_kind_74 : decode cX4_kind 74 = .ok (.getfield 16, 3) := by decide +kernel
theorem dX4_kind_77 : decode cX4_kind 77 = .ok (.iload_n 1, 1) := by decide +kernel
theorem dX4_kind_78 : decode cX4_kind 78 = .ok (.invokevirtual 171, 3) := by decide +kernel
theorem dX4_kind_81 : decode cX4_kind 81 = .ok (.istore 6, 2) := by decide +kernel
theorem dX4_kind_83 : decode cX4_kind 83 = .ok (.iload 6, 2) := by decide +kernel
theorem dX4_kind_85 : decode cX4_kind 85 = .ok (.iload 4, 2) := by decide +kernel
theorem dX4_kind_87 : decode cX4_kind 87 = .ok (.if_icmp .le 10, 3) := by decide +kernel
theorem dX4_kind_90 : decode cX4_kind 90 = .ok (.iload 6, 2) := by decide +kernel
theorem dX4_kind_92 : decode cX4_kind 92 = .ok (.istore 4, 2) := by decide +kernel
theorem dX4_kind_94 : decode cX4_kind 94 = .ok (.iload 5, 2) := by decide +kernel
theorem dX4_kind_96 : decode cX4_kind 96 = .ok (.istore_n 3, 1) := by decide +kernel
theorem dX4_kind_97 : decode cX4_kind 97 = .ok (.iinc 5 1, 3) := by decide +kernel
theorem dX4_kind_100 : decode cX4_kind 100 = .ok (.goto (-64), 3) := by decide +kernel
theorem dX4_kind_103 : decode cX4_kind 103 = .ok (.iload_n 3, 1) := by decide +kernel
theorem dX4_kind_104 : decode cX4_kind 104 = .ok (.ireturn, 1) := by decide +kernel
theorem dX4_deep_0 : decode cX4_deep 0 = .ok (.aload_n 0, 1) := by decide +kernel
theorem dX4_deep_1 : decode cX4_deep 1 = .ok (.getfield 10, 3) := by decide +kernel
theorem dX4_deep_4 : decode cX4_deep 4 = .ok (.iload_n 1, 1) := by decide +kernel
theorem dX4_deep_5 : decode cX4_deep 5 = .ok (.invokevirtual 103, 3) := by decide +kernel
theorem dX4_deep_8 : decode cX4_deep 8 = .ok (.ifCond .eq 29, 3) := by decide +kernel
theorem dX4_deep_11 : decode cX4_deep 11 = .ok (.aload_n 0, 1) := by decide +kernel
theorem dX4_deep_12 : decode cX4_deep 12 = .ok (.getfield 10, 3) := by decide +kernel
theorem dX4_deep_15 : decode cX4_deep 15 = .ok (.iload_n 2, 1) := by decide +kernel
theorem dX4_deep_16 : decode cX4_deep 16 = .ok (.invokevirtual 103, 3) := by decide +kernel
theorem dX4_deep_19 : decode cX4_deep 19 = .ok (.ifCond .eq 18, 3) := by decide +kernel
theorem dX4_deep_22 : decode cX4_deep 22 = .ok (.iload_n 1, 1) := by decide +kernel
theorem dX4_deep_23 : decode cX4_deep 23 = .ok (.iload_n 2, 1) := by decide +kernel
theorem dX4_deep_24 : decode cX4_deep 24 = .ok (.if_icmp .eq 13, 3) := by decide +kernel
theorem dX4_deep_27 : decode cX4_deep 27 = .ok (.iload_n 3, 1) := by decide +kernel
theorem dX4_deep_28 : decode cX4_deep 28 = .ok (.iconst 0, 1) := by decide +kernel
theorem dX4_deep_29 : decode cX4_deep 29 = .ok (.bipush 40, 2) := by decide +kernel
theorem dX4_deep_31 : decode cX4_deep 31 = .ok (.invokestatic 44, 3) := by decide +kernel
theorem dX4_deep_34 : decode cX4_deep 34 = .ok (.ifCond .ne 10, 3) := by decide +kernel
theorem dX4_deep_37 : decode cX4_deep 37 = .ok (.aload_n 0, 1) := by decide +kernel
theorem dX4_deep_38 : decode cX4_deep 38 = .ok (.ldc 48, 2) := by decide +kernel
theorem dX4_deep_40 : decode cX4_deep 40 = .ok (.invokevirtual 49, 3) := by decide +kernel
theorem dX4_deep_43 : decode cX4_deep 43 = .ok (.ireturn, 1) := by decide +kernel
theorem dX4_deep_44 : decode cX4_deep 44 = .ok (.iconst 1, 1) := by decide +kernel
theorem dX4_deep_45 : decode cX4_deep 45 = .ok (.istore 4, 2) := by decide +kernel
theorem dX4_deep_47 : decode cX4_deep 47 = .ok (.iload 4, 2) := by decide +kernel
theorem dX4_deep_49 : decode cX4_deep 49 = .ok (.bipush 9, 2) := by decide +kernel
theorem dX4_deep_51 : decode cX4_deep 51 = .ok (.if_icmp .gt 62, 3) := by decide +kernel
theorem dX4_deep_54 : decode cX4_deep 54 = .ok (.aload_n 0, 1) := by decide +kernel
theorem dX4_deep_55 : decode cX4_deep 55 = .ok (.getfield 16, 3) := by decide +kernel
theorem dX4_deep_58 : decode cX4_deep 58 = .ok (.aload_n 0, 1) := by decide +kernel
theorem dX4_deep_59 : decode cX4_deep 59 = .ok (.getfield 10, 3) := by decide +kernel
theorem dX4_deep_62 : decode cX4_deep 62 = .ok (.invokevirtual 155, 3) := by decide +kernel
theorem dX4_deep_65 : decode cX4_deep 65 = .ok (.aload_n 0, 1) := by decide +kernel
theorem dX4_deep_66 : decode cX4_deep 66 = .ok (.getfield 16, 3) := by decide +kernel
theorem dX4_deep_69 : decode cX4_deep 69 = .ok (.getfield 112, 3) := by decide +kernel
theorem dX4_deep_72 : decode cX4_deep 72 = .ok (.iload_n 1, 1) := by decide +kernel
theorem dX4_deep_73 : decode cX4_deep 73 = .ok (.iload 4, 2) := by decide +kernel
theorem dX4_deep_75 : decode cX4_deep 75 = .ok (.iastore, 1) := by decide +kernel
theorem dX4_deep_76 : decode cX4_deep 76 = .ok (.aload_n 0, 1) := by decide +kernel
theorem dX4_deep_77 : decode cX4_deep 77 = .ok (.getfield 16, 3) := by decide +kernel
theorem dX4_deep_80 : decode cX4_deep 80 = .ok (.iload_n 3, 1) := by decide +kernel
theorem dX4_deep_81 : decode cX4_deep 81 = .ok (.invokevirtual 151, 3) := by decide +kernel
theorem dX4_deep_84 : decode cX4_deep 84 = .ok (.aload_n 0, 1) := by decide +kernel
theorem dX4_deep_85 : decode cX4_deep 85 = .ok (.getfield 16, 3) := by decide +kernel
theorem dX4_deep_88 : decode cX4_deep 88 = .ok (.iload_n 2, 1) := by decide +kernel
theorem dX4_deep_89 : decode cX4_deep 89 = .ok (.aload_n 0, 1) := by decide +kernel
theorem dX4_deep_90 : decode cX4_deep 90 = .ok (.getfield 16, 3) := by decide +kernel
theorem dX4_deep_93 : decode cX4_deep 93 = .ok (.getfield 84, 3) := by decide +kernel
theorem dX4_deep_96 : decode cX4_deep 96 = .ok (.iload_n 1, 1) := by decide +kernel
theorem dX4_deep_97 : decode cX4_deep 97 = .ok (.iaload, 1) := by decide +kernel
theorem dX4_deep_98 : decode cX4_deep 98 = .ok (.invokevirtual 159, 3) := by decide +kernel
theorem dX4_deep_101 : decode cX4_deep 101 = .ok (.ifCond .eq 6, 3) := by decide +kernel
theorem dX4_deep_104 : decode cX4_deep 104 = .ok (.iload 4, 2) := by decide +kernel
theorem dX4_deep_106 : decode cX4_deep 106 = .ok (.ireturn, 1) := by decide +kernel
theorem dX4_deep_107 : decode cX4_deep 107 = .ok (.iinc 4 1, 3) := by decide +kernel
theorem dX4_deep_110 : decode cX4_deep 110 = .ok (.goto (-63), 3) := by decide +kernel
theorem dX4_deep_113 : decode cX4_deep 113 = .ok (.aload_n 0, 1) := by decide +kernel
theorem dX4_deep_114 : decode cX4_deep 114 = .ok (.ldc 83, 2) := by decide +kernel
theorem dX4_deep_116 : decode cX4_deep 116 = .ok (.invokevirtual 49, 3) := by decide +kernel
theorem dX4_deep_119 : decode cX4_deep 119 = .ok (.ireturn, 1) := by decide +kernel
theorem dX4_shift_0 : decode cX4_shift 0 = .ok (.iload_n 1, 1) := by decide +kernel
theorem dX4_shift_1 : decode cX4_shift 1 = .ok (.iconst 1, 1) := by decide +kernel
theorem dX4_shift_2 : decode cX4_shift 2 = .ok (.bipush 40, 2) := by decide +kernel
theorem dX4_shift_4 : decode cX4_shift 4 = .ok (.invokestatic 44, 3) := by decide +kernel
theorem dX4_shift_7 : decode cX4_shift 7 = .ok (.ifCond .ne 10, 3) := by decide +kernel
theorem dX4_shift_10 : decode cX4_shift 10 = .ok (.aload_n 0, 1) := by decide +kernel
theorem dX4_shift_11 : decode cX4_shift 11 = .ok (.ldc 48, 2) := by decide +kernel
theorem dX4_shift_13 : decode cX4_shift 13 = .ok (.invokevirtual 49, 3) := by decide +kernel
theorem dX4_shift_16 : decode cX4_shift 16 = .ok (.ireturn, 1) := by decide +kernel
theorem dX4_shift_17 : decode cX4_shift 17 = .ok (.aload_n 0, 1) := by decide +kernel
theorem dX4_shift_18 : decode cX4_shift 18 = .ok (.getfield 10, 3) := by decide +kernel
theorem dX4_shift_21 : decode cX4_shift 21 = .ok (.invokevirtual 174, 3) := by decide +kernel
theorem dX4_shift_24 : decode cX4_shift 24 = .ok (.istore_n 2, 1) := by decide +kernel
theorem dX4_shift_25 : decode cX4_shift 25 = .ok (.aload_n 0, 1) := by decide +kernel
theorem dX4_shift_26 : decode cX4_shift 26 = .ok (.getfield 10, 3) := by decide +kernel
theorem dX4_shift_29 : decode cX4_shift 29 = .ok (.getfield 177, 3) := by decide +kernel
theorem dX4_shift_32 : decode cX4_shift 32 = .ok (.ifCond .eq 9, 3) := by decide +kernel
theorem dX4_shift_35 : decode cX4_shift 35 = .ok (.iload_n 2, 1) := by decide +kernel
theorem dX4_shift_36 : decode cX4_shift 36 = .ok (.bipush 12, 2) := by decide +kernel
theorem dX4_shift_38 : decode cX4_shift 38 = .ok (.if_icmp .ne 10, 3) := by decide +kernel
theorem dX4_shift_41 : decode cX4_shift 41 = .ok (.aload_n 0, 1) := by decide +kernel
theorem dX4_shift_42 : decode cX4_shift 42 = .ok (.ldc 83, 2) := by decide +kernel
theorem dX4_shift_44 : decode cX4_shift 44 = .ok (.invokevirtual 49, 3) := by decide +kernel
theorem dX4_shift_47 : decode cX4_shift 47 = .ok (.ireturn, 1) := by decide +kernel
theorem dX4_shift_48 : decode cX4_shift 48 = .ok (.iconst 0, 1) := by decide +kernel
theorem dX4_shift_49 : decode cX4_shift 49 = .ok (.istore_n 3, 1) := by decide +kernel
theorem dX4_shift_50 : decode cX4_shift 50 = .ok (.iconst (-1), 1) := by decide +kernel
theorem dX4_shift_51 : decode cX4_shift 51 = .ok (.istore 4, 2) := by decide +kernel
theorem dX4_shift_53 : decode cX4_shift 53 = .ok (.iconst 0, 1) := by decide +kernel
theorem dX4_shift_54 : decode cX4_shift 54 = .ok (.istore 5, 2) := by decide +kernel
theorem dX4_shift_56 : decode cX4_shift 56 = .ok (.iload 5, 2) := by decide +kernel
theorem dX4_shift_58 : decode cX4_shift 58 = .ok (.aload_n 0, 1) := by decide +kernel
theorem dX4_shift_59 : decode cX4_shift 59 = .ok (.getfield 10, 3) := by decide +kernel
theorem dX4_shift_62 : decode cX4_shift 62 = .ok (.getfield 177, 3) := by decide +kernel
theorem dX4_shift_65 : decode cX4_shift 65 = .ok (.if_icmp .ge 61, 3) := by decide +kernel
theorem dX4_shift_68 : decode cX4_shift 68 = .ok (.aload_n 0, 1) := by decide +kernel
theorem dX4_shift_69 : decode cX4_shift 69 = .ok (.getfield 16, 3) := by decide +kernel
theorem dX4_shift_72 : decode cX4_shift 72 = .ok (.aload_n 0, 1) := by decide +kernel
theorem dX4_shift_73 : decode cX4_shift 73 = .ok (.getfield 10, 3) := by decide +kernel
theorem dX4_shift_76 : decode cX4_shift 76 = .ok (.invokevirtual 155, 3) := by decide +kernel
theorem dX4_shift_79 : decode cX4_shift 79 = .ok (.aload_n 0, 1) := by decide +kernel
theorem dX4_shift_80 : decode cX4_shift 80 = .ok (.getfield 16, 3) := by decide +kernel
theorem dX4_shift_83 : decode cX4_shift 83 = .ok (.iload 5, 2) := by decide +kernel
theorem dX4_shift_85 : decode cX4_shift 85 = .ok (.iload_n 2, 1) := by decide +kernel
theorem dX4_shift_86 : decode cX4_shift 86 = .ok (.invokevirtual 142, 3) := by decide +kernel
theorem dX4_shift_89 : decode cX4_shift 89 = .ok (.aload_n 0, 1) := by decide +kernel
theorem dX4_shift_90 : decode cX4_shift 90 = .ok (.getfield 16, 3) := by decide +kernel
theorem dX4_shift_93 : decode cX4_shift 93 = .ok (.iload_n 1, 1) := by decide +kernel
theorem dX4_shift_94 : decode cX4_shift 94 = .ok (.invokevirtual 151, 3) := by decide +kernel
theorem dX4_shift_97 : decode cX4_shift 97 = .ok (.aload_n 0, 1) := by decide +kernel
theorem dX4_shift_98 : decode cX4_shift 98 = .ok (.getfield 16, 3) := by decide +kernel
theorem dX4_shift_101 : decode cX4_shift 101 = .ok (.invokevirtual 70, 3) := by decide +kernel
theorem dX4_shift_104 : decode cX4_shift 104 = .ok (.istore 6, 2) := by decide +kernel
theorem dX4_shift_106 : decode cX4_shift 106 = .ok (.iload 6, 2) := by decide +kernel
theorem dX4_shift_108 : decode cX4_shift 108 = .ok (.iload 4, 2) := by decide +kernel
theorem dX4_shift_110 : decode cX4_shift 110 = .ok (.if_icmp .le 10, 3) := by decide +kernel
theorem dX4_shift_113 : decode cX4_shift 113 = .ok (.iload 6, 2) := by decide +kernel
theorem dX4_shift_115 : decode cX4_shift 115 = .ok (.istore 4, 2) := by decide +kernel
theorem dX4_shift_117 : decode cX4_shift 117 = .ok (.iload 5, 2) := by decide +kernel
theorem dX4_shift_119 : decode cX4_shift 119 = .ok (.istore_n 3, 1) := by decide +kernel
theorem dX4_shift_120 : decode cX4_shift 120 = .ok (.iinc 5 1, 3) := by decide +kernel
theorem dX4_shift_123 : decode cX4_shift 123 = .ok (.goto (-67), 3) := by decide +kernel
theorem dX4_shift_126 : decode cX4_shift 126 = .ok (.iload_n 3, 1) := by decide +kernel
theorem dX4_shift_127 : decode cX4_shift 127 = .ok (.ireturn, 1) := by decide +kernel
theorem dX4_bears_0 : decode cX4_bears 0 = .ok (.aload_n 0, 1) := by decide +kernel
theorem dX4_bears_1 : decode cX4_bears 1 = .ok (.getfield 10, 3) := by decide +kernel
theorem dX4_bears_4 : decode cX4_bears 4 = .ok (.iload_n 1, 1) := by decide +kernel
theorem dX4_bears_5 : decode cX4_bears 5 = .ok (.invokevirtual 103, 3) := by decide +kernel
theorem dX4_bears_8 : decode cX4_bears 8 = .ok (.ifCond .eq 23, 3) := by decide +kernel
theorem dX4_bears_11 : decode cX4_bears 11 = .ok (.iload_n 2, 1) := by decide +kernel
theorem dX4_bears_12 : decode cX4_bears 12 = .ok (.iconst 0, 1) := by decide +kernel
theorem dX4_bears_13 : decode cX4_bears 13 = .ok (.bipush 40, 2) := by decide +kernel
theorem dX4_bears_15 : decode cX4_bears 15 = .ok (.invokestatic 44, 3) := by decide +kernel
theorem dX4_bears_18 : decode cX4_bears 18 = .ok (.ifCond .eq 13, 3) := by decide +kernel
theorem dX4_bears_21 : decode cX4_bears 21 = .ok (.iload_n 3, 1) := by decide +kernel
theorem dX4_bears_22 : decode cX4_bears 22 = .ok (.iconst 0, 1) := by decide +kernel
theorem dX4_bears_23 : decode cX4_bears 23 = .ok (.bipush 10, 2) := by decide +kernel
theorem dX4_bears_25 : decode cX4_bears 25 = .ok (.invokestatic 44, 3) := by decide +kernel
theorem dX4_bears_28 : decode cX4_bears 28 = .ok (.ifCond .ne 10, 3) := by decide +kernel
theorem dX4_bears_31 : decode cX4_bears 31 = .ok (.aload_n 0, 1) := by decide +kernel
theorem dX4_bears_32 : decode cX4_bears 32 = .ok (.ldc 48, 2) := by decide +kernel
theorem dX4_bears_34 : decode cX4_bears 34 = .ok (.invokevirtual 49, 3) := by decide +kernel
theorem dX4_bears_37 : decode cX4_bears 37 = .ok (.ireturn, 1) := by decide +kernel
theorem dX4_bears_38 : decode cX4_bears 38 = .ok (.bipush 99, 2) := by decide +kernel
theorem dX4_bears_40 : decode cX4_bears 40 = .ok (.istore 4, 2) := by decide +kernel
theorem dX4_bears_42 : decode cX4_bears 42 = .ok (.iload 4, 2) := by decide +kernel
theorem dX4_bears_44 : decode cX4_bears 44 = .ok (.ifCond .lt 54, 3) := by decide +kernel
theorem dX4_bears_47 : decode cX4_bears 47 = .ok (.aload_n 0, 1) := by decide +kernel
theorem dX4_bears_48 : decode cX4_bears 48 = .ok (.getfield 16, 3) := by decide +kernel
theorem dX4_bears_51 : decode cX4_bears 51 = .ok (.aload_n 0, 1) := by decide +kernel
theorem dX4_bears_52 : decode cX4_bears 52 = .ok (.getfield 10, 3) := by decide +kernel
theorem dX4_bears_55 : decode cX4_bears 55 = .ok (.invokevirtual 155, 3) := by decide +kernel
theorem dX4_bears_58 : decode cX4_bears 58 = .ok (.aload_n 0, 1) := by decide +kernel
theorem dX4_bears_59 : decode cX4_bears 59 = .ok (.getfield 16, 3) := by decide +kernel
theorem dX4_bears_62 : decode cX4_bears 62 = .ok (.getfield 73, 3) := by decide +kernel
theorem dX4_bears_65 : decode cX4_bears 65 = .ok (.iload_n 1, 1) := by decide +kernel
theorem dX4_bears_66 : decode cX4_bears 66 = .ok (.iload 4, 2) := by decide +kernel
theorem dX4_bears_68 : decode cX4_bears 68 = .ok (.iastore, 1) := by decide +kernel
theorem dX4_bears_69 : decode cX4_bears 69 = .ok (.aload_n 0, 1) := by decide +kernel
theorem dX4_bears_70 : decode cX4_bears 70 = .ok (.getfield 16, 3) := by decide +kernel
theorem dX4_bears_73 : decode cX4_bears 73 = .ok (.iload_n 2, 1) := by decide +kernel
theorem dX4_bears_74 : decode cX4_bears 74 = .ok (.invokevirtual 151, 3) := by decide +kernel
theorem dX4_bears_77 : decode cX4_bears 77 = .ok (.aload_n 0, 1) := by decide +kernel
theorem dX4_bears_78 : decode cX4_bears 78 = .ok (.getfield 16, 3) := by decide +kernel
theorem dX4_bears_81 : decode cX4_bears 81 = .ok (.iload_n 1, 1) := by decide +kernel
theorem dX4_bears_82 : decode cX4_bears 82 = .ok (.invokevirtual 171, 3) := by decide +kernel
theorem dX4_bears_85 : decode cX4_bears 85 = .ok (.iload_n 3, 1) := by decide +kernel
theorem dX4_bears_86 : decode cX4_bears 86 = .ok (.if_icmp .lt 6, 3) := by decide +kernel
theorem dX4_bears_89 : decode cX4_bears 89 = .ok (.iload 4, 2) := by decide +kernel
theorem dX4_bears_91 : decode cX4_bears 91 = .ok (.ireturn, 1) := by decide +kernel
theorem dX4_bears_92 : decode cX4_bears 92 = .ok (.iinc 4 (-1), 3) := by decide +kernel
theorem dX4_bears_95 : decode cX4_bears 95 = .ok (.goto (-53), 3) := by decide +kernel
theorem dX4_bears_98 : decode cX4_bears 98 = .ok (.aload_n 0, 1) := by decide +kernel
theorem dX4_bears_99 : decode cX4_bears 99 = .ok (.ldc 83, 2) := by decide +kernel
theorem dX4_bears_101 : decode cX4_bears 101 = .ok (.invokevirtual 49, 3) := by decide +kernel
theorem dX4_bears_104 : decode cX4_bears 104 = .ok (.ireturn, 1) := by decide +kernel
theorem dX4_wisest_0 : decode cX4_wisest 0 = .ok (.iload_n 1, 1) := by decide +kernel
theorem dX4_wisest_1 : decode cX4_wisest 1 = .ok (.iconst 0, 1) := by decide +kernel
theorem dX4_wisest_2 : decode cX4_wisest 2 = .ok (.bipush 100, 2) := by decide +kernel
theorem dX4_wisest_4 : decode cX4_wisest 4 = .ok (.invokestatic 44, 3) := by decide +kernel
theorem dX4_wisest_7 : decode cX4_wisest 7 = .ok (.ifCond .ne 10, 3) := by decide +kernel
theorem dX4_wisest_10 : decode cX4_wisest 10 = .ok (.aload_n 0, 1) := by decide +kernel
theorem dX4_wisest_11 : decode cX4_wisest 11 = .ok (.ldc 48, 2) := by decide +kernel
theorem dX4_wisest_13 : decode cX4_wisest 13 = .ok (.invokevirtual 49, 3) := by decide +kernel
theorem dX4_wisest_16 : decode cX4_wisest 16 = .ok (.ireturn, 1) := by decide +kernel
theorem dX4_wisest_17 : decode cX4_wisest 17 = .ok (.aload_n 0, 1) := by decide +kernel
theorem dX4_wisest_18 : decode cX4_wisest 18 = .ok (.getfield 10, 3) := by decide +kernel
theorem dX4_wisest_21 : decode cX4_wisest 21 = .ok (.getfield 177, 3) := by decide +kernel
theorem dX4_wisest_24 : decode cX4_wisest 24 = .ok (.ifCond .ne 10, 3) := by decide +kernel
theorem dX4_wisest_27 : decode cX4_wisest 27 = .ok (.aload_n 0, 1) := by decide +kernel
theorem dX4_wisest_28 : decode cX4_wisest 28 = .ok (.ldc 83, 2) := by decide +kernel
theorem dX4_wisest_30 : decode cX4_wisest 30 = .ok (.invokevirtual 49, 3) := by decide +kernel
theorem dX4_wisest_33 : decode cX4_wisest 33 = .ok (.ireturn, 1) := by decide +kernel
theorem dX4_wisest_34 : decode cX4_wisest 34 = .ok (.aload_n 0, 1) := by decide +kernel
theorem dX4_wisest_35 : decode cX4_wisest 35 = .ok (.getfield 16, 3) := by decide +kernel
theorem dX4_wisest_38 : decode cX4_wisest 38 = .ok (.aload_n 0, 1) := by decide +kernel
theorem dX4_wisest_39 : decode cX4_wisest 39 = .ok (.getfield 10, 3) := by decide +kernel
theorem dX4_wisest_42 : decode cX4_wisest 42 = .ok (.invokevirtual 155, 3) := by decide +kernel
theorem dX4_wisest_45 : decode cX4_wisest 45 = .ok (.aload_n 0, 1) := by decide +kernel
theorem dX4_wisest_46 : decode cX4_wisest 46 = .ok (.getfield 16, 3) := by decide +kernel
theorem dX4_wisest_49 : decode cX4_wisest 49 = .ok (.iload_n 1, 1) := by decide +kernel
theorem dX4_wisest_50 : decode cX4_wisest 50 = .ok (.invokevirtual 151, 3) := by decide +kernel
theorem dX4_wisest_53 : decode cX4_wisest 53 = .ok (.iconst 0, 1) := by decide +kernel
theorem dX4_wisest_54 : decode cX4_wisest 54 = .ok (.istore_n 2, 1) := by decide +kernel
theorem dX4_wisest_55 : decode cX4_wisest 55 = .ok (.iconst 1, 1) := by decide +kernel
theorem dX4_wisest_56 : decode cX4_wisest 56 = .ok (.istore_n 3, 1) := by decide +kernel
theorem dX4_wisest_57 : decode cX4_wisest 57 = .ok (.iload_n 3, 1) := by decide +kernel
theorem dX4_wisest_58 : decode cX4_wisest 58 = .ok (.aload_n 0, 1) := by decide +kernel
theorem dX4_wisest_59 : decode cX4_wisest 59 = .ok (.getfield 16, 3) := by decide +kernel
theorem dX4_wisest_62 : decode cX4_wisest 62 = .ok (.getfield 177, 3) := by decide +kernel
theorem dX4_wisest_65 : decode cX4_wisest 65 = .ok (.if_icmp .ge 30, 3) := by decide +kernel
theorem dX4_wisest_68 : decode cX4_wisest 68 = .ok (.aload_n 0, 1) := by decide +kernel
theorem dX4_wisest_69 : decode cX4_wisest 69 = .ok (.getfield 16, 3) := by decide +kernel
theorem dX4_wisest_72 : decode cX4_wisest 72 = .ok (.iload_n 3, 1) := by decide +kernel
theorem dX4_wisest_73 : decode cX4_wisest 73 = .ok (.invokevirtual 171, 3) := by decide +kernel
theorem dX4_wisest_76 : decode cX4_wisest 76 = .ok (.aload_n 0, 1) := by decide +kernel
theorem dX4_wisest_77 : decode cX4_wisest 77 = .ok (.getfield 16, 3) := by decide +kernel
theorem dX4_wisest_80 : decode cX4_wisest 80 = .ok (.iload_n 2, 1) := by decide +kernel
theorem dX4_wisest_81 : decode cX4_wisest 81 = .ok (.invokevirtual 171, 3) := by decide +kernel
theorem dX4_wisest_84 : decode cX4_wisest 84 = .ok (.if_icmp .le 5, 3) := by decide +kernel
theorem dX4_wisest_87 : decode cX4_wisest 87 = .ok (.iload_n 3, 1) := by decide +kernel
theorem dX4_wisest_88 : decode cX4_wisest 88 = .ok (.istore_n 2, 1) := by decide +kernel
theorem dX4_wisest_89 : decode cX4_wisest 89 = .ok (.iinc 3 1, 3) := by decide +kernel
theorem dX4_wisest_92 : decode cX4_wisest 92 = .ok (.goto (-35), 3) := by decide +kernel
theorem dX4_wisest_95 : decode cX4_wisest 95 = .ok (.iload_n 2, 1) := by decide +kernel
theorem dX4_wisest_96 : decode cX4_wisest 96 = .ok (.ireturn, 1) := by decide +kernel
theorem dX4_feed_0 : decode cX4_feed 0 = .ok (.iload_n 2, 1) := by decide +kernel
theorem dX4_feed_1 : decode cX4_feed 1 = .ok (.iconst 1, 1) := by decide +kernel
theorem dX4_feed_2 : decode cX4_feed 2 = .ok (.iconst 4, 1) := by decide +kernel
theorem dX4_feed_3 : decode cX4_feed 3 = .ok (.invokestatic 44, 3) := by decide +kernel
theorem dX4_feed_6 : decode cX4_feed 6 = .ok (.ifCond .ne 10, 3) := by decide +kernel
theorem dX4_feed_9 : decode cX4_feed 9 = .ok (.aload_n 0, 1) := by decide +kernel
theorem dX4_feed_10 : decode cX4_feed 10 = .ok (.ldc 48, 2) := by decide +kernel
theorem dX4_feed_12 : decode cX4_feed 12 = .ok (.invokevirtual 49, 3) := by decide +kernel
theorem dX4_feed_15 : decode cX4_feed 15 = .ok (.ireturn, 1) := by decide +kernel
theorem dX4_feed_16 : decode cX4_feed 16 = .ok (.aload_n 0, 1) := by decide +kernel
theorem dX4_feed_17 : decode cX4_feed 17 = .ok (.getfield 29, 3) := by decide +kernel
theorem dX4_feed_20 : decode cX4_feed 20 = .ok (.getfield 180, 3) := by decide +kernel
theorem dX4_feed_23 : decode cX4_feed 23 = .ok (.iload_n 2, 1) := by decide +kernel
theorem dX4_feed_24 : decode cX4_feed 24 = .ok (.iadd, 1) := by decide +kernel
theorem dX4_feed_25 : decode cX4_feed 25 = .ok (.bipush 120, 2) := by decide +kernel
theorem dX4_feed_27 : decode cX4_feed 27 = .ok (.if_icmp .le 10, 3) := by decide +kernel
theorem dX4_feed_30 : decode cX4_feed 30 = .ok (.aload_n 0, 1) := by decide +kernel
theorem dX4_feed_31 : decode cX4_feed 31 = .ok (.ldc 97, 2) := by decide +kernel
theorem dX4_feed_33 : decode cX4_feed 33 = .ok (.invokevirtual 49, 3) := by decide +kernel
theorem dX4_feed_36 : decode cX4_feed 36 = .ok (.ireturn, 1) := by decide +kernel
theorem dX4_feed_37 : decode cX4_feed 37 = .ok (.iload_n 2, 1) := by decide +kernel
theorem dX4_feed_38 : decode cX4_feed 38 = .ok (.iconst 1, 1) := by decide +kernel
theorem dX4_feed_39 : decode cX4_feed 39 = .ok (.isub, 1) := by decide +kernel
theorem dX4_feed_40 : decode cX4_feed 40 = .ok (.istore_n 3, 1) := by decide +kernel
theorem dX4_feed_41 : decode cX4_feed 41 = .ok (.iload_n 3, 1) := by decide +kernel
theorem dX4_feed_42 : decode cX4_feed 42 = .ok (.ifCond .lt 26, 3) := by decide +kernel
theorem dX4_feed_45 : decode cX4_feed 45 = .ok (.aload_n 0, 1) := by decide +kernel
theorem dX4_feed_46 : decode cX4_feed 46 = .ok (.getfield 29, 3) := by decide +kernel
theorem dX4_feed_49 : decode cX4_feed 49 = .ok (.iload_n 1, 1) := by decide +kernel
theorem dX4_feed_50 : decode cX4_feed 50 = .ok (.bipush 8, 2) := by decide +kernel
theorem dX4_feed_52 : decode cX4_feed 52 = .ok (.iload_n 3, 1) := by decide +kernel
theorem dX4_feed_53 : decode cX4_feed 53 = .ok (.imul, 1) := by decide +kernel
theorem dX4_feed_54 : decode cX4_feed 54 = .ok (.iushr, 1) := by decide +kernel
theorem dX4_feed_55 : decode cX4_feed 55 = .ok (.sipush 255, 3) := by decide +kernel
theorem dX4_feed_58 : decode cX4_feed 58 = .ok (.iand, 1) := by decide +kernel
theorem dX4_feed_59 : decode cX4_feed 59 = .ok (.invokevirtual 183, 3) := by decide +kernel
theorem dX4_feed_62 : decode cX4_feed 62 = .ok (.iinc 3 (-1), 3) := by decide +kernel
theorem dX4_feed_65 : decode cX4_feed 65 = .ok (.goto (-24), 3) := by decide +kernel
theorem dX4_feed_68 : decode cX4_feed 68 = .ok (.aload_n 0, 1) := by decide +kernel
theorem dX4_feed_69 : decode cX4_feed 69 = .ok (.getfield 29, 3) := by decide +kernel
theorem dX4_feed_72 : decode cX4_feed 72 = .ok (.getfield 180, 3) := by decide +kernel
theorem dX4_feed_75 : decode cX4_feed 75 = .ok (.ireturn, 1) := by decide +kernel
theorem dX4_wipe_0 : decode cX4_wipe 0 = .ok (.aload_n 0, 1) := by decide +kernel
theorem dX4_wipe_1 : decode cX4_wipe 1 = .ok (.getfield 29, 3) := by decide +kernel
theorem dX4_wipe_4 : decode cX4_wipe 4 = .ok (.getfield 180, 3) := by decide +kernel
theorem dX4_wipe_7 : decode cX4_wipe 7 = .ok (.istore_n 1, 1) := by decide +kernel
theorem dX4_wipe_8 : decode cX4_wipe 8 = .ok (.aload_n 0, 1) := by decide +kernel
theorem dX4_wipe_9 : decode cX4_wipe 9 = .ok (.getfield 29, 3) := by decide +kernel
theorem dX4_wipe_12 : decode cX4_wipe 12 = .ok (.iconst 0, 1) := by decide +kernel
theorem dX4_wipe_13 : decode cX4_wipe 13 = .ok (.putfield 180, 3) := by decide +kernel
theorem dX4_wipe_16 : decode cX4_wipe 16 = .ok (.iload_n 1, 1) := by decide +kernel
theorem dX4_wipe_17 : decode cX4_wipe 17 = .ok (.ireturn, 1) := by decide +kernel
theorem dX4_chapel_0 : decode cX4_chapel 0 = .ok (.aload_n 0, 1) := by decide +kernel
theorem dX4_chapel_1 : decode cX4_chapel 1 = .ok (.getfield 16, 3) := by decide +kernel
theorem dX4_chapel_4 : decode cX4_chapel 4 = .ok (.aload_n 0, 1) := by decide +kernel
theorem dX4_chapel_5 : decode cX4_chapel 5 = .ok (.getfield 10, 3) := by decide +kernel
theorem dX4_chapel_8 : decode cX4_chapel 8 = .ok (.invokevirtual 155, 3) := by decide +kernel
theorem dX4_chapel_11 : decode cX4_chapel 11 = .ok (.aload_n 0, 1) := by decide +kernel
theorem dX4_chapel_12 : decode cX4_chapel 12 = .ok (.getfield 29, 3) := by decide +kernel
theorem dX4_chapel_15 : decode cX4_chapel 15 = .ok (.aload_n 0, 1) := by decide +kernel
theorem dX4_chapel_16 : decode cX4_chapel 16 = .ok (.getfield 16, 3) := by decide +kernel
theorem dX4_chapel_19 : decode cX4_chapel 19 = .ok (.invokevirtual 186, 3) := by decide +kernel
theorem dX4_chapel_22 : decode cX4_chapel 22 = .ok (.istore_n 1, 1) := by decide +kernel
theorem dX4_chapel_23 : decode cX4_chapel 23 = .ok (.aload_n 0, 1) := by decide +kernel
theorem dX4_chapel_24 : decode cX4_chapel 24 = .ok (.getfield 29, 3) := by decide +kernel
theorem dX4_chapel_27 : decode cX4_chapel 27 = .ok (.iconst 0, 1) := by decide +kernel
theorem dX4_chapel_28 : decode cX4_chapel 28 = .ok (.putfield 180, 3) := by decide +kernel
theorem dX4_chapel_31 : decode cX4_chapel 31 = .ok (.iload_n 1, 1) := by decide +kernel
theorem dX4_chapel_32 : decode cX4_chapel 32 = .ok (.ifCond .lt 14, 3) := by decide +kernel
theorem dX4_chapel_35 : decode cX4_chapel 35 = .ok (.aload_n 0, 1) := by decide +kernel
theorem dX4_chapel_36 : decode cX4_chapel 36 = .ok (.getfield 10, 3) := by decide +kernel
theorem dX4_chapel_39 : decode cX4_chapel 39 = .ok (.aload_n 0, 1) := by decide +kernel
theorem dX4_chapel_40 : decode cX4_chapel 40 = .ok (.getfield 16, 3) := by decide +kernel
theorem dX4_chapel_43 : decode cX4_chapel 43 = .ok (.invokevirtual 155, 3) := by decide +kernel
theorem dX4_chapel_46 : decode cX4_chapel 46 = .ok (.iload_n 1, 1) := by decide +kernel
theorem dX4_chapel_47 : decode cX4_chapel 47 = .ok (.ireturn, 1) := by decide +kernel
theorem dX4_sheet_0 : decode cX4_sheet 0 = .ok (.iload_n 1, 1) := by decide +kernel
theorem dX4_sheet_1 : decode cX4_sheet 1 = .ok (.invokestatic 190, 3) := by decide +kernel
theorem dX4_sheet_4 : decode cX4_sheet 4 = .ok (.ifCond .eq 25, 3) := by decide +kernel
theorem dX4_sheet_7 : decode cX4_sheet 7 = .ok (.iload_n 2, 1) := by decide +kernel
theorem dX4_sheet_8 : decode cX4_sheet 8 = .ok (.ifCond .eq 28, 3) := by decide +kernel
theorem dX4_sheet_11 : decode cX4_sheet 11 = .ok (.iload_n 2, 1) := by decide +kernel
theorem dX4_sheet_12 : decode cX4_sheet 12 = .ok (.bipush 8, 2) := by decide +kernel
theorem dX4_sheet_14 : decode cX4_sheet 14 = .ok (.if_icmp .eq 22, 3) := by decide +kernel
theorem dX4_sheet_17 : decode cX4_sheet 17 = .ok (.iload_n 2, 1) := by decide +kernel
theorem dX4_sheet_18 : decode cX4_sheet 18 = .ok (.bipush 16, 2) := by decide +kernel
theorem dX4_sheet_20 : decode cX4_sheet 20 = .ok (.if_icmp .eq 16, 3) := by decide +kernel
theorem dX4_sheet_23 : decode cX4_sheet 23 = .ok (.iload_n 2, 1) := by decide +kernel
theorem dX4_sheet_24 : decode cX4_sheet 24 = .ok (.bipush 64, 2) := by decide +kernel
theorem dX4_sheet_26 : decode cX4_sheet 26 = .ok (.if_icmp .eq 10, 3) := by decide +kernel
theorem dX4_sheet_29 : decode cX4_sheet 29 = .ok (.aload_n 0, 1) := by decide +kernel
theorem dX4_sheet_30 : decode cX4_sheet 30 = .ok (.ldc 48, 2) := by decide +kernel
theorem dX4_sheet_32 : decode cX4_sheet 32 = .ok (.invokevirtual 49, 3) := by decide +kernel
theorem dX4_sheet_35 : decode cX4_sheet 35 = .ok (.ireturn, 1) := by decide +kernel
theorem dX4_sheet_36 : decode cX4_sheet 36 = .ok (.iload_n 3, 1) := by decide +kernel
theorem dX4_sheet_37 : decode cX4_sheet 37 = .ok (.ifCond .ge 10, 3) := by decide +kernel
theorem dX4_sheet_40 : decode cX4_sheet 40 = .ok (.aload_n 0, 1) := by decide +kernel
theorem dX4_sheet_41 : decode cX4_sheet 41 = .ok (.ldc 193, 2) := by decide +kernel
theorem dX4_sheet_43 : decode cX4_sheet 43 = .ok (.invokevirtual 49, 3) := by decide +kernel
theorem dX4_sheet_46 : decode cX4_sheet 46 = .ok (.ireturn, 1) := by decide +kernel
theorem dX4_sheet_47 : decode cX4_sheet 47 = .ok (.iload_n 3, 1) := by decide +kernel
theorem dX4_sheet_48 : decode cX4_sheet 48 = .ok (.bipush 40, 2) := by decide +kernel
theorem dX4_sheet_50 : decode cX4_sheet 50 = .ok (.if_icmp .le 10, 3) := by decide +kernel
theorem dX4_sheet_53 : decode cX4_sheet 53 = .ok (.aload_n 0, 1) := by decide +kernel
theorem dX4_sheet_54 : decode cX4_sheet 54 = .ok (.ldc 48, 2) := by decide +kernel
theorem dX4_sheet_56 : decode cX4_sheet 56 = .ok (.invokevirtual 49, 3) := by decide +kernel
theorem dX4_sheet_59 : decode cX4_sheet 59 = .ok (.ireturn, 1) := by decide +kernel
theorem dX4_sheet_60 : decode cX4_sheet 60 = .ok (.aload_n 0, 1) := by decide +kernel
theorem dX4_sheet_61 : decode cX4_sheet 61 = .ok (.getfield 35, 3) := by decide +kernel
theorem dX4_sheet_64 : decode cX4_sheet 64 = .ok (.iload_n 1, 1) := by decide +kernel
theorem dX4_sheet_65 : decode cX4_sheet 65 = .ok (.aaload, 1) := by decide +kernel
theorem dX4_sheet_66 : decode cX4_sheet 66 = .ok (.iload_n 2, 1) := by decide +kernel
theorem dX4_sheet_67 : decode cX4_sheet 67 = .ok (.iload_n 3, 1) := by decide +kernel
theorem dX4_sheet_68 : decode cX4_sheet 68 = .ok (.invokevirtual 194, 3) := by decide +kernel
theorem dX4_sheet_71 : decode cX4_sheet 71 = .ok (.aload_n 0, 1) := by decide +kernel
theorem dX4_sheet_72 : decode cX4_sheet 72 = .ok (.getfield 35, 3) := by decide +kernel
theorem dX4_sheet_75 : decode cX4_sheet 75 = .ok (.iload_n 1, 1) := by decide +kernel
theorem dX4_sheet_76 : decode cX4_sheet 76 = .ok (.aaload, 1) := by decide +kernel
theorem dX4_sheet_77 : decode cX4_sheet 77 = .ok (.getfield 197, 3) := by decide +kernel
theorem dX4_sheet_80 : decode cX4_sheet 80 = .ok (.ireturn, 1) := by decide +kernel
theorem dX4_write_0 : decode cX4_write 0 = .ok (.iload_n 1, 1) := by decide +kernel
theorem dX4_write_1 : decode cX4_write 1 = .ok (.invokestatic 190, 3) := by decide +kernel
theorem dX4_write_4 : decode cX4_write 4 = .ok (.ifCond .ne 11, 3) := by decide +kernel
theorem dX4_write_7 : decode cX4_write 7 = .ok (.aload_n 0, 1) := by decide +kernel
theorem dX4_write_8 : decode cX4_write 8 = .ok (.ldc 48, 2) := by decide +kernel
theorem dX4_write_10 : decode cX4_write 10 = .ok (.invokevirtual 49, 3) := by decide +kernel
theorem dX4_write_13 : decode cX4_write 13 = .ok (.i2l, 1) := by decide +kernel
theorem dX4_write_14 : decode cX4_write 14 = .ok (.lreturn, 1) := by decide +kernel
theorem dX4_write_15 : decode cX4_write 15 = .ok (.aload_n 0, 1) := by decide +kernel
theorem dX4_write_16 : decode cX4_write 16 = .ok (.getfield 35, 3) := by decide +kernel
theorem dX4_write_19 : decode cX4_write 19 = .ok (.iload_n 1, 1) := by decide +kernel
theorem dX4_write_20 : decode cX4_write 20 = .ok (.aaload, 1) := by decide +kernel
theorem dX4_write_21 : decode cX4_write 21 = .ok (.astore 5, 2) := by decide +kernel
theorem dX4_write_23 : decode cX4_write 23 = .ok (.aload 5, 2) := by decide +kernel
theorem dX4_write_25 : decode cX4_write 25 = .ok (.invokevirtual 198, 3) := by decide +kernel
theorem dX4_write_28 : decode cX4_write 28 = .ok (.ifCond .eq 11, 3) := by decide +kernel
theorem dX4_write_31 : decode cX4_write 31 = .ok (.aload_n 0, 1) := by decide +kernel
theorem dX4_write_32 : decode cX4_write 32 = .ok (.ldc 201, 2) := by decide +kernel
theorem dX4_write_34 : decode cX4_write 34 = .ok (.invokevirtual 49, 3) := by decide +kernel
theorem dX4_write_37 : decode cX4_write 37 = .ok (.i2l, 1) := by decide +kernel
theorem dX4_write_38 : decode cX4_write 38 = .ok (.lreturn, 1) := by decide +kernel
theorem dX4_write_39 : decode cX4_write 39 = .ok (.iload_n 2, 1) := by decide +kernel
theorem dX4_write_40 : decode cX4_write 40 = .ok (.iconst 0, 1) := by decide +kernel
theorem dX4_write_41 : decode cX4_write 41 = .ok (.aload 5, 2) := by decide +kernel
theorem dX4_write_43 : decode cX4_write 43 = .ok (.getfield 197, 3) := by decide +kernel
theorem dX4_write_46 : decode cX4_write 46 = .ok (.iconst 1, 1) := by decide +kernel
theorem dX4_write_47 : decode cX4_write 47 = .ok (.isub, 1) := by decide +kernel
theorem dX4_write_48 : decode cX4_write 48 = .ok (.invokestatic 44, 3) := by decide +kernel
theorem dX4_write_51 : decode cX4_write 51 = .ok (.ifCond .ne 11, 3) := by decide +kernel
theorem dX4_write_54 : decode cX4_write 54 = .ok (.aload_n 0, 1) := by decide +kernel
theorem dX4_write_55 : decode cX4_write 55 = .ok (.ldc 48, 2) := by decide +kernel
theorem dX4_write_57 : decode cX4_write 57 = .ok (.invokevirtual 49, 3) := by decide +kernel
theorem dX4_write_60 : decode cX4_write 60 = .ok (.i2l, 1) := by decide +kernel
theorem dX4_write_61 : decode cX4_write 61 = .ok (.lreturn, 1) := by decide +kernel
theorem dX4_write_62 : decode cX4_write 62 = .ok (.aload 5, 2) := by decide +kernel
theorem dX4_write_64 : decode cX4_write 64 = .ok (.getfield 202, 3) := by decide +kernel
theorem dX4_write_67 : decode cX4_write 67 = .ok (.iload_n 2, 1) := by decide +kernel
theorem dX4_write_68 : decode cX4_write 68 = .ok (.laload, 1) := by decide +kernel
theorem dX4_write_69 : decode cX4_write 69 = .ok (.lstore 6, 2) := by decide +kernel
theorem dX4_write_71 : decode cX4_write 71 = .ok (.aload 5, 2) := by decide +kernel
theorem dX4_write_73 : decode cX4_write 73 = .ok (.iload_n 2, 1) := by decide +kernel
theorem dX4_write_74 : decode cX4_write 74 = .ok (.lload_n 3, 1) := by decide +kernel
theorem dX4_write_75 : decode cX4_write 75 = .ok (.invokevirtual 206, 3) := by decide +kernel
theorem dX4_write_78 : decode cX4_write 78 = .ok (.lload 6, 2) := by decide +kernel
theorem dX4_write_80 : decode cX4_write 80 = .ok (.lreturn, 1) := by decide +kernel
theorem dX4_copy_0 : decode cX4_copy 0 = .ok (.iload_n 1, 1) := by decide +kernel
theorem dX4_copy_1 : decode cX4_copy 1 = .ok (.invokestatic 190, 3) := by decide +kernel
theorem dX4_copy_4 : decode cX4_copy 4 = .ok (.ifCond .eq 10, 3) := by decide +kernel
theorem dX4_copy_7 : decode cX4_copy 7 = .ok (.iload_n 3, 1) := by decide +kernel
theorem dX4_copy_8 : decode cX4_copy 8 = .ok (.invokestatic 190, 3) := by decide +kernel
theorem dX4_copy_11 : decode cX4_copy 11 = .ok (.ifCond .ne 10, 3) := by decide +kernel
theorem dX4_copy_14 : decode cX4_copy 14 = .ok (.aload_n 0, 1) := by decide +kernel
theorem dX4_copy_15 : decode cX4_copy 15 = .ok (.ldc 48, 2) := by decide +kernel
theorem dX4_copy_17 : decode cX4_copy 17 = .ok (.invokevirtual 49, 3) := by decide +kernel
theorem dX4_copy_20 : decode cX4_copy 20 = .ok (.ireturn, 1) := by decide +kernel
theorem dX4_copy_21 : decode cX4_copy 21 = .ok (.aload_n 0, 1) := by decide +kernel
theorem dX4_copy_22 : decode cX4_copy 22 = .ok (.getfield 35, 3) := by decide +kernel
theorem dX4_copy_25 : decode cX4_copy 25 = .ok (.iload_n 1, 1) := by decide +kernel
theorem dX4_copy_26 : decode cX4_copy 26 = .ok (.aaload, 1) := by decide +kernel
theorem dX4_copy_27 : decode cX4_copy 27 = .ok (.astore 6, 2) := by decide +kernel
theorem dX4_copy_29 : decode cX4_copy 29 = .ok (.aload_n 0, 1) := by decide +kernel
theorem dX4_copy_30 : decode cX4_copy 30 = .ok (.getfield 35, 3) := by decide +kernel
theorem dX4_copy_33 : decode cX4_copy 33 = .ok (.iload_n 3, 1) := by decide +kernel
theorem dX4_copy_34 : decode cX4_copy 34 = .ok (.aaload, 1) := by decide +kernel
theorem dX4_copy_35 : decode cX4_copy 35 = .ok (.astore 7, 2) := by decide +kernel
theorem dX4_copy_37 : decode cX4_copy 37 = .ok (.aload 6, 2) := by decide +kernel
theorem dX4_copy_39 : decode cX4_copy 39 = .ok (.invokevirtual 198, 3) := by decide +kernel
theorem dX4_copy_42 : decode cX4_copy 42 = .ok (.ifCond .ne 11, 3) := by decide +kernel
theorem dX4_copy_45 : decode cX4_copy 45 = .ok (.aload 7, 2) := by decide +kernel
theorem dX4_copy_47 : decode cX4_copy 47 = .ok (.invokevirtual 198, 3) := by decide +kernel
theorem dX4_copy_50 : decode cX4_copy 50 = .ok (.ifCond .eq 10, 3) := by decide +kernel
theorem dX4_copy_53 : decode cX4_copy 53 = .ok (.aload_n 0, 1) := by decide +kernel
theorem dX4_copy_54 : decode cX4_copy 54 = .ok (.ldc 201, 2) := by decide +kernel
theorem dX4_copy_56 : decode cX4_copy 56 = .ok (.invokevirtual 49, 3) := by decide +kernel
theorem dX4_copy_59 : decode cX4_copy 59 = .ok (.ireturn, 1) := by decide +kernel
theorem dX4_copy_60 : decode cX4_copy 60 = .ok (.aload 6, 2) := by decide +kernel
theorem dX4_copy_62 : decode cX4_copy 62 = .ok (.getfield 210, 3) := by decide +kernel
theorem dX4_copy_65 : decode cX4_copy 65 = .ok (.aload 7, 2) := by decide +kernel
theorem dX4_copy_67 : decode cX4_copy 67 = .ok (.getfield 210, 3) := by decide +kernel
theorem dX4_copy_70 : decode cX4_copy 70 = .ok (.if_icmp .eq 10, 3) := by decide +kernel
theorem dX4_copy_73 : decode cX4_copy 73 = .ok (.aload_n 0, 1) := by decide +kernel
theorem dX4_copy_74 : decode cX4_copy 74 = .ok (.ldc 149, 2) := by decide +kernel
theorem dX4_copy_76 : decode cX4_copy 76 = .ok (.invokevirtual 49, 3) := by decide +kernel
theorem dX4_copy_79 : decode cX4_copy 79 = .ok (.ireturn, 1) := by decide +kernel
theorem dX4_copy_80 : decode cX4_copy 80 = .ok (.aload 6, 2) := by decide +kernel
theorem dX4_copy_82 : decode cX4_copy 82 = .ok (.iload_n 2, 1) := by decide +kernel
theorem dX4_copy_83 : decode cX4_copy 83 = .ok (.iload 5, 2) := by decide +kernel
theorem dX4_copy_85 : decode cX4_copy 85 = .ok (.invokevirtual 213, 3) := by decide +kernel
theorem dX4_copy_88 : decode cX4_copy 88 = .ok (.ifCond .eq 15, 3) := by decide +kernel
theorem dX4_copy_91 : decode cX4_copy 91 = .ok (.aload 7, 2) := by decide +kernel
theorem dX4_copy_93 : decode cX4_copy 93 = .ok (.iload 4, 2) := by decide +kernel
theorem dX4_copy_95 : decode cX4_copy 95 = .ok (.iload 5, 2) := by decide +kernel
theorem dX4_copy_97 : decode cX4_copy 97 = .ok (.invokevirtual 213, 3) := by decide +kernel
theorem dX4_copy_100 : decode cX4_copy 100 = .ok (.ifCond .ne 10, 3) := by decide +kernel
theorem dX4_copy_103 : decode cX4_copy 103 = .ok (.aload_n 0, 1) := by decide +kernel
theorem dX4_copy_104 : decode cX4_copy 104 = .ok (.ldc 48, 2) := by decide +kernel
theorem dX4_copy_106 : decode cX4_copy 106 = .ok (.invokevirtual 49, 3) := by decide +kernel
theorem dX4_copy_109 : decode cX4_copy 109 = .ok (.ireturn, 1) := by decide +kernel
theorem dX4_copy_110 : decode cX4_copy 110 = .ok (.aload 6, 2) := by decide +kernel
theorem dX4_copy_112 : decode cX4_copy 112 = .ok (.getfield 202, 3) := by decide +kernel
theorem dX4_copy_115 : decode cX4_copy 115 = .ok (.iload_n 2, 1) := by decide +kernel
theorem dX4_copy_116 : decode cX4_copy 116 = .ok (.aload 7, 2) := by decide +kernel
theorem dX4_copy_118 : decode cX4_copy 118 = .ok (.getfield 202, 3) := by decide +kernel
theorem dX4_copy_121 : decode cX4_copy 121 = .ok (.iload 4, 2) := by decide +kernel
theorem dX4_copy_123 : decode cX4_copy 123 = .ok (.iload 5, 2) := by decide +kernel
theorem dX4_copy_125 : decode cX4_copy 125 = .ok (.invokestatic 216, 3) := by decide +kernel
theorem dX4_copy_128 : decode cX4_copy 128 = .ok (.iload 5, 2) := by decide +kernel
theorem dX4_copy_130 : decode cX4_copy 130 = .ok (.ireturn, 1) := by decide +kernel
theorem dX4_lays_0 : decode cX4_lays 0 = .ok (.iload_n 1, 1) := by decide +kernel
theorem dX4_lays_1 : decode cX4_lays 1 = .ok (.invokestatic 190, 3) := by decide +kernel
theorem dX4_lays_4 : decode cX4_lays 4 = .ok (.ifCond .ne 10, 3) := by decide +kernel
theorem dX4_lays_7 : decode cX4_lays 7 = .ok (.aload_n 0, 1) := by decide +kernel
theorem dX4_lays_8 : decode cX4_lays 8 = .ok (.ldc 48, 2) := by decide +kernel
theorem dX4_lays_10 : decode cX4_lays 10 = .ok (.invokevirtual 49, 3) := by decide +kernel
theorem dX4_lays_13 : decode cX4_lays 13 = .ok (.ireturn, 1) := by decide +kernel
theorem dX4_lays_14 : decode cX4_lays 14 = .ok (.aload_n 0, 1) := by decide +kernel
theorem dX4_lays_15 : decode cX4_lays 15 = .ok (.getfield 35, 3) := by decide +kernel
theorem dX4_lays_18 : decode cX4_lays 18 = .ok (.iload_n 1, 1) := by decide +kernel
theorem dX4_lays_19 : decode cX4_lays 19 = .ok (.aaload, 1) := by decide +kernel
theorem dX4_lays_20 : decode cX4_lays 20 = .ok (.astore_n 2, 1) := by decide +kernel
theorem dX4_lays_21 : decode cX4_lays 21 = .ok (.aload_n 2, 1) := by decide +kernel
theorem dX4_lays_22 : decode cX4_lays 22 = .ok (.invokevirtual 198, 3) := by decide +kernel
theorem dX4_lays_25 : decode cX4_lays 25 = .ok (.ifCond .eq 10, 3) := by decide +kernel
theorem dX4_lays_28 : decode cX4_lays 28 = .ok (.aload_n 0, 1) := by decide +kernel
theorem dX4_lays_29 : decode cX4_lays 29 = .ok (.ldc 201, 2) := by decide +kernel
theorem dX4_lays_31 : decode cX4_lays 31 = .ok (.invokevirtual 49, 3) := by decide +kernel
theorem dX4_lays_34 : decode cX4_lays 34 = .ok (.ireturn, 1) := by decide +kernel
theorem dX4_lays_35 : decode cX4_lays 35 = .ok (.iconst 0, 1) := by decide +kernel
theorem dX4_lays_36 : decode cX4_lays 36 = .ok (.istore_n 3, 1) := by decide +kernel
theorem dX4_lays_37 : decode cX4_lays 37 = .ok (.iconst 0, 1) := by decide +kernel
theorem dX4_lays_38 : decode cX4_lays 38 = .ok (.istore 4, 2) := by decide +kernel
theorem dX4_lays_40 : decode cX4_lays 40 = .ok (.iload 4, 2) := by decide +kernel
theorem dX4_lays_42 : decode cX4_lays 42 = .ok (.aload_n 0, 1) := by decide +kernel
theorem dX4_lays_43 : decode cX4_lays 43 = .ok (.getfield 10, 3) := by decide +kernel
theorem dX4_lays_46 : decode cX4_lays 46 = .ok (.getfield 177, 3) := by decide +kernel
theorem dX4_lays_49 : decode cX4_lays 49 = .ok (.if_icmp .ge 59, 3) := by decide +kernel
theorem dX4_lays_52 : decode cX4_lays 52 = .ok (.iload 4, 2) := by decide +kernel
theorem dX4_lays_54 : decode cX4_lays 54 = .ok (.aload_n 2, 1) := by decide +kernel
theorem dX4_lays_55 : decode cX4_lays 55 = .ok (.getfield 197, 3) := by decide +kernel
theorem dX4_lays_58 : decode cX4_lays 58 = .ok (.if_icmp .ge 50, 3) := by decide +kernel
theorem dX4_lays_61 : decode cX4_lays 61 = .ok (.aload_n 2, 1) := by decide +kernel
theorem dX4_lays_62 : decode cX4_lays 62 = .ok (.getfield 202, 3) := by decide +kernel
theorem dX4_lays_65 : decode cX4_lays 65 = .ok (.iload 4, 2) := by decide +kernel
theorem dX4_lays_67 : decode cX4_lays 67 = .ok (.laload, 1) := by decide +kernel
theorem dX4_lays_68 : decode cX4_lays 68 = .ok (.lstore 5, 2) := by decide +kernel
theorem dX4_lays_70 : decode cX4_lays 70 = .ok (.lload 5, 2) := by decide +kernel
theorem dX4_lays_72 : decode cX4_lays 72 = .ok (.lconst 0, 1) := by decide +kernel
theorem dX4_lays_73 : decode cX4_lays 73 = .ok (.lcmp, 1) := by decide +kernel
theorem dX4_lays_74 : decode cX4_lays 74 = .ok (.ifCond .lt 28, 3) := by decide +kernel
theorem dX4_lays_77 : decode cX4_lays 77 = .ok (.lload 5, 2) := by decide +kernel
theorem dX4_lays_79 : decode cX4_lays 79 = .ok (.ldc2_w 222, 3) := by decide +kernel
theorem dX4_lays_82 : decode cX4_lays 82 = .ok (.lcmp, 1) := by decide +kernel
theorem dX4_lays_83 : decode cX4_lays 83 = .ok (.ifCond .gt 19, 3) := by decide +kernel
theorem dX4_lays_86 : decode cX4_lays 86 = .ok (.aload_n 0, 1) := by decide +kernel
theorem dX4_lays_87 : decode cX4_lays 87 = .ok (.getfield 10, 3) := by decide +kernel
theorem dX4_lays_90 : decode cX4_lays 90 = .ok (.getfield 115, 3) := by decide +kernel
theorem dX4_lays_93 : decode cX4_lays 93 = .ok (.iload 4, 2) := by decide +kernel
theorem dX4_lays_95 : decode cX4_lays 95 = .ok (.lload 5, 2) := by decide +kernel
theorem dX4_lays_97 : decode cX4_lays 97 = .ok (.l2i, 1) := by decide +kernel
theorem dX4_lays_98 : decode cX4_lays 98 = .ok (.iastore, 1) := by decide +kernel
theorem dX4_lays_99 : decode cX4_lays 99 = .ok (.iinc 3 1, 3) := by decide +kernel
theorem dX4_lays_102 : decode cX4_lays 102 = .ok (.iinc 4 1, 3) := by decide +kernel
theorem dX4_lays_105 : decode cX4_lays 105 = .ok (.goto (-65), 3) := by decide +kernel
theorem dX4_lays_108 : decode cX4_lays 108 = .ok (.iload_n 3, 1) := by decide +kernel
theorem dX4_lays_109 : decode cX4_lays 109 = .ok (.ireturn, 1) := by decide +kernel
theorem dX4_book_0 : decode cX4_book 0 = .ok (.iload_n 1, 1) := by decide +kernel
theorem dX4_book_1 : decode cX4_book 1 = .ok (.invokestatic 190, 3) := by decide +kernel
theorem dX4_book_4 : decode cX4_book 4 = .ok (.ifCond .ne 10, 3) := by decide +kernel
theorem dX4_book_7 : decode cX4_book 7 = .ok (.aload_n 0, 1) := by decide +kernel
theorem dX4_book_8 : decode cX4_book 8 = .ok (.ldc 48, 2) := by decide +kernel
theorem dX4_book_10 : decode cX4_book 10 = .ok (.invokevirtual 49, 3) := by decide +kernel
theorem dX4_book_13 : decode cX4_book 13 = .ok (.ireturn, 1) := by decide +kernel
theorem dX4_book_14 : decode cX4_book 14 = .ok (.aload_n 0, 1) := by decide +kernel
theorem dX4_book_15 : decode cX4_book 15 = .ok (.getfield 35, 3) := by decide +kernel
theorem dX4_book_18 : decode cX4_book 18 = .ok (.iload_n 1, 1) := by decide +kernel
theorem dX4_book_19 : decode cX4_book 19 = .ok (.aaload, 1) := by decide +kernel
theorem dX4_book_20 : decode cX4_book 20 = .ok (.astore_n 3, 1) := by decide +kernel
theorem dX4_book_21 : decode cX4_book 21 = .ok (.aload_n 3, 1) := by decide +kernel
theorem dX4_book_22 : decode cX4_book 22 = .ok (.invokevirtual 198, 3) := by decide +kernel
theorem dX4_book_25 : decode cX4_book 25 = .ok (.ifCond .eq 10, 3) := by decide +kernel
theorem dX4_book_28 : decode cX4_book 28 = .ok (.aload_n 0, 1) := by decide +kernel
theorem dX4_book_29 : decode cX4_book 29 = .ok (.ldc 201, 2) := by decide +kernel
theorem dX4_book_31 : decode cX4_book 31 = .ok (.invokevirtual 49, 3) := by decide +kernel
theorem dX4_book_34 : decode cX4_book 34 = .ok (.ireturn, 1) := by decide +kernel
theorem dX4_book_35 : decode cX4_book 35 = .ok (.aload_n 0, 1) := by decide +kernel
theorem dX4_book_36 : decode cX4_book 36 = .ok (.getfield 10, 3) := by decide +kernel
theorem dX4_book_39 : decode cX4_book 39 = .ok (.iload_n 2, 1) := by decide +kernel
theorem dX4_book_40 : decode cX4_book 40 = .ok (.invokevirtual 103, 3) := by decide +kernel
theorem dX4_book_43 : decode cX4_book 43 = .ok (.ifCond .ne 10, 3) := by decide +kernel
theorem dX4_book_46 : decode cX4_book 46 = .ok (.aload_n 0, 1) := by decide +kernel
theorem dX4_book_47 : decode cX4_book 47 = .ok (.ldc 48, 2) := by decide +kernel
theorem dX4_book_49 : decode cX4_book 49 = .ok (.invokevirtual 49, 3) := by decide +kernel
theorem dX4_book_52 : decode cX4_book 52 = .ok (.ireturn, 1) := by decide +kernel
theorem dX4_book_53 : decode cX4_book 53 = .ok (.aload_n 0, 1) := by decide +kernel
theorem dX4_book_54 : decode cX4_book 54 = .ok (.getfield 16, 3) := by decide +kernel
theorem dX4_book_57 : decode cX4_book 57 = .ok (.aload_n 0, 1) := by decide +kernel
theorem dX4_book_58 : decode cX4_book 58 = .ok (.getfield 10, 3) := by decide +kernel
theorem dX4_book_61 : decode cX4_book 61 = .ok (.invokevirtual 155, 3) := by decide +kernel
theorem dX4_book_64 : decode cX4_book 64 = .ok (.iconst 0, 1) := by decide +kernel
theorem dX4_book_65 : decode cX4_book 65 = .ok (.istore 4, 2) := by decide +kernel
theorem dX4_book_67 : decode cX4_book 67 = .ok (.iload 4, 2) := by decide +kernel
theorem dX4_book_69 : decode cX4_book 69 = .ok (.aload_n 3, 1) := by decide +kernel
theorem dX4_book_70 : decode cX4_book 70 = .ok (.getfield 197, 3) := by decide +kernel
theorem dX4_book_73 : decode cX4_book 73 = .ok (.if_icmp .ge 32, 3) := by decide +kernel
theorem dX4_book_76 : decode cX4_book 76 = .ok (.aload_n 3, 1) := by decide +kernel
theorem dX4_book_77 : decode cX4_book 77 = .ok (.iload 4, 2) := by decide +kernel
theorem dX4_book_79 : decode cX4_book 79 = .ok (.aload_n 0, 1) := by decide +kernel
theorem dX4_book_80 : decode cX4_book 80 = .ok (.getfield 16, 3) := by decide +kernel
theorem dX4_book_83 : decode cX4_book 83 = .ok (.getfield 115, 3) := by decide +kernel
theorem dX4_book_86 : decode cX4_book 86 = .ok (.iload_n 2, 1) := by decide +kernel
theorem dX4_book_87 : decode cX4_book 87 = .ok (.iaload, 1) := by decide +kernel
theorem dX4_book_88 : decode cX4_book 88 = .ok (.i2l, 1) := by decide +kernel
theorem dX4_book_89 : decode cX4_book 89 = .ok (.invokevirtual 206, 3) := by decide +kernel
theorem dX4_book_92 : decode cX4_book 92 = .ok (.aload_n 0, 1) := by decide +kernel
theorem dX4_book_93 : decode cX4_book 93 = .ok (.getfield 16, 3) := by decide +kernel
theorem dX4_book_96 : decode cX4_book 96 = .ok (.invokevirtual 162, 3) := by decide +kernel
theorem dX4_book_99 : decode cX4_book 99 = .ok (.iinc 4 1, 3) := by decide +kernel
theorem dX4_book_102 : decode cX4_book 102 = .ok (.goto (-35), 3) := by decide +kernel
theorem dX4_book_105 : decode cX4_book 105 = .ok (.aload_n 3, 1) := by decide +kernel
theorem dX4_book_106 : decode cX4_book 106 = .ok (.getfield 197, 3) := by decide +kernel
theorem dX4_book_109 : decode cX4_book 109 = .ok (.ireturn, 1) := by decide +kernel
theorem dX4_read_0 : decode cX4_read 0 = .ok (.iload_n 1, 1) := by decide +kernel
theorem dX4_read_1 : decode cX4_read 1 = .ok (.invokestatic 190, 3) := by decide +kernel
theorem dX4_read_4 : decode cX4_read 4 = .ok (.ifCond .ne 10, 3) := by decide +kernel
theorem dX4_read_7 : decode cX4_read 7 = .ok (.aload_n 0, 1) := by decide +kernel
theorem dX4_read_8 : decode cX4_read 8 = .ok (.ldc 48, 2) := by decide +kernel
theorem dX4_read_10 : decode cX4_read 10 = .ok (.invokevirtual 49, 3) := by decide +kernel
theorem dX4_read_13 : decode cX4_read 13 = .ok (.ireturn, 1) := by decide +kernel
theorem dX4_read_14 : decode cX4_read 14 = .ok (.aload_n 0, 1) := by decide +kernel
theorem dX4_read_15 : decode cX4_read 15 = .ok (.getfield 35, 3) := by decide +kernel
theorem dX4_read_18 : decode cX4_read 18 = .ok (.iload_n 1, 1) := by decide +kernel
theorem dX4_read_19 : decode cX4_read 19 = .ok (.aaload, 1) := by decide +kernel
theorem dX4_read_20 : decode cX4_read 20 = .ok (.astore 4, 2) := by decide +kernel
theorem dX4_read_22 : decode cX4_read 22 = .ok (.aload 4, 2) := by decide +kernel
theorem dX4_read_24 : decode cX4_read 24 = .ok (.invokevirtual 198, 3) := by decide +kernel
theorem dX4_read_27 : decode cX4_read 27 = .ok (.ifCond .eq 10, 3) := by decide +kernel
theorem dX4_read_30 : decode cX4_read 30 = .ok (.aload_n 0, 1) := by decide +kernel
theorem dX4_read_31 : decode cX4_read 31 = .ok (.ldc 201, 2) := by decide +kernel
theorem dX4_read_33 : decode cX4_read 33 = .ok (.invokevirtual 49, 3) := by decide +kernel
theorem dX4_read_36 : decode cX4_read 36 = .ok (.ireturn, 1) := by decide +kernel
theorem dX4_read_37 : decode cX4_read 37 = .ok (.aload_n 0, 1) := by decide +kernel
theorem dX4_read_38 : decode cX4_read 38 = .ok (.getfield 10, 3) := by decide +kernel
theorem dX4_read_41 : decode cX4_read 41 = .ok (.iload_n 2, 1) := by decide +kernel
theorem dX4_read_42 : decode cX4_read 42 = .ok (.invokevirtual 103, 3) := by decide +kernel
theorem dX4_read_45 : decode cX4_read 45 = .ok (.ifCond .eq 19, 3) := by decide +kernel
theorem dX4_read_48 : decode cX4_read 48 = .ok (.aload_n 0, 1) := by decide +kernel
theorem dX4_read_49 : decode cX4_read 49 = .ok (.getfield 10, 3) := by decide +kernel
theorem dX4_read_52 : decode cX4_read 52 = .ok (.iload_n 3, 1) := by decide +kernel
theorem dX4_read_53 : decode cX4_read 53 = .ok (.invokevirtual 103, 3) := by decide +kernel
theorem dX4_read_56 : decode cX4_read 56 = .ok (.ifCond .eq 8, 3) := by decide +kernel
theorem dX4_read_59 : decode cX4_read 59 = .ok (.iload_n 2, 1) := by decide +kernel
theorem dX4_read_60 : decode cX4_read 60 = .ok (.iload_n 3, 1) := by decide +kernel
theorem dX4_read_61 : decode cX4_read 61 = .ok (.if_icmp .ne 10, 3) := by decide +kernel
theorem dX4_read_64 : decode cX4_read 64 = .ok (.aload_n 0, 1) := by decide +kernel
theorem dX4_read_65 : decode cX4_read 65 = .ok (.ldc 48, 2) := by decide +kernel
theorem dX4_read_67 : decode cX4_read 67 = .ok (.invokevirtual 49, 3) := by decide +kernel
theorem dX4_read_70 : decode cX4_read 70 = .ok (.ireturn, 1) := by decide +kernel
theorem dX4_read_71 : decode cX4_read 71 = .ok (.iconst 0, 1) := by decide +kernel
theorem dX4_read_72 : decode cX4_read 72 = .ok (.istore 5, 2) := by decide +kernel
theorem dX4_read_74 : decode cX4_read 74 = .ok (.iconst 0, 1) := by decide +kernel
theorem dX4_read_75 : decode cX4_read 75 = .ok (.istore 6, 2) := by decide +kernel
theorem dX4_read_77 : decode cX4_read 77 = .ok (.iload 6, 2) := by decide +kernel
theorem dX4_read_79 : decode cX4_read 79 = .ok (.bipush 6, 2) := by decide +kernel
theorem dX4_read_81 : decode cX4_read 81 = .ok (.if_icmp .ge 71, 3) := by decide +kernel
theorem dX4_read_84 : decode cX4_read 84 = .ok (.iconst 0, 1) := by decide +kernel
theorem dX4_read_85 : decode cX4_read 85 = .ok (.istore 7, 2) := by decide +kernel
theorem dX4_read_87 : decode cX4_read 87 = .ok (.iload 7, 2) := by decide +kernel
theorem dX4_read_89 : decode cX4_read 89 = .ok (.bipush 6, 2) := by decide +kernel
theorem dX4_read_91 : decode cX4_read 91 = .ok (.if_icmp .ge 55, 3) := by decide +kernel
theorem dX4_read_94 : decode cX4_read 94 = .ok (.aload_n 0, 1) := by decide +kernel
theorem dX4_read_95 : decode cX4_read 95 = .ok (.getfield 16, 3) := by decide +kernel
theorem dX4_read_98 : decode cX4_read 98 = .ok (.aload_n 0, 1) := by decide +kernel
theorem dX4_read_99 : decode cX4_read 99 = .ok (.getfield 10, 3) := by decide +kernel
theorem dX4_read_102 : decode cX4_read 102 = .ok (.invokevirtual 155, 3) := by decide +kernel
theorem dX4_read_105 : decode cX4_read 105 = .ok (.aload_n 0, 1) := by decide +kernel
theorem dX4_read_106 : decode cX4_read 106 = .ok (.getfield 16, 3) := by decide +kernel
theorem dX4_read_109 : decode cX4_read 109 = .ok (.getfield 106, 3) := by decide +kernel
theorem dX4_read_112 : decode cX4_read 112 = .ok (.iload_n 2, 1) := by decide +kernel
theorem dX4_read_113 : decode cX4_read 113 = .ok (.iload 6, 2) := by decide +kernel
theorem dX4_read_115 : decode cX4_read 115 = .ok (.iastore, 1) := by decide +kernel
theorem dX4_read_116 : decode cX4_read 116 = .ok (.aload_n 0, 1) := by decide +kernel
theorem dX4_read_117 : decode cX4_read 117 = .ok (.getfield 16, 3) := by decide +kernel
theorem dX4_read_120 : decode cX4_read 120 = .ok (.getfield 106, 3) := by decide +kernel
theorem dX4_read_123 : decode cX4_read 123 = .ok (.iload_n 3, 1) := by decide +kernel
theorem dX4_read_124 : decode cX4_read 124 = .ok (.iload 7, 2) := by decide +kernel
theorem dX4_read_126 : decode cX4_read 126 = .ok (.iastore, 1) := by decide +kernel
theorem dX4_read_127 : decode cX4_read 127 = .ok (.aload_n 0, 1) := by decide +kernel
theorem dX4_read_128 : decode cX4_read 128 = .ok (.aload 4, 2) := by decide +kernel
theorem dX4_read_130 : decode cX4_read 130 = .ok (.iload_n 2, 1) := by decide +kernel
theorem dX4_read_131 : decode cX4_read 131 = .ok (.invokevirtual 224, 3) := by decide +kernel
theorem dX4_read_134 : decode cX4_read 134 = .ok (.ifCond .eq 6, 3) := by decide +kernel
theorem dX4_read_137 : decode cX4_read 137 = .ok (.iinc 5 1, 3) := by decide +kernel
theorem dX4_read_140 : decode cX4_read 140 = .ok (.iinc 7 1, 3) := by decide +kernel
theorem dX4_read_143 : decode cX4_read 143 = .ok (.goto (-56), 3) := by decide +kernel
theorem dX4_read_146 : decode cX4_read 146 = .ok (.iinc 6 1, 3) := by decide +kernel
theorem dX4_read_149 : decode cX4_read 149 = .ok (.goto (-72), 3) := by decide +kernel
theorem dX4_read_152 : decode cX4_read 152 = .ok (.iload 5, 2) := by decide +kernel
theorem dX4_read_154 : decode cX4_read 154 = .ok (.ireturn, 1) := by decide +kernel
theorem dX4_trialGoesAs_0 : decode cX4_trialGoesAs 0 = .ok (.iconst 0, 1) := by decide +kernel
theorem dX4_trialGoesAs_1 : decode cX4_trialGoesAs 1 = .ok (.istore_n 3, 1) := by decide +kernel
theorem dX4_trialGoesAs_2 : decode cX4_trialGoesAs 2 = .ok (.iload_n 3, 1) := by decide +kernel
theorem dX4_trialGoesAs_3 : decode cX4_trialGoesAs 3 = .ok (.aload_n 1, 1) := by decide +kernel
theorem dX4_trialGoesAs_4 : decode cX4_trialGoesAs 4 = .ok (.getfield 197, 3) := by decide +kernel
theorem dX4_trialGoesAs_7 : decode cX4_trialGoesAs 7 = .ok (.if_icmp .ge 38, 3) := by decide +kernel
theorem dX4_trialGoesAs_10 : decode cX4_trialGoesAs 10 = .ok (.aload_n 1, 1) := by decide +kernel
theorem dX4_trialGoesAs_11 : decode cX4_trialGoesAs 11 = .ok (.getfield 202, 3) := by decide +kernel
theorem dX4_trialGoesAs_14 : decode cX4_trialGoesAs 14 = .ok (.iload_n 3, 1) := by decide +kernel
theorem dX4_trialGoesAs_15 : decode cX4_trialGoesAs 15 = .ok (.laload, 1) := by decide +kernel
theorem dX4_trialGoesAs_16 : decode cX4_trialGoesAs 16 = .ok (.aload_n 0, 1) := by decide +kernel
theorem dX4_trialGoesAs_17 : decode cX4_trialGoesAs 17 = .ok (.getfield 16, 3) := by decide +kernel
theorem dX4_trialGoesAs_20 : decode cX4_trialGoesAs 20 = .ok (.getfield 115, 3) := by decide +kernel
theorem dX4_trialGoesAs_23 : decode cX4_trialGoesAs 23 = .ok (.iload_n 2, 1) := by decide +kernel
theorem dX4_trialGoesAs_24 : decode cX4_trialGoesAs 24 = .ok (.iaload, 1) := by decide +kernel
theorem dX4_trialGoesAs_25 : decode cX4_trialGoesAs 25 = .ok (.i2l, 1) := by decide +kernel
theorem dX4_trialGoesAs_26 : decode cX4_trialGoesAs 26 = .ok (.lcmp, 1) := by decide +kernel
theorem dX4_trialGoesAs_27 : decode cX4_trialGoesAs 27 = .ok (.ifCond .eq 5, 3) := by decide +kernel
theorem dX4_trialGoesAs_30 : decode cX4_trialGoesAs 30 = .ok (.iconst 0, 1) := by decide +kernel
theorem dX4_trialGoesAs_31 : decode cX4_trialGoesAs 31 = .ok (.ireturn, 1) := by decide +kernel
theorem dX4_trialGoesAs_32 : decode cX4_trialGoesAs 32 = .ok (.aload_n 0, 1) := by decide +kernel
theorem dX4_trialGoesAs_33 : decode cX4_trialGoesAs 33 = .ok (.getfield 16, 3) := by decide +kernel
theorem dX4_trialGoesAs_36 : decode cX4_trialGoesAs 36 = .ok (.invokevirtual 162, 3) := by decide +kernel
theorem dX4_trialGoesAs_39 : decode cX4_trialGoesAs 39 = .ok (.iinc 3 1, 3) := by decide +kernel
theorem dX4_trialGoesAs_42 : decode cX4_trialGoesAs 42 = .ok (.goto (-40), 3) := by decide +kernel
theorem dX4_trialGoesAs_45 : decode cX4_trialGoesAs 45 = .ok (.iconst 1, 1) := by decide +kernel
theorem dX4_trialGoesAs_46 : decode cX4_trialGoesAs 46 = .ok (.ireturn, 1) := by decide +kernel
theorem dX4_image_0 : decode cX4_image 0 = .ok (.aload_n 0, 1) := by decide +kernel
theorem dX4_image_1 : decode cX4_image 1 = .ok (.getfield 19, 3) := by decide +kernel
theorem dX4_image_4 : decode cX4_image 4 = .ok (.aload_n 0, 1) := by decide +kernel
theorem dX4_image_5 : decode cX4_image 5 = .ok (.getfield 10, 3) := by decide +kernel
theorem dX4_image_8 : decode cX4_image 8 = .ok (.invokevirtual 155, 3) := by decide +kernel
theorem dX4_image_11 : decode cX4_image 11 = .ok (.aload_n 0, 1) := by decide +kernel
theorem dX4_image_12 : decode cX4_image 12 = .ok (.iconst 1, 1) := by decide +kernel
theorem dX4_image_13 : decode cX4_image 13 = .ok (.putfield 22, 3) := by decide +kernel
theorem dX4_image_16 : decode cX4_image 16 = .ok (.iconst 1, 1) := by decide +kernel
theorem dX4_image_17 : decode cX4_image 17 = .ok (.ireturn, 1) := by decide +kernel
theorem dX4_undo_0 : decode cX4_undo 0 = .ok (.aload_n 0, 1) := by decide +kernel
theorem dX4_undo_1 : decode cX4_undo 1 = .ok (.getfield 22, 3) := by decide +kernel
theorem dX4_undo_4 : decode cX4_undo 4 = .ok (.ifCond .ne 10, 3) := by decide +kernel
theorem dX4_undo_7 : decode cX4_undo 7 = .ok (.aload_n 0, 1) := by decide +kernel
theorem dX4_undo_8 : decode cX4_undo 8 = .ok (.ldc 83, 2) := by decide +kernel
theorem dX4_undo_10 : decode cX4_undo 10 = .ok (.invokevirtual 49, 3) := by decide +kernel
theorem dX4_undo_13 : decode cX4_undo 13 = .ok (.ireturn, 1) := by decide +kernel
theorem dX4_undo_14 : decode cX4_undo 14 = .ok (.aload_n 0, 1) := by decide +kernel
theorem dX4_undo_15 : decode cX4_undo 15 = .ok (.getfield 10, 3) := by decide +kernel
theorem dX4_undo_18 : decode cX4_undo 18 = .ok (.aload_n 0, 1) := by decide +kernel
theorem dX4_undo_19 : decode cX4_undo 19 = .ok (.getfield 19, 3) := by decide +kernel
theorem dX4_undo_22 : decode cX4_undo 22 = .ok (.invokevirtual 155, 3) := by decide +kernel
theorem dX4_undo_25 : decode cX4_undo 25 = .ok (.aload_n 0, 1) := by decide +kernel
theorem dX4_undo_26 : decode cX4_undo 26 = .ok (.getfield 10, 3) := by decide +kernel
theorem dX4_undo_29 : decode cX4_undo 29 = .ok (.getfield 177, 3) := by decide +kernel
theorem dX4_undo_32 : decode cX4_undo 32 = .ok (.ireturn, 1) := by decide +kernel
theorem dX4_tear_0 : decode cX4_tear 0 = .ok (.aload_n 0, 1) := by decide +kernel
theorem dX4_tear_1 : decode cX4_tear 1 = .ok (.getfield 22, 3) := by decide +kernel
theorem dX4_tear_4 : decode cX4_tear 4 = .ok (.ifCond .eq 7, 3) := by decide +kernel
theorem dX4_tear_7 : decode cX4_tear 7 = .ok (.iconst 1, 1) := by decide +kernel
theorem dX4_tear_8 : decode cX4_tear 8 = .ok (.goto 4, 3) := by decide +kernel
theorem dX4_tear_11 : decode cX4_tear 11 = .ok (.iconst 0, 1) := by decide +kernel
theorem dX4_tear_12 : decode cX4_tear 12 = .ok (.istore_n 1, 1) := by decide +kernel
theorem dX4_tear_13 : decode cX4_tear 13 = .ok (.aload_n 0, 1) := by decide +kernel
theorem dX4_tear_14 : decode cX4_tear 14 = .ok (.iconst 0, 1) := by decide +kernel
theorem dX4_tear_15 : decode cX4_tear 15 = .ok (.putfield 22, 3) := by decide +kernel
theorem dX4_tear_18 : decode cX4_tear 18 = .ok (.iload_n 1, 1) := by decide +kernel
theorem dX4_tear_19 : decode cX4_tear 19 = .ok (.ireturn, 1) := by decide +kernel
theorem dX4_count_0 : decode cX4_count 0 = .ok (.iload_n 1, 1) := by decide +kernel
theorem dX4_count_1 : decode cX4_count 1 = .ok (.tableswitch 73 0 3 #[31, 39, 47, 62], 31) := by decide +kernel
theorem dX4_count_32 : decode cX4_count 32 = .ok (.aload_n 0, 1) := by decide +kernel
theorem dX4_count_33 : decode cX4_count 33 = .ok (.getfield 10, 3) := by decide +kernel
theorem dX4_count_36 : decode cX4_count 36 = .ok (.getfield 177, 3) := by decide +kernel
theorem dX4_count_39 : decode cX4_count 39 = .ok (.ireturn, 1) := by decide +kernel
theorem dX4_count_40 : decode cX4_count 40 = .ok (.aload_n 0, 1) := by decide +kernel
theorem dX4_count_41 : decode cX4_count 41 = .ok (.getfield 29, 3) := by decide +kernel
theorem dX4_count_44 : decode cX4_count 44 = .ok (.getfield 180, 3) := by decide +kernel
theorem dX4_count_47 : decode cX4_count 47 = .ok (.ireturn, 1) := by decide +kernel
theorem dX4_count_48 : decode cX4_count 48 = .ok (.aload_n 0, 1) := by decide +kernel
theorem dX4_count_49 : decode cX4_count 49 = .ok (.getfield 10, 3) := by decide +kernel
theorem dX4_count_52 : decode cX4_count 52 = .ok (.aload_n 0, 1) := by decide +kernel
theorem dX4_count_53 : decode cX4_count 53 = .ok (.getfield 10, 3) := by decide +kernel
theorem dX4_count_56 : decode cX4_count 56 = .ok (.getfield 112, 3) := by decide +kernel
theorem dX4_count_59 : decode cX4_count 59 = .ok (.invokevirtual 76, 3) := by decide +kernel
theorem dX4_count_62 : decode cX4_count 62 = .ok (.ireturn, 1) := by decide +kernel
theorem dX4_count_63 : decode cX4_count 63 = .ok (.bipush 12, 2) := by decide +kernel
theorem dX4_count_65 : decode cX4_count 65 = .ok (.aload_n 0, 1) := by decide +kernel
theorem dX4_count_66 : decode cX4_count 66 = .ok (.getfield 10, 3) := by decide +kernel
theorem dX4_count_69 : decode cX4_count 69 = .ok (.getfield 177, 3) := by decide +kernel
theorem dX4_count_72 : decode cX4_count 72 = .ok (.isub, 1) := by decide +kernel
theorem dX4_count_73 : decode cX4_count 73 = .ok (.ireturn, 1) := by decide +kernel
theorem dX4_count_74 : decode cX4_count 74 = .ok (.aload_n 0, 1) := by decide +kernel
theorem dX4_count_75 : decode cX4_count 75 = .ok (.ldc 48, 2) := by decide +kernel
theorem dX4_count_77 : decode cX4_count 77 = .ok (.invokevirtual 49, 3) := by decide +kernel
theorem dX4_count_80 : decode cX4_count 80 = .ok (.ireturn, 1) := by decide +kernel
theorem dX4_status_0 : decode cX4_status 0 = .ok (.iload_n 1, 1) := by decide +kernel
theorem dX4_status_1 : decode cX4_status 1 = .ok (.iconst (-1), 1) := by decide +kernel
theorem dX4_status_2 : decode cX4_status 2 = .ok (.if_icmp .ne 30, 3) := by decide +kernel
theorem dX4_status_5 : decode cX4_status 5 = .ok (.iconst 0, 1) := by decide +kernel
theorem dX4_status_6 : decode cX4_status 6 = .ok (.istore_n 2, 1) := by decide +kernel
theorem dX4_status_7 : decode cX4_status 7 = .ok (.iconst 0, 1) := by decide +kernel
theorem dX4_status_8 : decode cX4_status 8 = .ok (.istore_n 3, 1) := by decide +kernel
theorem dX4_status_9 : decode cX4_status 9 = .ok (.iload_n 3, 1) := by decide +kernel
theorem dX4_status_10 : decode cX4_status 10 = .ok (.bipush 7, 2) := by decide +kernel
theorem dX4_status_12 : decode cX4_status 12 = .ok (.if_icmp .ge 18, 3) := by decide +kernel
theorem dX4_status_15 : decode cX4_status 15 = .ok (.iload_n 2, 1) := by decide +kernel
theorem dX4_status_16 : decode cX4_status 16 = .ok (.aload_n 0, 1) := by decide +kernel
theorem dX4_status_17 : decode cX4_status 17 = .ok (.getfield 39, 3) := by decide +kernel
theorem dX4_status_20 : decode cX4_status 20 = .ok (.iload_n 3, 1) := by decide +kernel
theorem dX4_status_21 : decode cX4_status 21 = .ok (.iaload, 1) := by decide +kernel
theorem dX4_status_22 : decode cX4_status 22 = .ok (.iadd, 1) := by decide +kernel
theorem dX4_status_23 : decode cX4_status 23 = .ok (.istore_n 2, 1) := by decide +kernel
theorem dX4_status_24 : decode cX4_status 24 = .ok (.iinc 3 1, 3) := by decide +kernel
theorem dX4_status_27 : decode cX4_status 27 = .ok (.goto (-18), 3) := by decide +kernel
theorem dX4_status_30 : decode cX4_status 30 = .ok (.iload_n 2, 1) := by decide +kernel
theorem dX4_status_31 : decode cX4_status 31 = .ok (.ireturn, 1) := by decide +kernel
theorem dX4_status_32 : decode cX4_status 32 = .ok (.iload_n 1, 1) := by decide +kernel
theorem dX4_status_33 : decode cX4_status 33 = .ok (.iconst 0, 1) := by decide +kernel
theorem dX4_status_34 : decode cX4_status 34 = .ok (.bipush 6, 2) := by decide +kernel
theorem dX4_status_36 : decode cX4_status 36 = .ok (.invokestatic 44, 3) := by decide +kernel
theorem dX4_status_39 : decode cX4_status 39 = .ok (.ifCond .eq 12, 3) := by decide +kernel
theorem dX4_status_42 : decode cX4_status 42 = .ok (.aload_n 0, 1) := by decide +kernel
theorem dX4_status_43 : decode cX4_status 43 = .ok (.getfield 39, 3) := by decide +kernel
theorem dX4_status_46 : decode cX4_status 46 = .ok (.iload_n 1, 1) := by decide +kernel
theorem dX4_status_47 : decode cX4_status 47 = .ok (.iaload, 1) := by decide +kernel
theorem dX4_status_48 : decode cX4_status 48 = .ok (.goto 9, 3) := by decide +kernel
theorem dX4_status_51 : decode cX4_status 51 = .ok (.aload_n 0, 1) := by decide +kernel
theorem dX4_status_52 : decode cX4_status 52 = .ok (.ldc 48, 2) := by decide +kernel
theorem dX4_status_54 : decode cX4_status 54 = .ok (.invokevirtual 49, 3) := by decide +kernel
theorem dX4_status_57 : decode cX4_status 57 = .ok (.ireturn, 1) := by decide +kernel
theorem dX4_found_0 : decode cX4_found 0 = .ok (.ldc 48, 2) := by decide +kernel
theorem dX4_found_2 : decode cX4_found 2 = .ok (.iload_n 1, 1) := by decide +kernel
theorem dX4_found_3 : decode cX4_found 3 = .ok (.isub, 1) := by decide +kernel
theorem dX4_found_4 : decode cX4_found 4 = .ok (.istore_n 2, 1) := by decide +kernel
theorem dX4_found_5 : decode cX4_found 5 = .ok (.iload_n 2, 1) := by decide +kernel
theorem dX4_found_6 : decode cX4_found 6 = .ok (.iconst 0, 1) := by decide +kernel
theorem dX4_found_7 : decode cX4_found 7 = .ok (.bipush 6, 2) := by decide +kernel
theorem dX4_found_9 : decode cX4_found 9 = .ok (.invokestatic 44, 3) := by decide +kernel
theorem dX4_found_12 : decode cX4_found 12 = .ok (.ifCond .eq 13, 3) := by decide +kernel
theorem dX4_found_15 : decode cX4_found 15 = .ok (.aload_n 0, 1) := by decide +kernel
theorem dX4_found_16 : decode cX4_found 16 = .ok (.getfield 39, 3) := by decide +kernel
theorem dX4_found_19 : decode cX4_found 19 = .ok (.iload_n 2, 1) := by decide +kernel
theorem dX4_found_20 : decode cX4_found 20 = .ok (.dup2, 1) := by decide +kernel
theorem dX4_found_21 : decode cX4_found 21 = .ok (.iaload, 1) := by decide +kernel
theorem dX4_found_22 : decode cX4_found 22 = .ok (.iconst 1, 1) := by decide +kernel
theorem dX4_found_23 : decode cX4_found 23 = .ok (.iadd, 1) := by decide +kernel
theorem dX4_found_24 : decode cX4_found 24 = .ok (.iastore, 1) := by decide +kernel
theorem dX4_found_25 : decode cX4_found 25 = .ok (.iload_n 1, 1) := by decide +kernel
theorem dX4_found_26 : decode cX4_found 26 = .ok (.ireturn, 1) := by decide +kernel
theorem dX4_isSheet_0 : decode cX4_isSheet 0 = .ok (.iload_n 0, 1) := by decide +kernel
theorem dX4_isSheet_1 : decode cX4_isSheet 1 = .ok (.iconst 0, 1) := by decide +kernel
theorem dX4_isSheet_2 : decode cX4_isSheet 2 = .ok (.iconst 3, 1) := by decide +kernel
theorem dX4_isSheet_3 : decode cX4_isSheet 3 = .ok (.invokestatic 44, 3) := by decide +kernel
theorem dX4_isSheet_6 : decode cX4_isSheet 6 = .ok (.ireturn, 1) := by decide +kernel
theorem dX4_within_0 : decode cX4_within 0 = .ok (.iload_n 0, 1) := by decide +kernel
theorem dX4_within_1 : decode cX4_within 1 = .ok (.iload_n 1, 1) := by decide +kernel
theorem dX4_within_2 : decode cX4_within 2 = .ok (.if_icmp .lt 12, 3) := by decide +kernel
theorem dX4_within_5 : decode cX4_within 5 = .ok (.iload_n 0, 1) := by decide +kernel
theorem dX4_within_6 : decode cX4_within 6 = .ok (.iload_n 2, 1) := by decide +kernel
theorem dX4_within_7 : decode cX4_within 7 = .ok (.if_icmp .gt 7, 3) := by decide +kernel
theorem dX4_within_10 : decode cX4_within 10 = .ok (.iconst 1, 1) := by decide +kernel
theorem dX4_within_11 : decode cX4_within 11 = .ok (.goto 4, 3) := by decide +kernel
theorem dX4_within_14 : decode cX4_within 14 = .ok (.iconst 0, 1) := by decide +kernel
theorem dX4_within_15 : decode cX4_within 15 = .ok (.ireturn, 1) := by decide +kernel
theorem dX5_init_0 : decode cX5_init 0 = .ok (.aload_n 0, 1) := by decide +kernel
theorem dX5_init_1 : decode cX5_init 1 = .ok (.invokespecial 1, 3) := by decide +kernel
theorem dX5_init_4 : decode cX5_init 4 = .ok (.aload_n 0, 1) := by decide +kernel
theorem dX5_init_5 : decode cX5_init 5 = .ok (.bipush 62, 2) := by decide +kernel
theorem dX5_init_7 : decode cX5_init 7 = .ok (.newarray .int, 2) := by decide +kernel
theorem dX5_init_9 : decode cX5_init 9 = .ok (.putfield 7, 3) := by decide +kernel
theorem dX5_init_12 : decode cX5_init 12 = .ok (.aload_n 0, 1) := by decide +kernel
theorem dX5_init_13 : decode cX5_init 13 = .ok (.bipush 7, 2) := by decide +kernel
theorem dX5_init_15 : decode cX5_init 15 = .ok (.newarray .int, 2) := by decide +kernel
theorem dX5_init_17 : decode cX5_init 17 = .ok (.putfield 13, 3) := by decide +kernel
theorem dX5_init_20 : decode cX5_init 20 = .ok (.aload_n 0, 1) := by decide +kernel
theorem dX5_init_21 : decode cX5_init 21 = .ok (.bipush 10, 2) := by decide +kernel
theorem dX5_init_23 : decode cX5_init 23 = .ok (.newarray .int, 2) := by decide +kernel
theorem dX5_init_25 : decode cX5_init 25 = .ok (.putfield 16, 3) := by decide +kernel
theorem dX5_init_28 : decode cX5_init 28 = .ok (.aload_n 0, 1) := by decide +kernel
theorem dX5_init_29 : decode cX5_init 29 = .ok (.bipush 10, 2) := by decide +kernel
theorem dX5_init_31 : decode cX5_init 31 = .ok (.newarray .int, 2) := by decide +kernel
theorem dX5_init_33 : decode cX5_init 33 = .ok (.putfield 19, 3) := by decide +kernel
theorem dX5_init_36 : decode cX5_init 36 = .ok (.aload_n 0, 1) := by decide +kernel
theorem dX5_init_37 : decode cX5_init 37 = .ok (.bipush 62, 2) := by decide +kernel
theorem dX5_init_39 : decode cX5_init 39 = .ok (.newarray .int, 2) := by decide +kernel
theorem dX5_init_41 : decode cX5_init 41 = .ok (.putfield 22, 3) := by decide +kernel
theorem dX5_init_44 : decode cX5_init 44 = .ok (.aload_n 0, 1) := by decide +kernel
theorem dX5_init_45 : decode cX5_init 45 = .ok (.bipush 62, 2) := by decide +kernel
theorem dX5_init_47 : decode cX5_init 47 = .ok (.newarray .int, 2) := by decide +kernel
theorem dX5_init_49 : decode cX5_init 49 = .ok (.putfield 25, 3) := by decide +kernel
theorem dX5_init_52 : decode cX5_init 52 = .ok (.aload_n 0, 1) := by decide +kernel
theorem dX5_init_53 : decode cX5_init 53 = .ok (.bipush 120, 2) := by decide +kernel
theorem dX5_init_55 : decode cX5_init 55 = .ok (.newarray .int, 2) := by decide +kernel
theorem dX5_init_57 : decode cX5_init 57 = .ok (.putfield 28, 3) := by decide +kernel
theorem dX5_init_60 : decode cX5_init 60 = .ok (.aload_n 0, 1) := by decide +kernel
theorem dX5_init_61 : decode cX5_init 61 = .ok (.iconst 4, 1) := by decide +kernel
theorem dX5_init_62 : decode cX5_init 62 = .ok (.newarray .int, 2) := by decide +kernel
theorem dX5_init_64 : decode cX5_init 64 = .ok (.putfield 31, 3) := by decide +kernel
theorem dX5_init_67 : decode cX5_init 67 = .ok (.aload_n 0, 1) := by decide +kernel
theorem dX5_init_68 : decode cX5_init 68 = .ok (.iconst 4, 1) := by decide +kernel
theorem dX5_init_69 : decode cX5_init 69 = .ok (.newarray .int, 2) := by decide +kernel
theorem dX5_init_71 : decode cX5_init 71 = .ok (.putfield 34, 3) := by decide +kernel
theorem dX5_init_74 : decode cX5_init 74 = .ok (.aload_n 0, 1) := by decide +kernel
theorem dX5_init_75 : decode cX5_init 75 = .ok (.sipush 160, 3) := by decide +kernel
theorem dX5_init_78 : decode cX5_init 78 = .ok (.newarray .long, 2) := by decide +kernel
theorem dX5_init_80 : decode cX5_init 80 = .ok (.putfield 37, 3) := by decide +kernel
theorem dX5_init_83 : decode cX5_init 83 = .ok (.aload_n 0, 1) := by decide +kernel
theorem dX5_init_84 : decode cX5_init 84 = .ok (.bipush 40, 2) := by decide +kernel
theorem dX5_init_86 : decode cX5_init 86 = .ok (.newarray .long, 2) := by decide +kernel
theorem dX5_init_88 : decode cX5_init 88 = .ok (.putfield 41, 3) := by decide +kernel
theorem dX5_init_91 : decode cX5_init 91 = .ok (.aload_n 0, 1) := by decide +kernel
theorem dX5_init_92 : decode cX5_init 92 = .ok (.bipush 62, 2) := by decide +kernel
theorem dX5_init_94 : decode cX5_init 94 = .ok (.newarray .int, 2) := by decide +kernel
theorem dX5_init_96 : decode cX5_init 96 = .ok (.putfield 44, 3) := by decide +kernel
theorem dX5_init_99 : decode cX5_init 99 = .ok (.aload_n 0, 1) := by decide +kernel
theorem dX5_init_100 : decode cX5_init 100 = .ok (.bipush 62, 2) := by decide +kernel
theorem dX5_init_102 : decode cX5_init 102 = .ok (.newarray .int, 2) := by decide +kernel
theorem dX5_init_104 : decode cX5_init 104 = .ok (.putfield 47, 3) := by decide +kernel
theorem dX5_init_107 : decode cX5_init 107 = .ok (.aload_n 0, 1) := by decide +kernel
theorem dX5_init_108 : decode cX5_init 108 = .ok (.getfield 7, 3) := by decide +kernel
theorem dX5_init_111 : decode cX5_init 111 = .ok (.iconst 0, 1) := by decide +kernel
theorem dX5_init_112 : decode cX5_init 112 = .ok (.iconst 0, 1) := by decide +kernel
theorem dX5_init_113 : decode cX5_init 113 = .ok (.iastore, 1) := by decide +kernel
theorem dX5_init_114 : decode cX5_init 114 = .ok (.return_, 1) := by decide +kernel
theorem dX5_in_0 : decode cX5_in 0 = .ok (.iload_n 0, 1) := by decide +kernel
theorem dX5_in_1 : decode cX5_in 1 = .ok (.iload_n 1, 1) := by decide +kernel
theorem dX5_in_2 : decode cX5_in 2 = .ok (.if_icmp .lt 12, 3) := by decide +kernel
theorem dX5_in_5 : decode cX5_in 5 = .ok (.iload_n 0, 1) := by decide +kernel
theorem dX5_in_6 : decode cX5_in 6 = .ok (.iload_n 2, 1) := by decide +kernel
theorem dX5_in_7 : decode cX5_in 7 = .ok (.if_icmp .gt 7, 3) := by decide +kernel
theorem dX5_in_10 : decode cX5_in 10 = .ok (.iconst 1, 1) := by decide +kernel
theorem dX5_in_11 : decode cX5_in 11 = .ok (.goto 4, 3) := by decide +kernel
theorem dX5_in_14 : decode cX5_in 14 = .ok (.iconst 0, 1) := by decide +kernel
theorem dX5_in_15 : decode cX5_in 15 = .ok (.ireturn, 1) := by decide +kernel
theorem dX5_finds_0 : decode cX5_finds 0 = .ok (.aload_n 0, 1) := by decide +kernel
theorem dX5_finds_1 : decode cX5_finds 1 = .ok (.getfield 13, 3) := by decide +kernel
theorem dX5_finds_4 : decode cX5_finds 4 = .ok (.ldc 50, 2) := by decide +kernel
theorem dX5_finds_6 : decode cX5_finds 6 = .ok (.iload_n 1, 1) := by decide +kernel
theorem dX5_finds_7 : decode cX5_finds 7 = .ok (.isub, 1) := by decide +kernel
theorem dX5_finds_8 : decode cX5_finds 8 = .ok (.dup2, 1) := by decide +kernel
theorem dX5_finds_9 : decode cX5_finds 9 = .ok (.iaload, 1) := by decide +kernel
theorem dX5_finds_10 : decode cX5_finds 10 = .ok (.iconst 1, 1) := by decide +kernel
theorem dX5_finds_11 : decode cX5_finds 11 = .ok (.iadd, 1) := by decide +kernel
theorem dX5_finds_12 : decode cX5_finds 12 = .ok (.iastore, 1) := by decide +kernel
theorem dX5_finds_13 : decode cX5_finds 13 = .ok (.iload_n 1, 1) := by decide +kernel
theorem dX5_finds_14 : decode cX5_finds 14 = .ok (.ireturn, 1) := by decide +kernel
theorem dX5_held_0 : decode cX5_held 0 = .ok (.iload_n 0, 1) := by decide +kernel
theorem dX5_held_1 : decode cX5_held 1 = .ok (.iload_n 1, 1) := by decide +kernel
theorem dX5_held_2 : decode cX5_held 2 = .ok (.if_icmp .ge 7, 3) := by decide +kernel
theorem dX5_held_5 : decode cX5_held 5 = .ok (.iload_n 1, 1) := by decide +kernel
theorem dX5_held_6 : decode cX5_held 6 = .ok (.goto 13, 3) := by decide +kernel
theorem dX5_held_9 : decode cX5_held 9 = .ok (.iload_n 0, 1) := by decide +kernel
theorem dX5_held_10 : decode cX5_held 10 = .ok (.iload_n 2, 1) := by decide +kernel
theorem dX5_held_11 : decode cX5_held 11 = .ok (.if_icmp .le 7, 3) := by decide +kernel
theorem dX5_held_14 : decode cX5_held 14 = .ok (.iload_n 2, 1) := by decide +kernel
theorem dX5_held_15 : decode cX5_held 15 = .ok (.goto 4, 3) := by decide +kernel
theorem dX5_held_18 : decode cX5_held 18 = .ok (.iload_n 0, 1) := by decide +kernel
theorem dX5_held_19 : decode cX5_held 19 = .ok (.ireturn, 1) := by decide +kernel
theorem dX5_its_0 : decode cX5_its 0 = .ok (.aload_n 0, 1) := by decide +kernel
theorem dX5_its_1 : decode cX5_its 1 = .ok (.getfield 7, 3) := by decide +kernel
theorem dX5_its_4 : decode cX5_its 4 = .ok (.iconst 2, 1) := by decide +kernel
theorem dX5_its_5 : decode cX5_its 5 = .ok (.bipush 6, 2) := by decide +kernel
theorem dX5_its_7 : decode cX5_its 7 = .ok (.iload_n 1, 1) := by decide +kernel
theorem dX5_its_8 : decode cX5_its 8 = .ok (.imul, 1) := by decide +kernel
theorem dX5_its_9 : decode cX5_its 9 = .ok (.iadd, 1) := by decide +kernel
theorem dX5_its_10 : decode cX5_its 10 = .ok (.iload_n 2, 1) := by decide +kernel
theorem dX5_its_11 : decode cX5_its 11 = .ok (.iadd, 1) := by decide +kernel
theorem dX5_its_12 : decode cX5_its 12 = .ok (.iaload, 1) := by decide +kernel
theorem dX5_its_13 : decode cX5_its 13 = .ok (.ireturn, 1) := by decide +kernel
theorem dX5_puts_0 : decode cX5_puts 0 = .ok (.aload_n 0, 1) := by decide +kernel
theorem dX5_puts_1 : decode cX5_puts 1 = .ok (.getfield 7, 3) := by decide +kernel
theorem dX5_puts_4 : decode cX5_puts 4 = .ok (.iconst 2, 1) := by decide +kernel
theorem dX5_puts_5 : decode cX5_puts 5 = .ok (.bipush 6, 2) := by decide +kernel
theorem dX5_puts_7 : decode cX5_puts 7 = .ok (.iload_n 1, 1) := by decide +kernel
theorem dX5_puts_8 : decode cX5_puts 8 = .ok (.imul, 1) := by decide +kernel
theorem dX5_puts_9 : decode cX5_puts 9 = .ok (.iadd, 1) := by decide +kernel
theorem dX5_puts_10 : decode cX5_puts 10 = .ok (.iload_n 2, 1) := by decide +kernel
theorem dX5_puts_11 : decode cX5_puts 11 = .ok (.iadd, 1) := by decide +kernel
theorem dX5_puts_12 : decode cX5_puts 12 = .ok (.iload_n 3, 1) := by decide +kernel
theorem dX5_puts_13 : decode cX5_puts 13 = .ok (.iastore, 1) := by decide +kernel
theorem dX5_puts_14 : decode cX5_puts 14 = .ok (.return_, 1) := by decide +kernel
theorem dX5_becomes_0 : decode cX5_becomes 0 = .ok (.aload_n 0, 1) := by decide +kernel
theorem dX5_becomes_1 : decode cX5_becomes 1 = .ok (.getfield 7, 3) := by decide +kernel
theorem dX5_becomes_4 : decode cX5_becomes 4 = .ok (.iload_n 1, 1) := by decide +kernel
theorem dX5_becomes_5 : decode cX5_becomes 5 = .ok (.iaload, 1) := by decide +kernel
theorem dX5_becomes_6 : decode cX5_becomes 6 = .ok (.istore_n 3, 1) := by decide +kernel
theorem dX5_becomes_7 : decode cX5_becomes 7 = .ok (.aload_n 0, 1) := by decide +kernel
theorem dX5_becomes_8 : decode cX5_becomes 8 = .ok (.getfield 7, 3) := by decide +kernel
theorem dX5_becomes_11 : decode cX5_becomes 11 = .ok (.iload_n 1, 1) := by decide +kernel
theorem dX5_becomes_12 : decode cX5_becomes 12 = .ok (.iload_n 2, 1) := by decide +kernel
theorem dX5_becomes_13 : decode cX5_becomes 13 = .ok (.iastore, 1) := by decide +kernel
theorem dX5_becomes_14 : decode cX5_becomes 14 = .ok (.iload_n 3, 1) := by decide +kernel
theorem dX5_becomes_15 : decode cX5_becomes 15 = .ok (.ireturn, 1) := by decide +kernel
theorem dX5_isOne_0 : decode cX5_isOne 0 = .ok (.iload_n 1, 1) := by decide +kernel
theorem dX5_isOne_1 : decode cX5_isOne 1 = .ok (.iconst 0, 1) := by decide +kernel
theorem dX5_isOne_2 : decode cX5_isOne 2 = .ok (.aload_n 0, 1) := by decide +kernel
theorem dX5_isOne_3 : decode cX5_isOne 3 = .ok (.getfield 7, 3) := by decide +kernel
theorem dX5_isOne_6 : decode cX5_isOne 6 = .ok (.iconst 1, 1) := by decide +kernel
theorem dX5_isOne_7 : decode cX5_isOne 7 = .ok (.iaload, 1) := by decide +kernel
theorem dX5_isOne_8 : decode cX5_isOne 8 = .ok (.iconst 1, 1) := by decide +kernel
theorem dX5_isOne_9 : decode cX5_isOne 9 = .ok (.isub, 1) := by decide +kernel
theorem dX5_isOne_10 : decode cX5_isOne 10 = .ok (.invokestatic 51, 3) := by decide +kernel
theorem dX5_isOne_13 : decode cX5_isOne 13 = .ok (.ireturn, 1) := by decide +kernel
theorem dX5_isKind_0 : decode cX5_isKind 0 = .ok (.iload_n 0, 1) := by decide +kernel
theorem dX5_isKind_1 : decode cX5_isKind 1 = .ok (.iconst 0, 1) := by decide +kernel
theorem dX5_isKind_2 : decode cX5_isKind 2 = .ok (.iconst 5, 1) := by decide +kernel
theorem dX5_isKind_3 : decode cX5_isKind 3 = .ok (.invokestatic 51, 3) := by decide +kernel
theorem dX5_isKind_6 : decode cX5_isKind 6 = .ok (.ireturn, 1) := by decide +kernel
theorem dX5_isSeat_0 : decode cX5_isSeat 0 = .ok (.iload_n 0, 1) := by decide +kernel
theorem dX5_isSeat_1 : decode cX5_isSeat 1 = .ok (.iconst 0, 1) := by decide +kernel
theorem dX5_isSeat_2 : decode cX5_isSeat 2 = .ok (.bipush 11, 2) := by decide +kernel
theorem dX5_isSeat_4 : decode cX5_isSeat 4 = .ok (.invokestatic 51, 3) := by decide +kernel
theorem dX5_isSeat_7 : decode cX5_isSeat 7 = .ok (.ireturn, 1) := by decide +kernel
theorem dX5_isVerse_0 : decode cX5_isVerse 0 = .ok (.iload_n 0, 1) := by decide +kernel
theorem dX5_isVerse_1 : decode cX5_isVerse 1 = .ok (.iconst 0, 1) := by decide +kernel
theorem dX5_isVerse_2 : decode cX5_isVerse 2 = .ok (.bipush 9, 2) := by decide +kernel
theorem dX5_isVerse_4 : decode cX5_isVerse 4 = .ok (.invokestatic 51, 3) := by decide +kernel
theorem dX5_isVerse_7 : decode cX5_isVerse 7 = .ok (.ireturn, 1) := by decide +kernel
theorem dX5_bits_0 : decode cX5_bits 0 = .ok (.iconst 0, 1) := by decide +kernel
theorem dX5_bits_1 : decode cX5_bits 1 = .ok (.istore_n 1, 1) := by decide +kernel
theorem dX5_bits_2 : decode cX5_bits 2 = .ok (.iload_n 0, 1) := by decide +kernel
theorem dX5_bits_3 : decode cX5_bits 3 = .ok (.istore_n 2, 1) := by decide +kernel
theorem dX5_bits_4 : decode cX5_bits 4 = .ok (.iload_n 2, 1) := by decide +kernel
theorem dX5_bits_5 : decode cX5_bits 5 = .ok (.ifCond .eq 15, 3) := by decide +kernel
theorem dX5_bits_8 : decode cX5_bits 8 = .ok (.iinc 1 1, 3) := by decide +kernel
theorem dX5_bits_11 : decode cX5_bits 11 = .ok (.iload_n 2, 1) := by decide +kernel
theorem dX5_bits_12 : decode cX5_bits 12 = .ok (.iload_n 2, 1) := by decide +kernel
theorem dX5_bits_13 : decode cX5_bits 13 = .ok (.iconst 1, 1) := by decide +kernel
theorem dX5_bits_14 : decode cX5_bits 14 = .ok (.isub, 1) := by decide +kernel
theorem dX5_bits_15 : decode cX5_bits 15 = .ok (.iand, 1) := by decide +kernel
theorem dX5_bits_16 : decode cX5_bits 16 = .ok (.istore_n 2, 1) := by decide +kernel
theorem dX5_bits_17 : decode cX5_bits 17 = .ok (.goto (-13), 3) := by decide +kernel
theorem dX5_bits_20 : decode cX5_bits 20 = .ok (.iload_n 1, 1) := by decide +kernel
theorem dX5_bits_21 : decode cX5_bits 21 = .ok (.ireturn, 1) := by decide +kernel
theorem dX5_leastOf_0 : decode cX5_leastOf 0 = .ok (.iload_n 0, 1) := by decide +kernel
theorem dX5_leastOf_1 : decode cX5_leastOf 1 = .ok (.iload_n 0, 1) := by decide +kernel
theorem dX5_leastOf_2 : decode cX5_leastOf 2 = .ok (.ineg, 1) := by decide +kernel
theorem dX5_leastOf_3 : decode cX5_leastOf 3 = .ok (.iand, 1) := by decide +kernel
theorem dX5_leastOf_4 : decode cX5_leastOf 4 = .ok (.ireturn, 1) := by decide +kernel
theorem dX5_greatestOf_0 : decode cX5_greatestOf 0 = .ok (.iload_n 0, 1) := by decide +kernel
theorem dX5_greatestOf_1 : decode cX5_greatestOf 1 = .ok (.istore_n 1, 1) := by decide +kernel
theorem dX5_greatestOf_2 : decode cX5_greatestOf 2 = .ok (.iload_n 1, 1) := by decide +kernel
theorem dX5_greatestOf_3 : decode cX5_greatestOf 3 = .ok (.iload_n 1, 1) := by decide +kernel
theorem dX5_greatestOf_4 : decode cX5_greatestOf 4 = .ok (.iconst 1, 1) := by decide +kernel
theorem dX5_greatestOf_5 : decode cX5_greatestOf 5 = .ok (.isub, 1) := by decide +kernel
theorem dX5_greatestOf_6 : decode cX5_greatestOf 6 = .ok (.iand, 1) := by decide +kernel
theorem dX5_greatestOf_7 : decode cX5_greatestOf 7 = .ok (.ifCond .eq 12, 3) := by decide +kernel
theorem dX5_greatestOf_10 : decode cX5_greatestOf 10 = .ok (.iload_n 1, 1) := by decide +kernel
theorem dX5_greatestOf_11 : decode cX5_greatestOf 11 = .ok (.iload_n 1, 1) := by decide +kernel
theorem dX5_greatestOf_12 : decode cX5_greatestOf 12 = .ok (.iconst 1, 1) := by decide +kernel
theorem dX5_greatestOf_13 : decode cX5_greatestOf 13 = .ok (.isub, 1) := by decide +kernel
theorem dX5_greatestOf_14 : decode cX5_greatestOf 14 = .ok (.iand, 1) := by decide +kernel
