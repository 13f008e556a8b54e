theorem dX5_heresy_10 : decode cX5_heresy 10 = .ok (.istore_n 1, 1) := by decide +kernel
theorem dX5_heresy_11 : decode cX5_heresy 11 = .ok (.iload_n 1, 1) := by decide +kernel
theorem dX5_heresy_12 : decode cX5_heresy 12 = .ok (.bipush 100, 2) := by decide +kernel
theorem dX5_heresy_14 : decode cX5_heresy 14 = .ok (.if_icmp .gt 20, 3) := by decide +kernel
theorem dX5_heresy_17 : decode cX5_heresy 17 = .ok (.aload_n 0, 1) := by decide +kernel
theorem dX5_heresy_18 : decode cX5_heresy 18 = .ok (.invokevirtual 166, 3) := by decide +kernel
theorem dX5_heresy_21 : decode cX5_heresy 21 = .ok (.ifCond .ne 13, 3) := by decide +kernel
theorem dX5_heresy_24 : decode cX5_heresy 24 = .ok (.aload_n 0, 1) := by decide +kernel
theorem dX5_heresy_25 : decode cX5_heresy 25 = .ok (.invokevirtual 148, 3) := by decide +kernel
theorem dX5_heresy_28 : decode cX5_heresy 28 = .ok (.iinc 1 1, 3) := by decide +kernel
theorem dX5_heresy_31 : decode cX5_heresy 31 = .ok (.goto (-20), 3) := by decide +kernel
theorem dX5_heresy_34 : decode cX5_heresy 34 = .ok (.aload_n 0, 1) := by decide +kernel
theorem dX5_heresy_35 : decode cX5_heresy 35 = .ok (.iconst 0, 1) := by decide +kernel
theorem dX5_heresy_36 : decode cX5_heresy 36 = .ok (.aload_n 0, 1) := by decide +kernel
theorem dX5_heresy_37 : decode cX5_heresy 37 = .ok (.getfield 22, 3) := by decide +kernel
theorem dX5_heresy_40 : decode cX5_heresy 40 = .ok (.invokevirtual 156, 3) := by decide +kernel
theorem dX5_heresy_43 : decode cX5_heresy 43 = .ok (.iload_n 1, 1) := by decide +kernel
theorem dX5_heresy_44 : decode cX5_heresy 44 = .ok (.bipush 100, 2) := by decide +kernel
theorem dX5_heresy_46 : decode cX5_heresy 46 = .ok (.if_icmp .le 12, 3) := by decide +kernel
theorem dX5_heresy_49 : decode cX5_heresy 49 = .ok (.aload_n 0, 1) := by decide +kernel
theorem dX5_heresy_50 : decode cX5_heresy 50 = .ok (.ldc 92, 2) := by decide +kernel
theorem dX5_heresy_52 : decode cX5_heresy 52 = .ok (.invokevirtual 67, 3) := by decide +kernel
theorem dX5_heresy_55 : decode cX5_heresy 55 = .ok (.goto 4, 3) := by decide +kernel
theorem dX5_heresy_58 : decode cX5_heresy 58 = .ok (.iload_n 1, 1) := by decide +kernel
theorem dX5_heresy_59 : decode cX5_heresy 59 = .ok (.ireturn, 1) := by decide +kernel
theorem dX5_knowsBehind_0 : decode cX5_knowsBehind 0 = .ok (.aload_n 0, 1) := by decide +kernel
theorem dX5_knowsBehind_1 : decode cX5_knowsBehind 1 = .ok (.iload_n 2, 1) := by decide +kernel
theorem dX5_knowsBehind_2 : decode cX5_knowsBehind 2 = .ok (.invokevirtual 152, 3) := by decide +kernel
theorem dX5_knowsBehind_5 : decode cX5_knowsBehind 5 = .ok (.aload_n 0, 1) := by decide +kernel
theorem dX5_knowsBehind_6 : decode cX5_knowsBehind 6 = .ok (.iload_n 1, 1) := by decide +kernel
theorem dX5_knowsBehind_7 : decode cX5_knowsBehind 7 = .ok (.iconst 4, 1) := by decide +kernel
theorem dX5_knowsBehind_8 : decode cX5_knowsBehind 8 = .ok (.invokevirtual 55, 3) := by decide +kernel
theorem dX5_knowsBehind_11 : decode cX5_knowsBehind 11 = .ok (.istore_n 3, 1) := by decide +kernel
theorem dX5_knowsBehind_12 : decode cX5_knowsBehind 12 = .ok (.aload_n 0, 1) := by decide +kernel
theorem dX5_knowsBehind_13 : decode cX5_knowsBehind 13 = .ok (.iconst 0, 1) := by decide +kernel
theorem dX5_knowsBehind_14 : decode cX5_knowsBehind 14 = .ok (.aload_n 0, 1) := by decide +kernel
theorem dX5_knowsBehind_15 : decode cX5_knowsBehind 15 = .ok (.getfield 22, 3) := by decide +kernel
theorem dX5_knowsBehind_18 : decode cX5_knowsBehind 18 = .ok (.invokevirtual 156, 3) := by decide +kernel
theorem dX5_knowsBehind_21 : decode cX5_knowsBehind 21 = .ok (.iload_n 3, 1) := by decide +kernel
theorem dX5_knowsBehind_22 : decode cX5_knowsBehind 22 = .ok (.ireturn, 1) := by decide +kernel
theorem dX5_best_0 : decode cX5_best 0 = .ok (.aload_n 0, 1) := by decide +kernel
theorem dX5_best_1 : decode cX5_best 1 = .ok (.iload_n 1, 1) := by decide +kernel
theorem dX5_best_2 : decode cX5_best 2 = .ok (.invokevirtual 124, 3) := by decide +kernel
theorem dX5_best_5 : decode cX5_best 5 = .ok (.ifCond .eq 13, 3) := by decide +kernel
theorem dX5_best_8 : decode cX5_best 8 = .ok (.iload_n 2, 1) := by decide +kernel
theorem dX5_best_9 : decode cX5_best 9 = .ok (.iconst 1, 1) := by decide +kernel
theorem dX5_best_10 : decode cX5_best 10 = .ok (.bipush 40, 2) := by decide +kernel
theorem dX5_best_12 : decode cX5_best 12 = .ok (.invokestatic 51, 3) := by decide +kernel
theorem dX5_best_15 : decode cX5_best 15 = .ok (.ifCond .ne 10, 3) := by decide +kernel
theorem dX5_best_18 : decode cX5_best 18 = .ok (.aload_n 0, 1) := by decide +kernel
theorem dX5_best_19 : decode cX5_best 19 = .ok (.ldc 50, 2) := by decide +kernel
theorem dX5_best_21 : decode cX5_best 21 = .ok (.invokevirtual 67, 3) := by decide +kernel
theorem dX5_best_24 : decode cX5_best 24 = .ok (.ireturn, 1) := by decide +kernel
theorem dX5_best_25 : decode cX5_best 25 = .ok (.aload_n 0, 1) := by decide +kernel
theorem dX5_best_26 : decode cX5_best 26 = .ok (.iconst 1, 1) := by decide +kernel
theorem dX5_best_27 : decode cX5_best 27 = .ok (.aload_n 0, 1) := by decide +kernel
theorem dX5_best_28 : decode cX5_best 28 = .ok (.getfield 22, 3) := by decide +kernel
theorem dX5_best_31 : decode cX5_best 31 = .ok (.invokevirtual 156, 3) := by decide +kernel
theorem dX5_best_34 : decode cX5_best 34 = .ok (.iconst 0, 1) := by decide +kernel
theorem dX5_best_35 : decode cX5_best 35 = .ok (.istore_n 3, 1) := by decide +kernel
theorem dX5_best_36 : decode cX5_best 36 = .ok (.iconst (-1), 1) := by decide +kernel
theorem dX5_best_37 : decode cX5_best 37 = .ok (.istore 4, 2) := by decide +kernel
theorem dX5_best_39 : decode cX5_best 39 = .ok (.iconst 0, 1) := by decide +kernel
theorem dX5_best_40 : decode cX5_best 40 = .ok (.istore 5, 2) := by decide +kernel
theorem dX5_best_42 : decode cX5_best 42 = .ok (.iload 5, 2) := by decide +kernel
theorem dX5_best_44 : decode cX5_best 44 = .ok (.bipush 12, 2) := by decide +kernel
theorem dX5_best_46 : decode cX5_best 46 = .ok (.if_icmp .ge 77, 3) := by decide +kernel
theorem dX5_best_49 : decode cX5_best 49 = .ok (.aload_n 0, 1) := by decide +kernel
theorem dX5_best_50 : decode cX5_best 50 = .ok (.iload 5, 2) := by decide +kernel
theorem dX5_best_52 : decode cX5_best 52 = .ok (.invokevirtual 63, 3) := by decide +kernel
theorem dX5_best_55 : decode cX5_best 55 = .ok (.istore 6, 2) := by decide +kernel
theorem dX5_best_57 : decode cX5_best 57 = .ok (.iload 6, 2) := by decide +kernel
theorem dX5_best_59 : decode cX5_best 59 = .ok (.ifCond .lt 9, 3) := by decide +kernel
theorem dX5_best_62 : decode cX5_best 62 = .ok (.iload 6, 2) := by decide +kernel
theorem dX5_best_64 : decode cX5_best 64 = .ok (.iload_n 1, 1) := by decide +kernel
theorem dX5_best_65 : decode cX5_best 65 = .ok (.if_icmp .ne 52, 3) := by decide +kernel
theorem dX5_best_68 : decode cX5_best 68 = .ok (.aload_n 0, 1) := by decide +kernel
theorem dX5_best_69 : decode cX5_best 69 = .ok (.iload_n 1, 1) := by decide +kernel
theorem dX5_best_70 : decode cX5_best 70 = .ok (.iconst 1, 1) := by decide +kernel
theorem dX5_best_71 : decode cX5_best 71 = .ok (.iload 5, 2) := by decide +kernel
theorem dX5_best_73 : decode cX5_best 73 = .ok (.invokevirtual 108, 3) := by decide +kernel
theorem dX5_best_76 : decode cX5_best 76 = .ok (.aload_n 0, 1) := by decide +kernel
theorem dX5_best_77 : decode cX5_best 77 = .ok (.iload_n 1, 1) := by decide +kernel
theorem dX5_best_78 : decode cX5_best 78 = .ok (.iload_n 2, 1) := by decide +kernel
theorem dX5_best_79 : decode cX5_best 79 = .ok (.invokevirtual 170, 3) := by decide +kernel
theorem dX5_best_82 : decode cX5_best 82 = .ok (.invokestatic 74, 3) := by decide +kernel
theorem dX5_best_85 : decode cX5_best 85 = .ok (.istore 7, 2) := by decide +kernel
theorem dX5_best_87 : decode cX5_best 87 = .ok (.iload 7, 2) := by decide +kernel
theorem dX5_best_89 : decode cX5_best 89 = .ok (.iload 4, 2) := by decide +kernel
theorem dX5_best_91 : decode cX5_best 91 = .ok (.if_icmp .le 8, 3) := by decide +kernel
theorem dX5_best_94 : decode cX5_best 94 = .ok (.iload 5, 2) := by decide +kernel
theorem dX5_best_96 : decode cX5_best 96 = .ok (.goto 4, 3) := by decide +kernel
theorem dX5_best_99 : decode cX5_best 99 = .ok (.iload_n 3, 1) := by decide +kernel
theorem dX5_best_100 : decode cX5_best 100 = .ok (.istore_n 3, 1) := by decide +kernel
theorem dX5_best_101 : decode cX5_best 101 = .ok (.iload 7, 2) := by decide +kernel
theorem dX5_best_103 : decode cX5_best 103 = .ok (.iload 4, 2) := by decide +kernel
theorem dX5_best_105 : decode cX5_best 105 = .ok (.if_icmp .le 8, 3) := by decide +kernel
theorem dX5_best_108 : decode cX5_best 108 = .ok (.iload 7, 2) := by decide +kernel
theorem dX5_best_110 : decode cX5_best 110 = .ok (.goto 5, 3) := by decide +kernel
theorem dX5_best_113 : decode cX5_best 113 = .ok (.iload 4, 2) := by decide +kernel
theorem dX5_best_115 : decode cX5_best 115 = .ok (.istore 4, 2) := by decide +kernel
theorem dX5_best_117 : decode cX5_best 117 = .ok (.iinc 5 1, 3) := by decide +kernel
theorem dX5_best_120 : decode cX5_best 120 = .ok (.goto (-78), 3) := by decide +kernel
theorem dX5_best_123 : decode cX5_best 123 = .ok (.iload_n 3, 1) := by decide +kernel
theorem dX5_best_124 : decode cX5_best 124 = .ok (.ireturn, 1) := by decide +kernel
theorem dX5_kind_0 : decode cX5_kind 0 = .ok (.aload_n 0, 1) := by decide +kernel
theorem dX5_kind_1 : decode cX5_kind 1 = .ok (.iload_n 1, 1) := by decide +kernel
theorem dX5_kind_2 : decode cX5_kind 2 = .ok (.invokevirtual 124, 3) := by decide +kernel
theorem dX5_kind_5 : decode cX5_kind 5 = .ok (.ifCond .eq 13, 3) := by decide +kernel
theorem dX5_kind_8 : decode cX5_kind 8 = .ok (.iload_n 2, 1) := by decide +kernel
theorem dX5_kind_9 : decode cX5_kind 9 = .ok (.iconst 1, 1) := by decide +kernel
theorem dX5_kind_10 : decode cX5_kind 10 = .ok (.bipush 40, 2) := by decide +kernel
theorem dX5_kind_12 : decode cX5_kind 12 = .ok (.invokestatic 51, 3) := by decide +kernel
theorem dX5_kind_15 : decode cX5_kind 15 = .ok (.ifCond .ne 10, 3) := by decide +kernel
theorem dX5_kind_18 : decode cX5_kind 18 = .ok (.aload_n 0, 1) := by decide +kernel
theorem dX5_kind_19 : decode cX5_kind 19 = .ok (.ldc 50, 2) := by decide +kernel
theorem dX5_kind_21 : decode cX5_kind 21 = .ok (.invokevirtual 67, 3) := by decide +kernel
theorem dX5_kind_24 : decode cX5_kind 24 = .ok (.ireturn, 1) := by decide +kernel
theorem dX5_kind_25 : decode cX5_kind 25 = .ok (.aload_n 0, 1) := by decide +kernel
theorem dX5_kind_26 : decode cX5_kind 26 = .ok (.iconst 1, 1) := by decide +kernel
theorem dX5_kind_27 : decode cX5_kind 27 = .ok (.aload_n 0, 1) := by decide +kernel
theorem dX5_kind_28 : decode cX5_kind 28 = .ok (.getfield 22, 3) := by decide +kernel
theorem dX5_kind_31 : decode cX5_kind 31 = .ok (.invokevirtual 156, 3) := by decide +kernel
theorem dX5_kind_34 : decode cX5_kind 34 = .ok (.iconst 0, 1) := by decide +kernel
theorem dX5_kind_35 : decode cX5_kind 35 = .ok (.istore_n 3, 1) := by decide +kernel
theorem dX5_kind_36 : decode cX5_kind 36 = .ok (.iconst (-1), 1) := by decide +kernel
theorem dX5_kind_37 : decode cX5_kind 37 = .ok (.istore 4, 2) := by decide +kernel
theorem dX5_kind_39 : decode cX5_kind 39 = .ok (.iconst 0, 1) := by decide +kernel
theorem dX5_kind_40 : decode cX5_kind 40 = .ok (.istore 5, 2) := by decide +kernel
theorem dX5_kind_42 : decode cX5_kind 42 = .ok (.iload 5, 2) := by decide +kernel
theorem dX5_kind_44 : decode cX5_kind 44 = .ok (.bipush 6, 2) := by decide +kernel
theorem dX5_kind_46 : decode cX5_kind 46 = .ok (.if_icmp .ge 58, 3) := by decide +kernel
theorem dX5_kind_49 : decode cX5_kind 49 = .ok (.aload_n 0, 1) := by decide +kernel
theorem dX5_kind_50 : decode cX5_kind 50 = .ok (.iload_n 1, 1) := by decide +kernel
theorem dX5_kind_51 : decode cX5_kind 51 = .ok (.iconst 0, 1) := by decide +kernel
theorem dX5_kind_52 : decode cX5_kind 52 = .ok (.iload 5, 2) := by decide +kernel
theorem dX5_kind_54 : decode cX5_kind 54 = .ok (.invokevirtual 108, 3) := by decide +kernel
theorem dX5_kind_57 : decode cX5_kind 57 = .ok (.aload_n 0, 1) := by decide +kernel
theorem dX5_kind_58 : decode cX5_kind 58 = .ok (.iload_n 1, 1) := by decide +kernel
theorem dX5_kind_59 : decode cX5_kind 59 = .ok (.iload_n 2, 1) := by decide +kernel
theorem dX5_kind_60 : decode cX5_kind 60 = .ok (.invokevirtual 170, 3) := by decide +kernel
theorem dX5_kind_63 : decode cX5_kind 63 = .ok (.invokestatic 74, 3) := by decide +kernel
theorem dX5_kind_66 : decode cX5_kind 66 = .ok (.istore 6, 2) := by decide +kernel
theorem dX5_kind_68 : decode cX5_kind 68 = .ok (.iload 6, 2) := by decide +kernel
theorem dX5_kind_70 : decode cX5_kind 70 = .ok (.iload 4, 2) := by decide +kernel
theorem dX5_kind_72 : decode cX5_kind 72 = .ok (.if_icmp .le 8, 3) := by decide +kernel
theorem dX5_kind_75 : decode cX5_kind 75 = .ok (.iload 5, 2) := by decide +kernel
theorem dX5_kind_77 : decode cX5_kind 77 = .ok (.goto 4, 3) := by decide +kernel
theorem dX5_kind_80 : decode cX5_kind 80 = .ok (.iload_n 3, 1) := by decide +kernel
theorem dX5_kind_81 : decode cX5_kind 81 = .ok (.istore_n 3, 1) := by decide +kernel
theorem dX5_kind_82 : decode cX5_kind 82 = .ok (.iload 6, 2) := by decide +kernel
theorem dX5_kind_84 : decode cX5_kind 84 = .ok (.iload 4, 2) := by decide +kernel
theorem dX5_kind_86 : decode cX5_kind 86 = .ok (.if_icmp .le 8, 3) := by decide +kernel
theorem dX5_kind_89 : decode cX5_kind 89 = .ok (.iload 6, 2) := by decide +kernel
theorem dX5_kind_91 : decode cX5_kind 91 = .ok (.goto 5, 3) := by decide +kernel
theorem dX5_kind_94 : decode cX5_kind 94 = .ok (.iload 4, 2) := by decide +kernel
theorem dX5_kind_96 : decode cX5_kind 96 = .ok (.istore 4, 2) := by decide +kernel
theorem dX5_kind_98 : decode cX5_kind 98 = .ok (.iinc 5 1, 3) := by decide +kernel
theorem dX5_kind_101 : decode cX5_kind 101 = .ok (.goto (-59), 3) := by decide +kernel
theorem dX5_kind_104 : decode cX5_kind 104 = .ok (.iload_n 3, 1) := by decide +kernel
theorem dX5_kind_105 : decode cX5_kind 105 = .ok (.ireturn, 1) := by decide +kernel
theorem dX5_deep_0 : decode cX5_deep 0 = .ok (.aload_n 0, 1) := by decide +kernel
theorem dX5_deep_1 : decode cX5_deep 1 = .ok (.iload_n 1, 1) := by decide +kernel
theorem dX5_deep_2 : decode cX5_deep 2 = .ok (.invokevirtual 124, 3) := by decide +kernel
theorem dX5_deep_5 : decode cX5_deep 5 = .ok (.ifCond .eq 26, 3) := by decide +kernel
theorem dX5_deep_8 : decode cX5_deep 8 = .ok (.aload_n 0, 1) := by decide +kernel
theorem dX5_deep_9 : decode cX5_deep 9 = .ok (.iload_n 2, 1) := by decide +kernel
theorem dX5_deep_10 : decode cX5_deep 10 = .ok (.invokevirtual 124, 3) := by decide +kernel
theorem dX5_deep_13 : decode cX5_deep 13 = .ok (.ifCond .eq 18, 3) := by decide +kernel
theorem dX5_deep_16 : decode cX5_deep 16 = .ok (.iload_n 1, 1) := by decide +kernel
theorem dX5_deep_17 : decode cX5_deep 17 = .ok (.iload_n 2, 1) := by decide +kernel
theorem dX5_deep_18 : decode cX5_deep 18 = .ok (.if_icmp .eq 13, 3) := by decide +kernel
theorem dX5_deep_21 : decode cX5_deep 21 = .ok (.iload_n 3, 1) := by decide +kernel
theorem dX5_deep_22 : decode cX5_deep 22 = .ok (.iconst 0, 1) := by decide +kernel
theorem dX5_deep_23 : decode cX5_deep 23 = .ok (.bipush 40, 2) := by decide +kernel
theorem dX5_deep_25 : decode cX5_deep 25 = .ok (.invokestatic 51, 3) := by decide +kernel
theorem dX5_deep_28 : decode cX5_deep 28 = .ok (.ifCond .ne 10, 3) := by decide +kernel
theorem dX5_deep_31 : decode cX5_deep 31 = .ok (.aload_n 0, 1) := by decide +kernel
theorem dX5_deep_32 : decode cX5_deep 32 = .ok (.ldc 50, 2) := by decide +kernel
theorem dX5_deep_34 : decode cX5_deep 34 = .ok (.invokevirtual 67, 3) := by decide +kernel
theorem dX5_deep_37 : decode cX5_deep 37 = .ok (.ireturn, 1) := by decide +kernel
theorem dX5_deep_38 : decode cX5_deep 38 = .ok (.aload_n 0, 1) := by decide +kernel
theorem dX5_deep_39 : decode cX5_deep 39 = .ok (.iconst 1, 1) := by decide +kernel
theorem dX5_deep_40 : decode cX5_deep 40 = .ok (.aload_n 0, 1) := by decide +kernel
theorem dX5_deep_41 : decode cX5_deep 41 = .ok (.getfield 22, 3) := by decide +kernel
theorem dX5_deep_44 : decode cX5_deep 44 = .ok (.invokevirtual 156, 3) := by decide +kernel
theorem dX5_deep_47 : decode cX5_deep 47 = .ok (.aload_n 0, 1) := by decide +kernel
theorem dX5_deep_48 : decode cX5_deep 48 = .ok (.iload_n 1, 1) := by decide +kernel
theorem dX5_deep_49 : decode cX5_deep 49 = .ok (.iconst 2, 1) := by decide +kernel
theorem dX5_deep_50 : decode cX5_deep 50 = .ok (.invokevirtual 55, 3) := by decide +kernel
theorem dX5_deep_53 : decode cX5_deep 53 = .ok (.istore 4, 2) := by decide +kernel
theorem dX5_deep_55 : decode cX5_deep 55 = .ok (.iconst 0, 1) := by decide +kernel
theorem dX5_deep_56 : decode cX5_deep 56 = .ok (.istore 5, 2) := by decide +kernel
theorem dX5_deep_58 : decode cX5_deep 58 = .ok (.iconst 0, 1) := by decide +kernel
theorem dX5_deep_59 : decode cX5_deep 59 = .ok (.istore 6, 2) := by decide +kernel
theorem dX5_deep_61 : decode cX5_deep 61 = .ok (.iload 5, 2) := by decide +kernel
theorem dX5_deep_63 : decode cX5_deep 63 = .ok (.bipush 9, 2) := by decide +kernel
theorem dX5_deep_65 : decode cX5_deep 65 = .ok (.if_icmp .ge 44, 3) := by decide +kernel
theorem dX5_deep_68 : decode cX5_deep 68 = .ok (.iload 6, 2) := by decide +kernel
theorem dX5_deep_70 : decode cX5_deep 70 = .ok (.ifCond .ne 39, 3) := by decide +kernel
theorem dX5_deep_73 : decode cX5_deep 73 = .ok (.iinc 5 1, 3) := by decide +kernel
theorem dX5_deep_76 : decode cX5_deep 76 = .ok (.aload_n 0, 1) := by decide +kernel
theorem dX5_deep_77 : decode cX5_deep 77 = .ok (.iload_n 1, 1) := by decide +kernel
theorem dX5_deep_78 : decode cX5_deep 78 = .ok (.iconst 3, 1) := by decide +kernel
theorem dX5_deep_79 : decode cX5_deep 79 = .ok (.iload 5, 2) := by decide +kernel
theorem dX5_deep_81 : decode cX5_deep 81 = .ok (.invokevirtual 108, 3) := by decide +kernel
theorem dX5_deep_84 : decode cX5_deep 84 = .ok (.aload_n 0, 1) := by decide +kernel
theorem dX5_deep_85 : decode cX5_deep 85 = .ok (.iload_n 2, 1) := by decide +kernel
theorem dX5_deep_86 : decode cX5_deep 86 = .ok (.iload_n 3, 1) := by decide +kernel
theorem dX5_deep_87 : decode cX5_deep 87 = .ok (.invokevirtual 170, 3) := by decide +kernel
theorem dX5_deep_90 : decode cX5_deep 90 = .ok (.iload 4, 2) := by decide +kernel
theorem dX5_deep_92 : decode cX5_deep 92 = .ok (.ishr, 1) := by decide +kernel
theorem dX5_deep_93 : decode cX5_deep 93 = .ok (.iconst 1, 1) := by decide +kernel
theorem dX5_deep_94 : decode cX5_deep 94 = .ok (.iand, 1) := by decide +kernel
theorem dX5_deep_95 : decode cX5_deep 95 = .ok (.iconst 1, 1) := by decide +kernel
theorem dX5_deep_96 : decode cX5_deep 96 = .ok (.if_icmp .ne 7, 3) := by decide +kernel
theorem dX5_deep_99 : decode cX5_deep 99 = .ok (.iconst 1, 1) := by decide +kernel
theorem dX5_deep_100 : decode cX5_deep 100 = .ok (.goto 4, 3) := by decide +kernel
theorem dX5_deep_103 : decode cX5_deep 103 = .ok (.iconst 0, 1) := by decide +kernel
theorem dX5_deep_104 : decode cX5_deep 104 = .ok (.istore 6, 2) := by decide +kernel
theorem dX5_deep_106 : decode cX5_deep 106 = .ok (.goto (-45), 3) := by decide +kernel
theorem dX5_deep_109 : decode cX5_deep 109 = .ok (.iload 6, 2) := by decide +kernel
theorem dX5_deep_111 : decode cX5_deep 111 = .ok (.ifCond .eq 8, 3) := by decide +kernel
theorem dX5_deep_114 : decode cX5_deep 114 = .ok (.iload 5, 2) := by decide +kernel
theorem dX5_deep_116 : decode cX5_deep 116 = .ok (.goto 9, 3) := by decide +kernel
theorem dX5_deep_119 : decode cX5_deep 119 = .ok (.aload_n 0, 1) := by decide +kernel
theorem dX5_deep_120 : decode cX5_deep 120 = .ok (.ldc 92, 2) := by decide +kernel
theorem dX5_deep_122 : decode cX5_deep 122 = .ok (.invokevirtual 67, 3) := by decide +kernel
theorem dX5_deep_125 : decode cX5_deep 125 = .ok (.ireturn, 1) := by decide +kernel
theorem dX5_shift_0 : decode cX5_shift 0 = .ok (.iload_n 1, 1) := by decide +kernel
theorem dX5_shift_1 : decode cX5_shift 1 = .ok (.iconst 1, 1) := by decide +kernel
theorem dX5_shift_2 : decode cX5_shift 2 = .ok (.bipush 40, 2) := by decide +kernel
theorem dX5_shift_4 : decode cX5_shift 4 = .ok (.invokestatic 51, 3) := by decide +kernel
theorem dX5_shift_7 : decode cX5_shift 7 = .ok (.ifCond .ne 10, 3) := by decide +kernel
theorem dX5_shift_10 : decode cX5_shift 10 = .ok (.aload_n 0, 1) := by decide +kernel
theorem dX5_shift_11 : decode cX5_shift 11 = .ok (.ldc 50, 2) := by decide +kernel
theorem dX5_shift_13 : decode cX5_shift 13 = .ok (.invokevirtual 67, 3) := by decide +kernel
theorem dX5_shift_16 : decode cX5_shift 16 = .ok (.ireturn, 1) := by decide +kernel
theorem dX5_shift_17 : decode cX5_shift 17 = .ok (.iconst 0, 1) := by decide +kernel
theorem dX5_shift_18 : decode cX5_shift 18 = .ok (.istore_n 2, 1) := by decide +kernel
theorem dX5_shift_19 : decode cX5_shift 19 = .ok (.aload_n 0, 1) := by decide +kernel
theorem dX5_shift_20 : decode cX5_shift 20 = .ok (.iload_n 2, 1) := by decide +kernel
theorem dX5_shift_21 : decode cX5_shift 21 = .ok (.invokevirtual 63, 3) := by decide +kernel
theorem dX5_shift_24 : decode cX5_shift 24 = .ok (.ifCond .lt 9, 3) := by decide +kernel
theorem dX5_shift_27 : decode cX5_shift 27 = .ok (.iinc 2 1, 3) := by decide +kernel
theorem dX5_shift_30 : decode cX5_shift 30 = .ok (.goto (-11), 3) := by decide +kernel
theorem dX5_shift_33 : decode cX5_shift 33 = .ok (.aload_n 0, 1) := by decide +kernel
theorem dX5_shift_34 : decode cX5_shift 34 = .ok (.iconst 1, 1) := by decide +kernel
theorem dX5_shift_35 : decode cX5_shift 35 = .ok (.aload_n 0, 1) := by decide +kernel
theorem dX5_shift_36 : decode cX5_shift 36 = .ok (.getfield 22, 3) := by decide +kernel
theorem dX5_shift_39 : decode cX5_shift 39 = .ok (.invokevirtual 156, 3) := by decide +kernel
theorem dX5_shift_42 : decode cX5_shift 42 = .ok (.iconst (-1), 1) := by decide +kernel
theorem dX5_shift_43 : decode cX5_shift 43 = .ok (.istore_n 3, 1) := by decide +kernel
theorem dX5_shift_44 : decode cX5_shift 44 = .ok (.iconst (-1), 1) := by decide +kernel
theorem dX5_shift_45 : decode cX5_shift 45 = .ok (.istore 4, 2) := by decide +kernel
theorem dX5_shift_47 : decode cX5_shift 47 = .ok (.iconst 0, 1) := by decide +kernel
theorem dX5_shift_48 : decode cX5_shift 48 = .ok (.istore 5, 2) := by decide +kernel
theorem dX5_shift_50 : decode cX5_shift 50 = .ok (.iload 5, 2) := by decide +kernel
theorem dX5_shift_52 : decode cX5_shift 52 = .ok (.aload_n 0, 1) := by decide +kernel
theorem dX5_shift_53 : decode cX5_shift 53 = .ok (.getfield 7, 3) := by decide +kernel
theorem dX5_shift_56 : decode cX5_shift 56 = .ok (.iconst 1, 1) := by decide +kernel
theorem dX5_shift_57 : decode cX5_shift 57 = .ok (.iaload, 1) := by decide +kernel
theorem dX5_shift_58 : decode cX5_shift 58 = .ok (.if_icmp .ge 67, 3) := by decide +kernel
theorem dX5_shift_61 : decode cX5_shift 61 = .ok (.aload_n 0, 1) := by decide +kernel
theorem dX5_shift_62 : decode cX5_shift 62 = .ok (.iload 5, 2) := by decide +kernel
theorem dX5_shift_64 : decode cX5_shift 64 = .ok (.iconst 1, 1) := by decide +kernel
theorem dX5_shift_65 : decode cX5_shift 65 = .ok (.iload_n 2, 1) := by decide +kernel
theorem dX5_shift_66 : decode cX5_shift 66 = .ok (.invokevirtual 108, 3) := by decide +kernel
theorem dX5_shift_69 : decode cX5_shift 69 = .ok (.aload_n 0, 1) := by decide +kernel
theorem dX5_shift_70 : decode cX5_shift 70 = .ok (.iload_n 1, 1) := by decide +kernel
theorem dX5_shift_71 : decode cX5_shift 71 = .ok (.invokevirtual 152, 3) := by decide +kernel
theorem dX5_shift_74 : decode cX5_shift 74 = .ok (.aload_n 0, 1) := by decide +kernel
theorem dX5_shift_75 : decode cX5_shift 75 = .ok (.invokevirtual 86, 3) := by decide +kernel
theorem dX5_shift_78 : decode cX5_shift 78 = .ok (.istore 6, 2) := by decide +kernel
theorem dX5_shift_80 : decode cX5_shift 80 = .ok (.aload_n 0, 1) := by decide +kernel
theorem dX5_shift_81 : decode cX5_shift 81 = .ok (.iconst 0, 1) := by decide +kernel
theorem dX5_shift_82 : decode cX5_shift 82 = .ok (.aload_n 0, 1) := by decide +kernel
theorem dX5_shift_83 : decode cX5_shift 83 = .ok (.getfield 22, 3) := by decide +kernel
theorem dX5_shift_86 : decode cX5_shift 86 = .ok (.invokevirtual 156, 3) := by decide +kernel
theorem dX5_shift_89 : decode cX5_shift 89 = .ok (.iload 6, 2) := by decide +kernel
theorem dX5_shift_91 : decode cX5_shift 91 = .ok (.iload 4, 2) := by decide +kernel
theorem dX5_shift_93 : decode cX5_shift 93 = .ok (.if_icmp .le 8, 3) := by decide +kernel
theorem dX5_shift_96 : decode cX5_shift 96 = .ok (.iload 5, 2) := by decide +kernel
theorem dX5_shift_98 : decode cX5_shift 98 = .ok (.goto 4, 3) := by decide +kernel
theorem dX5_shift_101 : decode cX5_shift 101 = .ok (.iload_n 3, 1) := by decide +kernel
theorem dX5_shift_102 : decode cX5_shift 102 = .ok (.istore_n 3, 1) := by decide +kernel
theorem dX5_shift_103 : decode cX5_shift 103 = .ok (.iload 6, 2) := by decide +kernel
theorem dX5_shift_105 : decode cX5_shift 105 = .ok (.iload 4, 2) := by decide +kernel
theorem dX5_shift_107 : decode cX5_shift 107 = .ok (.if_icmp .le 8, 3) := by decide +kernel
theorem dX5_shift_110 : decode cX5_shift 110 = .ok (.iload 6, 2) := by decide +kernel
theorem dX5_shift_112 : decode cX5_shift 112 = .ok (.goto 5, 3) := by decide +kernel
theorem dX5_shift_115 : decode cX5_shift 115 = .ok (.iload 4, 2) := by decide +kernel
theorem dX5_shift_117 : decode cX5_shift 117 = .ok (.istore 4, 2) := by decide +kernel
theorem dX5_shift_119 : decode cX5_shift 119 = .ok (.iinc 5 1, 3) := by decide +kernel
theorem dX5_shift_122 : decode cX5_shift 122 = .ok (.goto (-72), 3) := by decide +kernel
theorem dX5_shift_125 : decode cX5_shift 125 = .ok (.iload_n 3, 1) := by decide +kernel
theorem dX5_shift_126 : decode cX5_shift 126 = .ok (.ifCond .ge 12, 3) := by decide +kernel
theorem dX5_shift_129 : decode cX5_shift 129 = .ok (.aload_n 0, 1) := by decide +kernel
theorem dX5_shift_130 : decode cX5_shift 130 = .ok (.ldc 92, 2) := by decide +kernel
theorem dX5_shift_132 : decode cX5_shift 132 = .ok (.invokevirtual 67, 3) := by decide +kernel
theorem dX5_shift_135 : decode cX5_shift 135 = .ok (.goto 4, 3) := by decide +kernel
theorem dX5_shift_138 : decode cX5_shift 138 = .ok (.iload_n 3, 1) := by decide +kernel
theorem dX5_shift_139 : decode cX5_shift 139 = .ok (.ireturn, 1) := by decide +kernel
theorem dX5_bears_0 : decode cX5_bears 0 = .ok (.aload_n 0, 1) := by decide +kernel
theorem dX5_bears_1 : decode cX5_bears 1 = .ok (.iload_n 1, 1) := by decide +kernel
theorem dX5_bears_2 : decode cX5_bears 2 = .ok (.invokevirtual 124, 3) := by decide +kernel
theorem dX5_bears_5 : decode cX5_bears 5 = .ok (.ifCond .eq 23, 3) := by decide +kernel
theorem dX5_bears_8 : decode cX5_bears 8 = .ok (.iload_n 2, 1) := by decide +kernel
theorem dX5_bears_9 : decode cX5_bears 9 = .ok (.iconst 0, 1) := by decide +kernel
theorem dX5_bears_10 : decode cX5_bears 10 = .ok (.bipush 40, 2) := by decide +kernel
theorem dX5_bears_12 : decode cX5_bears 12 = .ok (.invokestatic 51, 3) := by decide +kernel
theorem dX5_bears_15 : decode cX5_bears 15 = .ok (.ifCond .eq 13, 3) := by decide +kernel
theorem dX5_bears_18 : decode cX5_bears 18 = .ok (.iload_n 3, 1) := by decide +kernel
theorem dX5_bears_19 : decode cX5_bears 19 = .ok (.iconst 0, 1) := by decide +kernel
theorem dX5_bears_20 : decode cX5_bears 20 = .ok (.bipush 10, 2) := by decide +kernel
theorem dX5_bears_22 : decode cX5_bears 22 = .ok (.invokestatic 51, 3) := by decide +kernel
theorem dX5_bears_25 : decode cX5_bears 25 = .ok (.ifCond .ne 10, 3) := by decide +kernel
theorem dX5_bears_28 : decode cX5_bears 28 = .ok (.aload_n 0, 1) := by decide +kernel
theorem dX5_bears_29 : decode cX5_bears 29 = .ok (.ldc 50, 2) := by decide +kernel
theorem dX5_bears_31 : decode cX5_bears 31 = .ok (.invokevirtual 67, 3) := by decide +kernel
theorem dX5_bears_34 : decode cX5_bears 34 = .ok (.ireturn, 1) := by decide +kernel
theorem dX5_bears_35 : decode cX5_bears 35 = .ok (.aload_n 0, 1) := by decide +kernel
theorem dX5_bears_36 : decode cX5_bears 36 = .ok (.iconst 1, 1) := by decide +kernel
theorem dX5_bears_37 : decode cX5_bears 37 = .ok (.aload_n 0, 1) := by decide +kernel
theorem dX5_bears_38 : decode cX5_bears 38 = .ok (.getfield 22, 3) := by decide +kernel
theorem dX5_bears_41 : decode cX5_bears 41 = .ok (.invokevirtual 156, 3) := by decide +kernel
theorem dX5_bears_44 : decode cX5_bears 44 = .ok (.bipush 100, 2) := by decide +kernel
theorem dX5_bears_46 : decode cX5_bears 46 = .ok (.istore 4, 2) := by decide +kernel
theorem dX5_bears_48 : decode cX5_bears 48 = .ok (.iconst 0, 1) := by decide +kernel
theorem dX5_bears_49 : decode cX5_bears 49 = .ok (.istore 5, 2) := by decide +kernel
theorem dX5_bears_51 : decode cX5_bears 51 = .ok (.iload 4, 2) := by decide +kernel
theorem dX5_bears_53 : decode cX5_bears 53 = .ok (.ifCond .le 42, 3) := by decide +kernel
theorem dX5_bears_56 : decode cX5_bears 56 = .ok (.iload 5, 2) := by decide +kernel
theorem dX5_bears_58 : decode cX5_bears 58 = .ok (.ifCond .ne 37, 3) := by decide +kernel
theorem dX5_bears_61 : decode cX5_bears 61 = .ok (.iinc 4 (-1), 3) := by decide +kernel
theorem dX5_bears_64 : decode cX5_bears 64 = .ok (.aload_n 0, 1) := by decide +kernel
theorem dX5_bears_65 : decode cX5_bears 65 = .ok (.iload_n 1, 1) := by decide +kernel
theorem dX5_bears_66 : decode cX5_bears 66 = .ok (.iconst 5, 1) := by decide +kernel
theorem dX5_bears_67 : decode cX5_bears 67 = .ok (.iload 4, 2) := by decide +kernel
theorem dX5_bears_69 : decode cX5_bears 69 = .ok (.invokevirtual 108, 3) := by decide +kernel
theorem dX5_bears_72 : decode cX5_bears 72 = .ok (.aload_n 0, 1) := by decide +kernel
theorem dX5_bears_73 : decode cX5_bears 73 = .ok (.iload_n 1, 1) := by decide +kernel
theorem dX5_bears_74 : decode cX5_bears 74 = .ok (.iload_n 2, 1) := by decide +kernel
theorem dX5_bears_75 : decode cX5_bears 75 = .ok (.invokevirtual 170, 3) := by decide +kernel
theorem dX5_bears_78 : decode cX5_bears 78 = .ok (.invokestatic 74, 3) := by decide +kernel
theorem dX5_bears_81 : decode cX5_bears 81 = .ok (.iload_n 3, 1) := by decide +kernel
theorem dX5_bears_82 : decode cX5_bears 82 = .ok (.if_icmp .lt 7, 3) := by decide +kernel
theorem dX5_bears_85 : decode cX5_bears 85 = .ok (.iconst 1, 1) := by decide +kernel
theorem dX5_bears_86 : decode cX5_bears 86 = .ok (.goto 4, 3) := by decide +kernel
theorem dX5_bears_89 : decode cX5_bears 89 = .ok (.iconst 0, 1) := by decide +kernel
theorem dX5_bears_90 : decode cX5_bears 90 = .ok (.istore 5, 2) := by decide +kernel
theorem dX5_bears_92 : decode cX5_bears 92 = .ok (.goto (-41), 3) := by decide +kernel
theorem dX5_bears_95 : decode cX5_bears 95 = .ok (.iload 5, 2) := by decide +kernel
theorem dX5_bears_97 : decode cX5_bears 97 = .ok (.ifCond .eq 8, 3) := by decide +kernel
theorem dX5_bears_100 : decode cX5_bears 100 = .ok (.iload 4, 2) := by decide +kernel
theorem dX5_bears_102 : decode cX5_bears 102 = .ok (.goto 9, 3) := by decide +kernel
theorem dX5_bears_105 : decode cX5_bears 105 = .ok (.aload_n 0, 1) := by decide +kernel
theorem dX5_bears_106 : decode cX5_bears 106 = .ok (.ldc 92, 2) := by decide +kernel
theorem dX5_bears_108 : decode cX5_bears 108 = .ok (.invokevirtual 67, 3) := by decide +kernel
theorem dX5_bears_111 : decode cX5_bears 111 = .ok (.ireturn, 1) := by decide +kernel
theorem dX5_wisest_0 : decode cX5_wisest 0 = .ok (.iload_n 1, 1) := by decide +kernel
theorem dX5_wisest_1 : decode cX5_wisest 1 = .ok (.iconst 0, 1) := by decide +kernel
theorem dX5_wisest_2 : decode cX5_wisest 2 = .ok (.bipush 100, 2) := by decide +kernel
theorem dX5_wisest_4 : decode cX5_wisest 4 = .ok (.invokestatic 51, 3) := by decide +kernel
theorem dX5_wisest_7 : decode cX5_wisest 7 = .ok (.ifCond .ne 10, 3) := by decide +kernel
theorem dX5_wisest_10 : decode cX5_wisest 10 = .ok (.aload_n 0, 1) := by decide +kernel
theorem dX5_wisest_11 : decode cX5_wisest 11 = .ok (.ldc 50, 2) := by decide +kernel
theorem dX5_wisest_13 : decode cX5_wisest 13 = .ok (.invokevirtual 67, 3) := by decide +kernel
theorem dX5_wisest_16 : decode cX5_wisest 16 = .ok (.ireturn, 1) := by decide +kernel
theorem dX5_wisest_17 : decode cX5_wisest 17 = .ok (.aload_n 0, 1) := by decide +kernel
theorem dX5_wisest_18 : decode cX5_wisest 18 = .ok (.iconst 1, 1) := by decide +kernel
theorem dX5_wisest_19 : decode cX5_wisest 19 = .ok (.aload_n 0, 1) := by decide +kernel
theorem dX5_wisest_20 : decode cX5_wisest 20 = .ok (.getfield 22, 3) := by decide +kernel
theorem dX5_wisest_23 : decode cX5_wisest 23 = .ok (.invokevirtual 156, 3) := by decide +kernel
theorem dX5_wisest_26 : decode cX5_wisest 26 = .ok (.aload_n 0, 1) := by decide +kernel
theorem dX5_wisest_27 : decode cX5_wisest 27 = .ok (.iload_n 1, 1) := by decide +kernel
theorem dX5_wisest_28 : decode cX5_wisest 28 = .ok (.invokevirtual 152, 3) := by decide +kernel
theorem dX5_wisest_31 : decode cX5_wisest 31 = .ok (.iconst (-1), 1) := by decide +kernel
theorem dX5_wisest_32 : decode cX5_wisest 32 = .ok (.istore_n 2, 1) := by decide +kernel
theorem dX5_wisest_33 : decode cX5_wisest 33 = .ok (.iconst 0, 1) := by decide +kernel
theorem dX5_wisest_34 : decode cX5_wisest 34 = .ok (.istore_n 3, 1) := by decide +kernel
theorem dX5_wisest_35 : decode cX5_wisest 35 = .ok (.iload_n 3, 1) := by decide +kernel
theorem dX5_wisest_36 : decode cX5_wisest 36 = .ok (.aload_n 0, 1) := by decide +kernel
theorem dX5_wisest_37 : decode cX5_wisest 37 = .ok (.getfield 7, 3) := by decide +kernel
theorem dX5_wisest_40 : decode cX5_wisest 40 = .ok (.iconst 1, 1) := by decide +kernel
theorem dX5_wisest_41 : decode cX5_wisest 41 = .ok (.iaload, 1) := by decide +kernel
theorem dX5_wisest_42 : decode cX5_wisest 42 = .ok (.if_icmp .ge 40, 3) := by decide +kernel
theorem dX5_wisest_45 : decode cX5_wisest 45 = .ok (.iload_n 2, 1) := by decide +kernel
theorem dX5_wisest_46 : decode cX5_wisest 46 = .ok (.ifCond .lt 24, 3) := by decide +kernel
theorem dX5_wisest_49 : decode cX5_wisest 49 = .ok (.aload_n 0, 1) := by decide +kernel
theorem dX5_wisest_50 : decode cX5_wisest 50 = .ok (.iload_n 3, 1) := by decide +kernel
theorem dX5_wisest_51 : decode cX5_wisest 51 = .ok (.iconst 4, 1) := by decide +kernel
theorem dX5_wisest_52 : decode cX5_wisest 52 = .ok (.invokevirtual 55, 3) := by decide +kernel
theorem dX5_wisest_55 : decode cX5_wisest 55 = .ok (.invokestatic 74, 3) := by decide +kernel
theorem dX5_wisest_58 : decode cX5_wisest 58 = .ok (.aload_n 0, 1) := by decide +kernel
theorem dX5_wisest_59 : decode cX5_wisest 59 = .ok (.iload_n 2, 1) := by decide +kernel
theorem dX5_wisest_60 : decode cX5_wisest 60 = .ok (.iconst 4, 1) := by decide +kernel
theorem dX5_wisest_61 : decode cX5_wisest 61 = .ok (.invokevirtual 55, 3) := by decide +kernel
theorem dX5_wisest_64 : decode cX5_wisest 64 = .ok (.invokestatic 74, 3) := by decide +kernel
theorem dX5_wisest_67 : decode cX5_wisest 67 = .ok (.if_icmp .le 7, 3) := by decide +kernel
theorem dX5_wisest_70 : decode cX5_wisest 70 = .ok (.iload_n 3, 1) := by decide +kernel
theorem dX5_wisest_71 : decode cX5_wisest 71 = .ok (.goto 4, 3) := by decide +kernel
theorem dX5_wisest_74 : decode cX5_wisest 74 = .ok (.iload_n 2, 1) := by decide +kernel
theorem dX5_wisest_75 : decode cX5_wisest 75 = .ok (.istore_n 2, 1) := by decide +kernel
theorem dX5_wisest_76 : decode cX5_wisest 76 = .ok (.iinc 3 1, 3) := by decide +kernel
theorem dX5_wisest_79 : decode cX5_wisest 79 = .ok (.goto (-44), 3) := by decide +kernel
theorem dX5_wisest_82 : decode cX5_wisest 82 = .ok (.aload_n 0, 1) := by decide +kernel
theorem dX5_wisest_83 : decode cX5_wisest 83 = .ok (.iconst 0, 1) := by decide +kernel
theorem dX5_wisest_84 : decode cX5_wisest 84 = .ok (.aload_n 0, 1) := by decide +kernel
theorem dX5_wisest_85 : decode cX5_wisest 85 = .ok (.getfield 22, 3) := by decide +kernel
theorem dX5_wisest_88 : decode cX5_wisest 88 = .ok (.invokevirtual 156, 3) := by decide +kernel
theorem dX5_wisest_91 : decode cX5_wisest 91 = .ok (.iload_n 2, 1) := by decide +kernel
theorem dX5_wisest_92 : decode cX5_wisest 92 = .ok (.ifCond .ge 12, 3) := by decide +kernel
theorem dX5_wisest_95 : decode cX5_wisest 95 = .ok (.aload_n 0, 1) := by decide +kernel
theorem dX5_wisest_96 : decode cX5_wisest 96 = .ok (.ldc 92, 2) := by decide +kernel
theorem dX5_wisest_98 : decode cX5_wisest 98 = .ok (.invokevirtual 67, 3) := by decide +kernel
theorem dX5_wisest_101 : decode cX5_wisest 101 = .ok (.goto 4, 3) := by decide +kernel
theorem dX5_wisest_104 : decode cX5_wisest 104 = .ok (.iload_n 2, 1) := by decide +kernel
theorem dX5_wisest_105 : decode cX5_wisest 105 = .ok (.ireturn, 1) := by decide +kernel
theorem dX5_feed_0 : decode cX5_feed 0 = .ok (.iload_n 2, 1) := by decide +kernel
theorem dX5_feed_1 : decode cX5_feed 1 = .ok (.iconst 1, 1) := by decide +kernel
theorem dX5_feed_2 : decode cX5_feed 2 = .ok (.iconst 4, 1) := by decide +kernel
theorem dX5_feed_3 : decode cX5_feed 3 = .ok (.invokestatic 51, 3) := by decide +kernel
theorem dX5_feed_6 : decode cX5_feed 6 = .ok (.ifCond .ne 10, 3) := by decide +kernel
theorem dX5_feed_9 : decode cX5_feed 9 = .ok (.aload_n 0, 1) := by decide +kernel
theorem dX5_feed_10 : decode cX5_feed 10 = .ok (.ldc 50, 2) := by decide +kernel
theorem dX5_feed_12 : decode cX5_feed 12 = .ok (.invokevirtual 67, 3) := by decide +kernel
theorem dX5_feed_15 : decode cX5_feed 15 = .ok (.ireturn, 1) := by decide +kernel
theorem dX5_feed_16 : decode cX5_feed 16 = .ok (.aload_n 0, 1) := by decide +kernel
theorem dX5_feed_17 : decode cX5_feed 17 = .ok (.getfield 173, 3) := by decide +kernel
theorem dX5_feed_20 : decode cX5_feed 20 = .ok (.iload_n 2, 1) := by decide +kernel
theorem dX5_feed_21 : decode cX5_feed 21 = .ok (.iadd, 1) := by decide +kernel
theorem dX5_feed_22 : decode cX5_feed 22 = .ok (.bipush 120, 2) := by decide +kernel
theorem dX5_feed_24 : decode cX5_feed 24 = .ok (.if_icmp .le 10, 3) := by decide +kernel
theorem dX5_feed_27 : decode cX5_feed 27 = .ok (.aload_n 0, 1) := by decide +kernel
theorem dX5_feed_28 : decode cX5_feed 28 = .ok (.ldc 118, 2) := by decide +kernel
theorem dX5_feed_30 : decode cX5_feed 30 = .ok (.invokevirtual 67, 3) := by decide +kernel
theorem dX5_feed_33 : decode cX5_feed 33 = .ok (.ireturn, 1) := by decide +kernel
theorem dX5_feed_34 : decode cX5_feed 34 = .ok (.iload_n 2, 1) := by decide +kernel
theorem dX5_feed_35 : decode cX5_feed 35 = .ok (.iconst 1, 1) := by decide +kernel
theorem dX5_feed_36 : decode cX5_feed 36 = .ok (.isub, 1) := by decide +kernel
theorem dX5_feed_37 : decode cX5_feed 37 = .ok (.istore_n 3, 1) := by decide +kernel
theorem dX5_feed_38 : decode cX5_feed 38 = .ok (.iload_n 3, 1) := by decide +kernel
theorem dX5_feed_39 : decode cX5_feed 39 = .ok (.ifCond .lt 38, 3) := by decide +kernel
theorem dX5_feed_42 : decode cX5_feed 42 = .ok (.aload_n 0, 1) := by decide +kernel
theorem dX5_feed_43 : decode cX5_feed 43 = .ok (.getfield 28, 3) := by decide +kernel
theorem dX5_feed_46 : decode cX5_feed 46 = .ok (.aload_n 0, 1) := by decide +kernel
theorem dX5_feed_47 : decode cX5_feed 47 = .ok (.getfield 173, 3) := by decide +kernel
theorem dX5_feed_50 : decode cX5_feed 50 = .ok (.iload_n 1, 1) := by decide +kernel
theorem dX5_feed_51 : decode cX5_feed 51 = .ok (.bipush 8, 2) := by decide +kernel
theorem dX5_feed_53 : decode cX5_feed 53 = .ok (.iload_n 3, 1) := by decide +kernel
theorem dX5_feed_54 : decode cX5_feed 54 = .ok (.imul, 1) := by decide +kernel
theorem dX5_feed_55 : decode cX5_feed 55 = .ok (.ishr, 1) := by decide +kernel
theorem dX5_feed_56 : decode cX5_feed 56 = .ok (.sipush 255, 3) := by decide +kernel
theorem dX5_feed_59 : decode cX5_feed 59 = .ok (.iand, 1) := by decide +kernel
theorem dX5_feed_60 : decode cX5_feed 60 = .ok (.iastore, 1) := by decide +kernel
theorem dX5_feed_61 : decode cX5_feed 61 = .ok (.aload_n 0, 1) := by decide +kernel
theorem dX5_feed_62 : decode cX5_feed 62 = .ok (.dup, 1) := by decide +kernel
theorem dX5_feed_63 : decode cX5_feed 63 = .ok (.getfield 173, 3) := by decide +kernel
theorem dX5_feed_66 : decode cX5_feed 66 = .ok (.iconst 1, 1) := by decide +kernel
theorem dX5_feed_67 : decode cX5_feed 67 = .ok (.iadd, 1) := by decide +kernel
theorem dX5_feed_68 : decode cX5_feed 68 = .ok (.putfield 173, 3) := by decide +kernel
theorem dX5_feed_71 : decode cX5_feed 71 = .ok (.iinc 3 (-1), 3) := by decide +kernel
theorem dX5_feed_74 : decode cX5_feed 74 = .ok (.goto (-36), 3) := by decide +kernel
theorem dX5_feed_77 : decode cX5_feed 77 = .ok (.aload_n 0, 1) := by decide +kernel
theorem dX5_feed_78 : decode cX5_feed 78 = .ok (.getfield 173, 3) := by decide +kernel
theorem dX5_feed_81 : decode cX5_feed 81 = .ok (.ireturn, 1) := by decide +kernel
theorem dX5_wipe_0 : decode cX5_wipe 0 = .ok (.aload_n 0, 1) := by decide +kernel
theorem dX5_wipe_1 : decode cX5_wipe 1 = .ok (.getfield 173, 3) := by decide +kernel
theorem dX5_wipe_4 : decode cX5_wipe 4 = .ok (.istore_n 1, 1) := by decide +kernel
theorem dX5_wipe_5 : decode cX5_wipe 5 = .ok (.aload_n 0, 1) := by decide +kernel
theorem dX5_wipe_6 : decode cX5_wipe 6 = .ok (.iconst 0, 1) := by decide +kernel
theorem dX5_wipe_7 : decode cX5_wipe 7 = .ok (.putfield 173, 3) := by decide +kernel
theorem dX5_wipe_10 : decode cX5_wipe 10 = .ok (.iload_n 1, 1) := by decide +kernel
theorem dX5_wipe_11 : decode cX5_wipe 11 = .ok (.ireturn, 1) := by decide +kernel
theorem dX5_byteAt_0 : decode cX5_byteAt 0 = .ok (.iload_n 1, 1) := by decide +kernel
theorem dX5_byteAt_1 : decode cX5_byteAt 1 = .ok (.aload_n 0, 1) := by decide +kernel
theorem dX5_byteAt_2 : decode cX5_byteAt 2 = .ok (.getfield 173, 3) := by decide +kernel
theorem dX5_byteAt_5 : decode cX5_byteAt 5 = .ok (.if_icmp .ge 12, 3) := by decide +kernel
theorem dX5_byteAt_8 : decode cX5_byteAt 8 = .ok (.aload_n 0, 1) := by decide +kernel
theorem dX5_byteAt_9 : decode cX5_byteAt 9 = .ok (.getfield 28, 3) := by decide +kernel
theorem dX5_byteAt_12 : decode cX5_byteAt 12 = .ok (.iload_n 1, 1) := by decide +kernel
theorem dX5_byteAt_13 : decode cX5_byteAt 13 = .ok (.iaload, 1) := by decide +kernel
theorem dX5_byteAt_14 : decode cX5_byteAt 14 = .ok (.goto 4, 3) := by decide +kernel
theorem dX5_byteAt_17 : decode cX5_byteAt 17 = .ok (.iconst (-1), 1) := by decide +kernel
theorem dX5_byteAt_18 : decode cX5_byteAt 18 = .ok (.ireturn, 1) := by decide +kernel
theorem dX5_isLetter_0 : decode cX5_isLetter 0 = .ok (.iload_n 0, 1) := by decide +kernel
theorem dX5_isLetter_1 : decode cX5_isLetter 1 = .ok (.bipush 97, 2) := by decide +kernel
theorem dX5_isLetter_3 : decode cX5_isLetter 3 = .ok (.bipush 122, 2) := by decide +kernel
theorem dX5_isLetter_5 : decode cX5_isLetter 5 = .ok (.invokestatic 51, 3) := by decide +kernel
theorem dX5_isLetter_8 : decode cX5_isLetter 8 = .ok (.ireturn, 1) := by decide +kernel
theorem dX5_isDigit_0 : decode cX5_isDigit 0 = .ok (.iload_n 0, 1) := by decide +kernel
theorem dX5_isDigit_1 : decode cX5_isDigit 1 = .ok (.bipush 48, 2) := by decide +kernel
theorem dX5_isDigit_3 : decode cX5_isDigit 3 = .ok (.bipush 57, 2) := by decide +kernel
theorem dX5_isDigit_5 : decode cX5_isDigit 5 = .ok (.invokestatic 51, 3) := by decide +kernel
theorem dX5_isDigit_8 : decode cX5_isDigit 8 = .ok (.ireturn, 1) := by decide +kernel
theorem dX5_advance_0 : decode cX5_advance 0 = .ok (.aload_n 0, 1) := by decide +kernel
theorem dX5_advance_1 : decode cX5_advance 1 = .ok (.aload_n 0, 1) := by decide +kernel
theorem dX5_advance_2 : decode cX5_advance 2 = .ok (.getfield 177, 3) := by decide +kernel
theorem dX5_advance_5 : decode cX5_advance 5 = .ok (.putfield 180, 3) := by decide +kernel
theorem dX5_advance_8 : decode cX5_advance 8 = .ok (.aload_n 0, 1) := by decide +kernel
theorem dX5_advance_9 : decode cX5_advance 9 = .ok (.aload_n 0, 1) := by decide +kernel
theorem dX5_advance_10 : decode cX5_advance 10 = .ok (.getfield 180, 3) := by decide +kernel
theorem dX5_advance_13 : decode cX5_advance 13 = .ok (.invokevirtual 183, 3) := by decide +kernel
theorem dX5_advance_16 : decode cX5_advance 16 = .ok (.bipush 32, 2) := by decide +kernel
theorem dX5_advance_18 : decode cX5_advance 18 = .ok (.if_icmp .ne 16, 3) := by decide +kernel
theorem dX5_advance_21 : decode cX5_advance 21 = .ok (.aload_n 0, 1) := by decide +kernel
theorem dX5_advance_22 : decode cX5_advance 22 = .ok (.dup, 1) := by decide +kernel
theorem dX5_advance_23 : decode cX5_advance 23 = .ok (.getfield 180, 3) := by decide +kernel
theorem dX5_advance_26 : decode cX5_advance 26 = .ok (.iconst 1, 1) := by decide +kernel
theorem dX5_advance_27 : decode cX5_advance 27 = .ok (.iadd, 1) := by decide +kernel
theorem dX5_advance_28 : decode cX5_advance 28 = .ok (.putfield 180, 3) := by decide +kernel
theorem dX5_advance_31 : decode cX5_advance 31 = .ok (.goto (-23), 3) := by decide +kernel
theorem dX5_advance_34 : decode cX5_advance 34 = .ok (.aload_n 0, 1) := by decide +kernel
theorem dX5_advance_35 : decode cX5_advance 35 = .ok (.aload_n 0, 1) := by decide +kernel
theorem dX5_advance_36 : decode cX5_advance 36 = .ok (.getfield 180, 3) := by decide +kernel
theorem dX5_advance_39 : decode cX5_advance 39 = .ok (.putfield 177, 3) := by decide +kernel
theorem dX5_advance_42 : decode cX5_advance 42 = .ok (.aload_n 0, 1) := by decide +kernel
theorem dX5_advance_43 : decode cX5_advance 43 = .ok (.aload_n 0, 1) := by decide +kernel
theorem dX5_advance_44 : decode cX5_advance 44 = .ok (.getfield 180, 3) := by decide +kernel
theorem dX5_advance_47 : decode cX5_advance 47 = .ok (.invokevirtual 183, 3) := by decide +kernel
theorem dX5_advance_50 : decode cX5_advance 50 = .ok (.istore_n 1, 1) := by decide +kernel
theorem dX5_advance_51 : decode cX5_advance 51 = .ok (.aload_n 0, 1) := by decide +kernel
theorem dX5_advance_52 : decode cX5_advance 52 = .ok (.iload_n 1, 1) := by decide +kernel
theorem dX5_advance_53 : decode cX5_advance 53 = .ok (.ifCond .ge 7, 3) := by decide +kernel
theorem dX5_advance_56 : decode cX5_advance 56 = .ok (.iconst 0, 1) := by decide +kernel
theorem dX5_advance_57 : decode cX5_advance 57 = .ok (.goto 26, 3) := by decide +kernel
theorem dX5_advance_60 : decode cX5_advance 60 = .ok (.iload_n 1, 1) := by decide +kernel
theorem dX5_advance_61 : decode cX5_advance 61 = .ok (.invokestatic 186, 3) := by decide +kernel
theorem dX5_advance_64 : decode cX5_advance 64 = .ok (.ifCond .eq 7, 3) := by decide +kernel
theorem dX5_advance_67 : decode cX5_advance 67 = .ok (.iconst 1, 1) := by decide +kernel
theorem dX5_advance_68 : decode cX5_advance 68 = .ok (.goto 15, 3) := by decide +kernel
theorem dX5_advance_71 : decode cX5_advance 71 = .ok (.iload_n 1, 1) := by decide +kernel
theorem dX5_advance_72 : decode cX5_advance 72 = .ok (.invokestatic 189, 3) := by decide +kernel
theorem dX5_advance_75 : decode cX5_advance 75 = .ok (.ifCond .eq 7, 3) := by decide +kernel
theorem dX5_advance_78 : decode cX5_advance 78 = .ok (.iconst 2, 1) := by decide +kernel
theorem dX5_advance_79 : decode cX5_advance 79 = .ok (.goto 4, 3) := by decide +kernel
theorem dX5_advance_82 : decode cX5_advance 82 = .ok (.iconst 3, 1) := by decide +kernel
theorem dX5_advance_83 : decode cX5_advance 83 = .ok (.putfield 192, 3) := by decide +kernel
theorem dX5_advance_86 : decode cX5_advance 86 = .ok (.aload_n 0, 1) := by decide +kernel
theorem dX5_advance_87 : decode cX5_advance 87 = .ok (.lconst 0, 1) := by decide +kernel
theorem dX5_advance_88 : decode cX5_advance 88 = .ok (.putfield 195, 3) := by decide +kernel
theorem dX5_advance_91 : decode cX5_advance 91 = .ok (.aload_n 0, 1) := by decide +kernel
theorem dX5_advance_92 : decode cX5_advance 92 = .ok (.aload_n 0, 1) := by decide +kernel
theorem dX5_advance_93 : decode cX5_advance 93 = .ok (.getfield 192, 3) := by decide +kernel
theorem dX5_advance_96 : decode cX5_advance 96 = .ok (.iconst 2, 1) := by decide +kernel
theorem dX5_advance_97 : decode cX5_advance 97 = .ok (.if_icmp .ne 7, 3) := by decide +kernel
theorem dX5_advance_100 : decode cX5_advance 100 = .ok (.iconst 0, 1) := by decide +kernel
theorem dX5_advance_101 : decode cX5_advance 101 = .ok (.goto 4, 3) := by decide +kernel
theorem dX5_advance_104 : decode cX5_advance 104 = .ok (.iload_n 1, 1) := by decide +kernel
theorem dX5_advance_105 : decode cX5_advance 105 = .ok (.putfield 199, 3) := by decide +kernel
theorem dX5_advance_108 : decode cX5_advance 108 = .ok (.aload_n 0, 1) := by decide +kernel
theorem dX5_advance_109 : decode cX5_advance 109 = .ok (.getfield 192, 3) := by decide +kernel
theorem dX5_advance_112 : decode cX5_advance 112 = .ok (.iconst 3, 1) := by decide +kernel
theorem dX5_advance_113 : decode cX5_advance 113 = .ok (.if_icmp .ne 13, 3) := by decide +kernel
theorem dX5_advance_116 : decode cX5_advance 116 = .ok (.aload_n 0, 1) := by decide +kernel
theorem dX5_advance_117 : decode cX5_advance 117 = .ok (.dup, 1) := by decide +kernel
theorem dX5_advance_118 : decode cX5_advance 118 = .ok (.getfield 177, 3) := by decide +kernel
theorem dX5_advance_121 : decode cX5_advance 121 = .ok (.iconst 1, 1) := by decide +kernel
theorem dX5_advance_122 : decode cX5_advance 122 = .ok (.iadd, 1) := by decide +kernel
theorem dX5_advance_123 : decode cX5_advance 123 = .ok (.putfield 177, 3) := by decide +kernel
theorem dX5_advance_126 : decode cX5_advance 126 = .ok (.aload_n 0, 1) := by decide +kernel
theorem dX5_advance_127 : decode cX5_advance 127 = .ok (.getfield 192, 3) := by decide +kernel
theorem dX5_advance_130 : decode cX5_advance 130 = .ok (.iconst 1, 1) := by decide +kernel
theorem dX5_advance_131 : decode cX5_advance 131 = .ok (.if_icmp .ne 76, 3) := by decide +kernel
theorem dX5_advance_134 : decode cX5_advance 134 = .ok (.aload_n 0, 1) := by decide +kernel
theorem dX5_advance_135 : decode cX5_advance 135 = .ok (.aload_n 0, 1) := by decide +kernel
theorem dX5_advance_136 : decode cX5_advance 136 = .ok (.getfield 177, 3) := by decide +kernel
theorem dX5_advance_139 : decode cX5_advance 139 = .ok (.invokevirtual 183, 3) := by decide +kernel
theorem dX5_advance_142 : decode cX5_advance 142 = .ok (.invokestatic 186, 3) := by decide +kernel
theorem dX5_advance_145 : decode cX5_advance 145 = .ok (.ifCond .eq 62, 3) := by decide +kernel
theorem dX5_advance_148 : decode cX5_advance 148 = .ok (.aload_n 0, 1) := by decide +kernel
theorem dX5_advance_149 : decode cX5_advance 149 = .ok (.aload_n 0, 1) := by decide +kernel
theorem dX5_advance_150 : decode cX5_advance 150 = .ok (.getfield 177, 3) := by decide +kernel
theorem dX5_advance_153 : decode cX5_advance 153 = .ok (.aload_n 0, 1) := by decide +kernel
theorem dX5_advance_154 : decode cX5_advance 154 = .ok (.getfield 180, 3) := by decide +kernel
theorem dX5_advance_157 : decode cX5_advance 157 = .ok (.isub, 1) := by decide +kernel
theorem dX5_advance_158 : decode cX5_advance 158 = .ok (.bipush 12, 2) := by decide +kernel
theorem dX5_advance_160 : decode cX5_advance 160 = .ok (.if_icmp .ge 28, 3) := by decide +kernel
theorem dX5_advance_163 : decode cX5_advance 163 = .ok (.ldc2_w 202, 3) := by decide +kernel
theorem dX5_advance_166 : decode cX5_advance 166 = .ok (.aload_n 0, 1) := by decide +kernel
theorem dX5_advance_167 : decode cX5_advance 167 = .ok (.getfield 195, 3) := by decide +kernel
theorem dX5_advance_170 : decode cX5_advance 170 = .ok (.lmul, 1) := by decide +kernel
theorem dX5_advance_171 : decode cX5_advance 171 = .ok (.aload_n 0, 1) := by decide +kernel
theorem dX5_advance_172 : decode cX5_advance 172 = .ok (.aload_n 0, 1) := by decide +kernel
theorem dX5_advance_173 : decode cX5_advance 173 = .ok (.getfield 177, 3) := by decide +kernel
theorem dX5_advance_176 : decode cX5_advance 176 = .ok (.invokevirtual 183, 3) := by decide +kernel
theorem dX5_advance_179 : decode cX5_advance 179 = .ok (.i2l, 1) := by decide +kernel
theorem dX5_advance_180 : decode cX5_advance 180 = .ok (.ladd, 1) := by decide +kernel
theorem dX5_advance_181 : decode cX5_advance 181 = .ok (.ldc2_w 204, 3) := by decide +kernel
theorem dX5_advance_184 : decode cX5_advance 184 = .ok (.lsub, 1) := by decide +kernel
theorem dX5_advance_185 : decode cX5_advance 185 = .ok (.goto 6, 3) := by decide +kernel
theorem dX5_advance_188 : decode cX5_advance 188 = .ok (.ldc2_w 206, 3) := by decide +kernel
theorem dX5_advance_191 : decode cX5_advance 191 = .ok (.putfield 195, 3) := by decide +kernel
theorem dX5_advance_194 : decode cX5_advance 194 = .ok (.aload_n 0, 1) := by decide +kernel
theorem dX5_advance_195 : decode cX5_advance 195 = .ok (.dup, 1) := by decide +kernel
theorem dX5_advance_196 : decode cX5_advance 196 = .ok (.getfield 177, 3) := by decide +kernel
theorem dX5_advance_199 : decode cX5_advance 199 = .ok (.iconst 1, 1) := by decide +kernel
theorem dX5_advance_200 : decode cX5_advance 200 = .ok (.iadd, 1) := by decide +kernel
theorem dX5_advance_201 : decode cX5_advance 201 = .ok (.putfield 177, 3) := by decide +kernel
theorem dX5_advance_204 : decode cX5_advance 204 = .ok (.goto (-78), 3) := by decide +kernel
theorem dX5_advance_207 : decode cX5_advance 207 = .ok (.aload_n 0, 1) := by decide +kernel
theorem dX5_advance_208 : decode cX5_advance 208 = .ok (.getfield 192, 3) := by decide +kernel
theorem dX5_advance_211 : decode cX5_advance 211 = .ok (.iconst 2, 1) := by decide +kernel
theorem dX5_advance_212 : decode cX5_advance 212 = .ok (.if_icmp .ne 69, 3) := by decide +kernel
theorem dX5_advance_215 : decode cX5_advance 215 = .ok (.aload_n 0, 1) := by decide +kernel
theorem dX5_advance_216 : decode cX5_advance 216 = .ok (.aload_n 0, 1) := by decide +kernel
theorem dX5_advance_217 : decode cX5_advance 217 = .ok (.getfield 177, 3) := by decide +kernel
theorem dX5_advance_220 : decode cX5_advance 220 = .ok (.invokevirtual 183, 3) := by decide +kernel
theorem dX5_advance_223 : decode cX5_advance 223 = .ok (.invokestatic 189, 3) := by decide +kernel
theorem dX5_advance_226 : decode cX5_advance 226 = .ok (.ifCond .eq 55, 3) := by decide +kernel
theorem dX5_advance_229 : decode cX5_advance 229 = .ok (.aload_n 0, 1) := by decide +kernel
theorem dX5_advance_230 : decode cX5_advance 230 = .ok (.aload_n 0, 1) := by decide +kernel
theorem dX5_advance_231 : decode cX5_advance 231 = .ok (.getfield 199, 3) := by decide +kernel
theorem dX5_advance_234 : decode cX5_advance 234 = .ok (.sipush 999, 3) := by decide +kernel
theorem dX5_advance_237 : decode cX5_advance 237 = .ok (.if_icmp .le 9, 3) := by decide +kernel
theorem dX5_advance_240 : decode cX5_advance 240 = .ok (.sipush 10000, 3) := by decide +kernel
theorem dX5_advance_243 : decode cX5_advance 243 = .ok (.goto 22, 3) := by decide +kernel
theorem dX5_advance_246 : decode cX5_advance 246 = .ok (.bipush 10, 2) := by decide +kernel
theorem dX5_advance_248 : decode cX5_advance 248 = .ok (.aload_n 0, 1) := by decide +kernel
theorem dX5_advance_249 : decode cX5_advance 249 = .ok (.getfield 199, 3) := by decide +kernel
theorem dX5_advance_252 : decode cX5_advance 252 = .ok (.imul, 1) := by decide +kernel
theorem dX5_advance_253 : decode cX5_advance 253 = .ok (.aload_n 0, 1) := by decide +kernel
theorem dX5_advance_254 : decode cX5_advance 254 = .ok (.aload_n 0, 1) := by decide +kernel
theorem dX5_advance_255 : decode cX5_advance 255 = .ok (.getfield 177, 3) := by decide +kernel
theorem dX5_advance_258 : decode cX5_advance 258 = .ok (.invokevirtual 183, 3) := by decide +kernel
theorem dX5_advance_261 : decode cX5_advance 261 = .ok (.iadd, 1) := by decide +kernel
theorem dX5_advance_262 : decode cX5_advance 262 = .ok (.bipush 48, 2) := by decide +kernel
theorem dX5_advance_264 : decode cX5_advance 264 = .ok (.isub, 1) := by decide +kernel
theorem dX5_advance_265 : decode cX5_advance 265 = .ok (.putfield 199, 3) := by decide +kernel
theorem dX5_advance_268 : decode cX5_advance 268 = .ok (.aload_n 0, 1) := by decide +kernel
theorem dX5_advance_269 : decode cX5_advance 269 = .ok (.dup, 1) := by decide +kernel
theorem dX5_advance_270 : decode cX5_advance 270 = .ok (.getfield 177, 3) := by decide +kernel
theorem dX5_advance_273 : decode cX5_advance 273 = .ok (.iconst 1, 1) := by decide +kernel
theorem dX5_advance_274 : decode cX5_advance 274 = .ok (.iadd, 1) := by decide +kernel
theorem dX5_advance_275 : decode cX5_advance 275 = .ok (.putfield 177, 3) := by decide +kernel
theorem dX5_advance_278 : decode cX5_advance 278 = .ok (.goto (-71), 3) := by decide +kernel
theorem dX5_advance_281 : decode cX5_advance 281 = .ok (.return_, 1) := by decide +kernel
theorem dX5_isWord_0 : decode cX5_isWord 0 = .ok (.aload_n 0, 1) := by decide +kernel
theorem dX5_isWord_1 : decode cX5_isWord 1 = .ok (.getfield 192, 3) := by decide +kernel
theorem dX5_isWord_4 : decode cX5_isWord 4 = .ok (.iconst 1, 1) := by decide +kernel
theorem dX5_isWord_5 : decode cX5_isWord 5 = .ok (.if_icmp .ne 16, 3) := by decide +kernel
theorem dX5_isWord_8 : decode cX5_isWord 8 = .ok (.aload_n 0, 1) := by decide +kernel
theorem dX5_isWord_9 : decode cX5_isWord 9 = .ok (.getfield 195, 3) := by decide +kernel
theorem dX5_isWord_12 : decode cX5_isWord 12 = .ok (.lload_n 1, 1) := by decide +kernel
theorem dX5_isWord_13 : decode cX5_isWord 13 = .ok (.lcmp, 1) := by decide +kernel
theorem dX5_isWord_14 : decode cX5_isWord 14 = .ok (.ifCond .ne 7, 3) := by decide +kernel
theorem dX5_isWord_17 : decode cX5_isWord 17 = .ok (.iconst 1, 1) := by decide +kernel
theorem dX5_isWord_18 : decode cX5_isWord 18 = .ok (.goto 4, 3) := by decide +kernel
theorem dX5_isWord_21 : decode cX5_isWord 21 = .ok (.iconst 0, 1) := by decide +kernel
theorem dX5_isWord_22 : decode cX5_isWord 22 = .ok (.ireturn, 1) := by decide +kernel
theorem dX5_kindHere_0 : decode cX5_kindHere 0 = .ok (.aload_n 0, 1) := by decide +kernel
theorem dX5_kindHere_1 : decode cX5_kindHere 1 = .ok (.ldc2_w 208, 3) := by decide +kernel
theorem dX5_kindHere_4 : decode cX5_kindHere 4 = .ok (.invokevirtual 210, 3) := by decide +kernel
theorem dX5_kindHere_7 : decode cX5_kindHere 7 = .ok (.ifCond .eq 7, 3) := by decide +kernel
theorem dX5_kindHere_10 : decode cX5_kindHere 10 = .ok (.iconst 0, 1) := by decide +kernel
theorem dX5_kindHere_11 : decode cX5_kindHere 11 = .ok (.goto 74, 3) := by decide +kernel
theorem dX5_kindHere_14 : decode cX5_kindHere 14 = .ok (.aload_n 0, 1) := by decide +kernel
theorem dX5_kindHere_15 : decode cX5_kindHere 15 = .ok (.ldc2_w 214, 3) := by decide +kernel
theorem dX5_kindHere_18 : decode cX5_kindHere 18 = .ok (.invokevirtual 210, 3) := by decide +kernel
theorem dX5_kindHere_21 : decode cX5_kindHere 21 = .ok (.ifCond .eq 7, 3) := by decide +kernel
theorem dX5_kindHere_24 : decode cX5_kindHere 24 = .ok (.iconst 1, 1) := by decide +kernel
theorem dX5_kindHere_25 : decode cX5_kindHere 25 = .ok (.goto 60, 3) := by decide +kernel
theorem dX5_kindHere_28 : decode cX5_kindHere 28 = .ok (.aload_n 0, 1) := by decide +kernel
theorem dX5_kindHere_29 : decode cX5_kindHere 29 = .ok (.ldc2_w 216, 3) := by decide +kernel
theorem dX5_kindHere_32 : decode cX5_kindHere 32 = .ok (.invokevirtual 210, 3) := by decide +kernel
theorem dX5_kindHere_35 : decode cX5_kindHere 35 = .ok (.ifCond .eq 7, 3) := by decide +kernel
theorem dX5_kindHere_38 : decode cX5_kindHere 38 = .ok (.iconst 2, 1) := by decide +kernel
theorem dX5_kindHere_39 : decode cX5_kindHere 39 = .ok (.goto 46, 3) := by decide +kernel
theorem dX5_kindHere_42 : decode cX5_kindHere 42 = .ok (.aload_n 0, 1) := by decide +kernel
theorem dX5_kindHere_43 : decode cX5_kindHere 43 = .ok (.ldc2_w 218, 3) := by decide +kernel
theorem dX5_kindHere_46 : decode cX5_kindHere 46 = .ok (.invokevirtual 210, 3) := by decide +kernel
theorem dX5_kindHere_49 : decode cX5_kindHere 49 = .ok (.ifCond .eq 7, 3) := by decide +kernel
theorem dX5_kindHere_52 : decode cX5_kindHere 52 = .ok (.iconst 3, 1) := by decide +kernel
theorem dX5_kindHere_53 : decode cX5_kindHere 53 = .ok (.goto 32, 3) := by decide +kernel
theorem dX5_kindHere_56 : decode cX5_kindHere 56 = .ok (.aload_n 0, 1) := by decide +kernel
theorem dX5_kindHere_57 : decode cX5_kindHere 57 = .ok (.ldc2_w 220, 3) := by decide +kernel
theorem dX5_kindHere_60 : decode cX5_kindHere 60 = .ok (.invokevirtual 210, 3) := by decide +kernel
theorem dX5_kindHere_63 : decode cX5_kindHere 63 = .ok (.ifCond .eq 7, 3) := by decide +kernel
theorem dX5_kindHere_66 : decode cX5_kindHere 66 = .ok (.iconst 4, 1) := by decide +kernel
theorem dX5_kindHere_67 : decode cX5_kindHere 67 = .ok (.goto 18, 3) := by decide +kernel
theorem dX5_kindHere_70 : decode cX5_kindHere 70 = .ok (.aload_n 0, 1) := by decide +kernel
theorem dX5_kindHere_71 : decode cX5_kindHere 71 = .ok (.ldc2_w 222, 3) := by decide +kernel
theorem dX5_kindHere_74 : decode cX5_kindHere 74 = .ok (.invokevirtual 210, 3) := by decide +kernel
theorem dX5_kindHere_77 : decode cX5_kindHere 77 = .ok (.ifCond .eq 7, 3) := by decide +kernel
theorem dX5_kindHere_80 : decode cX5_kindHere 80 = .ok (.iconst 5, 1) := by decide +kernel
theorem dX5_kindHere_81 : decode cX5_kindHere 81 = .ok (.goto 4, 3) := by decide +kernel
theorem dX5_kindHere_84 : decode cX5_kindHere 84 = .ok (.iconst (-1), 1) := by decide +kernel
theorem dX5_kindHere_85 : decode cX5_kindHere 85 = .ok (.ireturn, 1) := by decide +kernel
theorem dX5_wantNumber_0 : decode cX5_wantNumber 0 = .ok (.aload_n 0, 1) := by decide +kernel
theorem dX5_wantNumber_1 : decode cX5_wantNumber 1 = .ok (.getfield 199, 3) := by decide +kernel
theorem dX5_wantNumber_4 : decode cX5_wantNumber 4 = .ok (.istore_n 3, 1) := by decide +kernel
theorem dX5_wantNumber_5 : decode cX5_wantNumber 5 = .ok (.aload_n 0, 1) := by decide +kernel
theorem dX5_wantNumber_6 : decode cX5_wantNumber 6 = .ok (.aload_n 0, 1) := by decide +kernel
theorem dX5_wantNumber_7 : decode cX5_wantNumber 7 = .ok (.getfield 224, 3) := by decide +kernel
theorem dX5_wantNumber_10 : decode cX5_wantNumber 10 = .ok (.ifCond .eq 24, 3) := by decide +kernel
theorem dX5_wantNumber_13 : decode cX5_wantNumber 13 = .ok (.aload_n 0, 1) := by decide +kernel
theorem dX5_wantNumber_14 : decode cX5_wantNumber 14 = .ok (.getfield 192, 3) := by decide +kernel
theorem dX5_wantNumber_17 : decode cX5_wantNumber 17 = .ok (.iconst 2, 1) := by decide +kernel
theorem dX5_wantNumber_18 : decode cX5_wantNumber 18 = .ok (.if_icmp .ne 16, 3) := by decide +kernel
theorem dX5_wantNumber_21 : decode cX5_wantNumber 21 = .ok (.iload_n 3, 1) := by decide +kernel
theorem dX5_wantNumber_22 : decode cX5_wantNumber 22 = .ok (.iload_n 1, 1) := by decide +kernel
theorem dX5_wantNumber_23 : decode cX5_wantNumber 23 = .ok (.iload_n 2, 1) := by decide +kernel
theorem dX5_wantNumber_24 : decode cX5_wantNumber 24 = .ok (.invokestatic 51, 3) := by decide +kernel
theorem dX5_wantNumber_27 : decode cX5_wantNumber 27 = .ok (.ifCond .eq 7, 3) := by decide +kernel
theorem dX5_wantNumber_30 : decode cX5_wantNumber 30 = .ok (.iconst 1, 1) := by decide +kernel
theorem dX5_wantNumber_31 : decode cX5_wantNumber 31 = .ok (.goto 4, 3) := by decide +kernel
theorem dX5_wantNumber_34 : decode cX5_wantNumber 34 = .ok (.iconst 0, 1) := by decide +kernel
theorem dX5_wantNumber_35 : decode cX5_wantNumber 35 = .ok (.putfield 224, 3) := by decide +kernel
theorem dX5_wantNumber_38 : decode cX5_wantNumber 38 = .ok (.aload_n 0, 1) := by decide +kernel
theorem dX5_wantNumber_39 : decode cX5_wantNumber 39 = .ok (.getfield 224, 3) := by decide +kernel
theorem dX5_wantNumber_42 : decode cX5_wantNumber 42 = .ok (.ifCond .eq 7, 3) := by decide +kernel
theorem dX5_wantNumber_45 : decode cX5_wantNumber 45 = .ok (.aload_n 0, 1) := by decide +kernel
theorem dX5_wantNumber_46 : decode cX5_wantNumber 46 = .ok (.invokevirtual 228, 3) := by decide +kernel
theorem dX5_wantNumber_49 : decode cX5_wantNumber 49 = .ok (.iload_n 3, 1) := by decide +kernel
theorem dX5_wantNumber_50 : decode cX5_wantNumber 50 = .ok (.ireturn, 1) := by decide +kernel
theorem dX5_mayWant_0 : decode cX5_mayWant 0 = .ok (.aload_n 0, 1) := by decide +kernel
theorem dX5_mayWant_1 : decode cX5_mayWant 1 = .ok (.getfield 224, 3) := by decide +kernel
theorem dX5_mayWant_4 : decode cX5_mayWant 4 = .ok (.ifCond .eq 11, 3) := by decide +kernel
theorem dX5_mayWant_7 : decode cX5_mayWant 7 = .ok (.aload_n 0, 1) := by decide +kernel
theorem dX5_mayWant_8 : decode cX5_mayWant 8 = .ok (.lload_n 1, 1) := by decide +kernel
theorem dX5_mayWant_9 : decode cX5_mayWant 9 = .ok (.invokevirtual 210, 3) := by decide +kernel
theorem dX5_mayWant_12 : decode cX5_mayWant 12 = .ok (.ifCond .ne 6, 3) := by decide +kernel
theorem dX5_mayWant_15 : decode cX5_mayWant 15 = .ok (.iload 5, 2) := by decide +kernel
theorem dX5_mayWant_17 : decode cX5_mayWant 17 = .ok (.ireturn, 1) := by decide +kernel
theorem dX5_mayWant_18 : decode cX5_mayWant 18 = .ok (.aload_n 0, 1) := by decide +kernel
theorem dX5_mayWant_19 : decode cX5_mayWant 19 = .ok (.invokevirtual 228, 3) := by decide +kernel
theorem dX5_mayWant_22 : decode cX5_mayWant 22 = .ok (.aload_n 0, 1) := by decide +kernel
theorem dX5_mayWant_23 : decode cX5_mayWant 23 = .ok (.iload_n 3, 1) := by decide +kernel
theorem dX5_mayWant_24 : decode cX5_mayWant 24 = .ok (.iload 4, 2) := by decide +kernel
theorem dX5_mayWant_26 : decode cX5_mayWant 26 = .ok (.invokevirtual 231, 3) := by decide +kernel
theorem dX5_mayWant_29 : decode cX5_mayWant 29 = .ok (.ireturn, 1) := by decide +kernel
theorem dX5_wantSeat_0 : decode cX5_wantSeat 0 = .ok (.aload_n 0, 1) := by decide +kernel
theorem dX5_wantSeat_1 : decode cX5_wantSeat 1 = .ok (.aload_n 0, 1) := by decide +kernel
theorem dX5_wantSeat_2 : decode cX5_wantSeat 2 = .ok (.getfield 224, 3) := by decide +kernel
theorem dX5_wantSeat_5 : decode cX5_wantSeat 5 = .ok (.ifCond .eq 36, 3) := by decide +kernel
theorem dX5_wantSeat_8 : decode cX5_wantSeat 8 = .ok (.aload_n 0, 1) := by decide +kernel
theorem dX5_wantSeat_9 : decode cX5_wantSeat 9 = .ok (.getfield 192, 3) := by decide +kernel
theorem dX5_wantSeat_12 : decode cX5_wantSeat 12 = .ok (.iconst 2, 1) := by decide +kernel
theorem dX5_wantSeat_13 : decode cX5_wantSeat 13 = .ok (.if_icmp .ne 24, 3) := by decide +kernel
theorem dX5_wantSeat_16 : decode cX5_wantSeat 16 = .ok (.aload_n 0, 1) := by decide +kernel
theorem dX5_wantSeat_17 : decode cX5_wantSeat 17 = .ok (.getfield 199, 3) := by decide +kernel
theorem dX5_wantSeat_20 : decode cX5_wantSeat 20 = .ok (.invokestatic 59, 3) := by decide +kernel
theorem dX5_wantSeat_23 : decode cX5_wantSeat 23 = .ok (.ifCond .eq 14, 3) := by decide +kernel
theorem dX5_wantSeat_26 : decode cX5_wantSeat 26 = .ok (.aload_n 0, 1) := by decide +kernel
theorem dX5_wantSeat_27 : decode cX5_wantSeat 27 = .ok (.aload_n 0, 1) := by decide +kernel
theorem dX5_wantSeat_28 : decode cX5_wantSeat 28 = .ok (.getfield 199, 3) := by decide +kernel
theorem dX5_wantSeat_31 : decode cX5_wantSeat 31 = .ok (.invokevirtual 63, 3) := by decide +kernel
theorem dX5_wantSeat_34 : decode cX5_wantSeat 34 = .ok (.ifCond .ge 7, 3) := by decide +kernel
theorem dX5_wantSeat_37 : decode cX5_wantSeat 37 = .ok (.iconst 1, 1) := by decide +kernel
theorem dX5_wantSeat_38 : decode cX5_wantSeat 38 = .ok (.goto 4, 3) := by decide +kernel
theorem dX5_wantSeat_41 : decode cX5_wantSeat 41 = .ok (.iconst 0, 1) := by decide +kernel
theorem dX5_wantSeat_42 : decode cX5_wantSeat 42 = .ok (.putfield 224, 3) := by decide +kernel
theorem dX5_wantSeat_45 : decode cX5_wantSeat 45 = .ok (.aload_n 0, 1) := by decide +kernel
theorem dX5_wantSeat_46 : decode cX5_wantSeat 46 = .ok (.iconst 0, 1) := by decide +kernel
theorem dX5_wantSeat_47 : decode cX5_wantSeat 47 = .ok (.bipush 11, 2) := by decide +kernel
theorem dX5_wantSeat_49 : decode cX5_wantSeat 49 = .ok (.invokevirtual 231, 3) := by decide +kernel
theorem dX5_wantSeat_52 : decode cX5_wantSeat 52 = .ok (.ireturn, 1) := by decide +kernel
theorem dX5_wantOne_0 : decode cX5_wantOne 0 = .ok (.aload_n 0, 1) := by decide +kernel
theorem dX5_wantOne_1 : decode cX5_wantOne 1 = .ok (.aload_n 0, 1) := by decide +kernel
theorem dX5_wantOne_2 : decode cX5_wantOne 2 = .ok (.getfield 7, 3) := by decide +kernel
theorem dX5_wantOne_5 : decode cX5_wantOne 5 = .ok (.iconst 1, 1) := by decide +kernel
theorem dX5_wantOne_6 : decode cX5_wantOne 6 = .ok (.iaload, 1) := by decide +kernel
theorem dX5_wantOne_7 : decode cX5_wantOne 7 = .ok (.bipush 10, 2) := by decide +kernel
theorem dX5_wantOne_9 : decode cX5_wantOne 9 = .ok (.if_icmp .ge 7, 3) := by decide +kernel
theorem dX5_wantOne_12 : decode cX5_wantOne 12 = .ok (.iconst 1, 1) := by decide +kernel
theorem dX5_wantOne_13 : decode cX5_wantOne 13 = .ok (.goto 4, 3) := by decide +kernel
theorem dX5_wantOne_16 : decode cX5_wantOne 16 = .ok (.iconst 0, 1) := by decide +kernel
theorem dX5_wantOne_17 : decode cX5_wantOne 17 = .ok (.putfield 224, 3) := by decide +kernel
theorem dX5_wantOne_20 : decode cX5_wantOne 20 = .ok (.aload_n 0, 1) := by decide +kernel
theorem dX5_wantOne_21 : decode cX5_wantOne 21 = .ok (.getfield 224, 3) := by decide +kernel
theorem dX5_wantOne_24 : decode cX5_wantOne 24 = .ok (.ifCond .ne 4, 3) := by decide +kernel
theorem dX5_wantOne_27 : decode cX5_wantOne 27 = .ok (.return_, 1) := by decide +kernel
theorem dX5_wantOne_28 : decode cX5_wantOne 28 = .ok (.aload_n 0, 1) := by decide +kernel
theorem dX5_wantOne_29 : decode cX5_wantOne 29 = .ok (.invokevirtual 228, 3) := by decide +kernel
theorem dX5_wantOne_32 : decode cX5_wantOne 32 = .ok (.aload_n 0, 1) := by decide +kernel
theorem dX5_wantOne_33 : decode cX5_wantOne 33 = .ok (.invokevirtual 234, 3) := by decide +kernel
theorem dX5_wantOne_36 : decode cX5_wantOne 36 = .ok (.istore_n 2, 1) := by decide +kernel
theorem dX5_wantOne_37 : decode cX5_wantOne 37 = .ok (.aload_n 0, 1) := by decide +kernel
theorem dX5_wantOne_38 : decode cX5_wantOne 38 = .ok (.getfield 224, 3) := by decide +kernel
theorem dX5_wantOne_41 : decode cX5_wantOne 41 = .ok (.ifCond .eq 13, 3) := by decide +kernel
theorem dX5_wantOne_44 : decode cX5_wantOne 44 = .ok (.aload_n 0, 1) := by decide +kernel
theorem dX5_wantOne_45 : decode cX5_wantOne 45 = .ok (.iconst 0, 1) := by decide +kernel
theorem dX5_wantOne_46 : decode cX5_wantOne 46 = .ok (.bipush 9, 2) := by decide +kernel
theorem dX5_wantOne_48 : decode cX5_wantOne 48 = .ok (.invokevirtual 231, 3) := by decide +kernel
theorem dX5_wantOne_51 : decode cX5_wantOne 51 = .ok (.goto 4, 3) := by decide +kernel
theorem dX5_wantOne_54 : decode cX5_wantOne 54 = .ok (.iconst 0, 1) := by decide +kernel
theorem dX5_wantOne_55 : decode cX5_wantOne 55 = .ok (.istore_n 3, 1) := by decide +kernel
theorem dX5_wantOne_56 : decode cX5_wantOne 56 = .ok (.aload_n 0, 1) := by decide +kernel
theorem dX5_wantOne_57 : decode cX5_wantOne 57 = .ok (.ldc2_w 237, 3) := by decide +kernel
theorem dX5_wantOne_60 : decode cX5_wantOne 60 = .ok (.iconst 1, 1) := by decide +kernel
theorem dX5_wantOne_61 : decode cX5_wantOne 61 = .ok (.bipush 9, 2) := by decide +kernel
theorem dX5_wantOne_63 : decode cX5_wantOne 63 = .ok (.iconst 5, 1) := by decide +kernel
theorem dX5_wantOne_64 : decode cX5_wantOne 64 = .ok (.invokevirtual 239, 3) := by decide +kernel
theorem dX5_wantOne_67 : decode cX5_wantOne 67 = .ok (.istore 4, 2) := by decide +kernel
theorem dX5_wantOne_69 : decode cX5_wantOne 69 = .ok (.aload_n 0, 1) := by decide +kernel
theorem dX5_wantOne_70 : decode cX5_wantOne 70 = .ok (.getfield 224, 3) := by decide +kernel
theorem dX5_wantOne_73 : decode cX5_wantOne 73 = .ok (.ifCond .eq 12, 3) := by decide +kernel
theorem dX5_wantOne_76 : decode cX5_wantOne 76 = .ok (.aload_n 0, 1) := by decide +kernel
theorem dX5_wantOne_77 : decode cX5_wantOne 77 = .ok (.iload_n 1, 1) := by decide +kernel
theorem dX5_wantOne_78 : decode cX5_wantOne 78 = .ok (.iload_n 2, 1) := by decide +kernel
theorem dX5_wantOne_79 : decode cX5_wantOne 79 = .ok (.iload_n 3, 1) := by decide +kernel
theorem dX5_wantOne_80 : decode cX5_wantOne 80 = .ok (.iload 4, 2) := by decide +kernel
theorem dX5_wantOne_82 : decode cX5_wantOne 82 = .ok (.invokevirtual 120, 3) := by decide +kernel
theorem dX5_wantOne_85 : decode cX5_wantOne 85 = .ok (.return_, 1) := by decide +kernel
theorem dX5_wantKnowing_0 : decode cX5_wantKnowing 0 = .ok (.aload_n 0, 1) := by decide +kernel
theorem dX5_wantKnowing_1 : decode cX5_wantKnowing 1 = .ok (.invokevirtual 228, 3) := by decide +kernel
theorem dX5_wantKnowing_4 : decode cX5_wantKnowing 4 = .ok (.aload_n 0, 1) := by decide +kernel
theorem dX5_wantKnowing_5 : decode cX5_wantKnowing 5 = .ok (.iconst 0, 1) := by decide +kernel
theorem dX5_wantKnowing_6 : decode cX5_wantKnowing 6 = .ok (.aload_n 0, 1) := by decide +kernel
theorem dX5_wantKnowing_7 : decode cX5_wantKnowing 7 = .ok (.getfield 7, 3) := by decide +kernel
theorem dX5_wantKnowing_10 : decode cX5_wantKnowing 10 = .ok (.iconst 1, 1) := by decide +kernel
theorem dX5_wantKnowing_11 : decode cX5_wantKnowing 11 = .ok (.iaload, 1) := by decide +kernel
theorem dX5_wantKnowing_12 : decode cX5_wantKnowing 12 = .ok (.iconst 1, 1) := by decide +kernel
theorem dX5_wantKnowing_13 : decode cX5_wantKnowing 13 = .ok (.isub, 1) := by decide +kernel
theorem dX5_wantKnowing_14 : decode cX5_wantKnowing 14 = .ok (.invokevirtual 231, 3) := by decide +kernel
theorem dX5_wantKnowing_17 : decode cX5_wantKnowing 17 = .ok (.istore_n 1, 1) := by decide +kernel
theorem dX5_wantKnowing_18 : decode cX5_wantKnowing 18 = .ok (.aload_n 0, 1) := by decide +kernel
theorem dX5_wantKnowing_19 : decode cX5_wantKnowing 19 = .ok (.getfield 224, 3) := by decide +kernel
theorem dX5_wantKnowing_22 : decode cX5_wantKnowing 22 = .ok (.ifCond .eq 13, 3) := by decide +kernel
theorem dX5_wantKnowing_25 : decode cX5_wantKnowing 25 = .ok (.aload_n 0, 1) := by decide +kernel
theorem dX5_wantKnowing_26 : decode cX5_wantKnowing 26 = .ok (.iconst 0, 1) := by decide +kernel
theorem dX5_wantKnowing_27 : decode cX5_wantKnowing 27 = .ok (.bipush 9, 2) := by decide +kernel
theorem dX5_wantKnowing_29 : decode cX5_wantKnowing 29 = .ok (.invokevirtual 231, 3) := by decide +kernel
theorem dX5_wantKnowing_32 : decode cX5_wantKnowing 32 = .ok (.goto 4, 3) := by decide +kernel
theorem dX5_wantKnowing_35 : decode cX5_wantKnowing 35 = .ok (.iconst 0, 1) := by decide +kernel
theorem dX5_wantKnowing_36 : decode cX5_wantKnowing 36 = .ok (.istore_n 2, 1) := by decide +kernel
theorem dX5_wantKnowing_37 : decode cX5_wantKnowing 37 = .ok (.aload_n 0, 1) := by decide +kernel
theorem dX5_wantKnowing_38 : decode cX5_wantKnowing 38 = .ok (.getfield 224, 3) := by decide +kernel
theorem dX5_wantKnowing_41 : decode cX5_wantKnowing 41 = .ok (.ifCond .eq 19, 3) := by decide +kernel
theorem dX5_wantKnowing_44 : decode cX5_wantKnowing 44 = .ok (.aload_n 0, 1) := by decide +kernel
theorem dX5_wantKnowing_45 : decode cX5_wantKnowing 45 = .ok (.iload_n 1, 1) := by decide +kernel
theorem dX5_wantKnowing_46 : decode cX5_wantKnowing 46 = .ok (.iconst 4, 1) := by decide +kernel
theorem dX5_wantKnowing_47 : decode cX5_wantKnowing 47 = .ok (.aload_n 0, 1) := by decide +kernel
theorem dX5_wantKnowing_48 : decode cX5_wantKnowing 48 = .ok (.iload_n 1, 1) := by decide +kernel
theorem dX5_wantKnowing_49 : decode cX5_wantKnowing 49 = .ok (.iconst 4, 1) := by decide +kernel
theorem dX5_wantKnowing_50 : decode cX5_wantKnowing 50 = .ok (.invokevirtual 55, 3) := by decide +kernel
theorem dX5_wantKnowing_53 : decode cX5_wantKnowing 53 = .ok (.iconst 1, 1) := by decide +kernel
theorem dX5_wantKnowing_54 : decode cX5_wantKnowing 54 = .ok (.iload_n 2, 1) := by decide +kernel
theorem dX5_wantKnowing_55 : decode cX5_wantKnowing 55 = .ok (.ishl, 1) := by decide +kernel
theorem dX5_wantKnowing_56 : decode cX5_wantKnowing 56 = .ok (.ior, 1) := by decide +kernel
theorem dX5_wantKnowing_57 : decode cX5_wantKnowing 57 = .ok (.invokevirtual 108, 3) := by decide +kernel
theorem dX5_wantKnowing_60 : decode cX5_wantKnowing 60 = .ok (.return_, 1) := by decide +kernel
theorem dX5_wantMove_0 : decode cX5_wantMove 0 = .ok (.aload_n 0, 1) := by decide +kernel
theorem dX5_wantMove_1 : decode cX5_wantMove 1 = .ok (.invokevirtual 228, 3) := by decide +kernel
theorem dX5_wantMove_4 : decode cX5_wantMove 4 = .ok (.aload_n 0, 1) := by decide +kernel
theorem dX5_wantMove_5 : decode cX5_wantMove 5 = .ok (.iconst 0, 1) := by decide +kernel
theorem dX5_wantMove_6 : decode cX5_wantMove 6 = .ok (.aload_n 0, 1) := by decide +kernel
theorem dX5_wantMove_7 : decode cX5_wantMove 7 = .ok (.getfield 7, 3) := by decide +kernel
theorem dX5_wantMove_10 : decode cX5_wantMove 10 = .ok (.iconst 1, 1) := by decide +kernel
theorem dX5_wantMove_11 : decode cX5_wantMove 11 = .ok (.iaload, 1) := by decide +kernel
theorem dX5_wantMove_12 : decode cX5_wantMove 12 = .ok (.iconst 1, 1) := by decide +kernel
theorem dX5_wantMove_13 : decode cX5_wantMove 13 = .ok (.isub, 1) := by decide +kernel
theorem dX5_wantMove_14 : decode cX5_wantMove 14 = .ok (.invokevirtual 231, 3) := by decide +kernel
theorem dX5_wantMove_17 : decode cX5_wantMove 17 = .ok (.istore_n 1, 1) := by decide +kernel
theorem dX5_wantMove_18 : decode cX5_wantMove 18 = .ok (.aload_n 0, 1) := by decide +kernel
theorem dX5_wantMove_19 : decode cX5_wantMove 19 = .ok (.getfield 224, 3) := by decide +kernel
theorem dX5_wantMove_22 : decode cX5_wantMove 22 = .ok (.ifCond .eq 10, 3) := by decide +kernel
theorem dX5_wantMove_25 : decode cX5_wantMove 25 = .ok (.aload_n 0, 1) := by decide +kernel
theorem dX5_wantMove_26 : decode cX5_wantMove 26 = .ok (.invokevirtual 234, 3) := by decide +kernel
theorem dX5_wantMove_29 : decode cX5_wantMove 29 = .ok (.goto 4, 3) := by decide +kernel
theorem dX5_wantMove_32 : decode cX5_wantMove 32 = .ok (.iconst 0, 1) := by decide +kernel
theorem dX5_wantMove_33 : decode cX5_wantMove 33 = .ok (.istore_n 2, 1) := by decide +kernel
theorem dX5_wantMove_34 : decode cX5_wantMove 34 = .ok (.aload_n 0, 1) := by decide +kernel
theorem dX5_wantMove_35 : decode cX5_wantMove 35 = .ok (.getfield 224, 3) := by decide +kernel
theorem dX5_wantMove_38 : decode cX5_wantMove 38 = .ok (.ifCond .eq 10, 3) := by decide +kernel
theorem dX5_wantMove_41 : decode cX5_wantMove 41 = .ok (.aload_n 0, 1) := by decide +kernel
theorem dX5_wantMove_42 : decode cX5_wantMove 42 = .ok (.iload_n 1, 1) := by decide +kernel
theorem dX5_wantMove_43 : decode cX5_wantMove 43 = .ok (.iconst 1, 1) := by decide +kernel
theorem dX5_wantMove_44 : decode cX5_wantMove 44 = .ok (.iload_n 2, 1) := by decide +kernel
theorem dX5_wantMove_45 : decode cX5_wantMove 45 = .ok (.invokevirtual 108, 3) := by decide +kernel
theorem dX5_wantMove_48 : decode cX5_wantMove 48 = .ok (.return_, 1) := by decide +kernel
theorem dX5_wantItem_0 : decode cX5_wantItem 0 = .ok (.aload_n 0, 1) := by decide +kernel
theorem dX5_wantItem_1 : decode cX5_wantItem 1 = .ok (.invokevirtual 243, 3) := by decide +kernel
theorem dX5_wantItem_4 : decode cX5_wantItem 4 = .ok (.ifCond .lt 14, 3) := by decide +kernel
theorem dX5_wantItem_7 : decode cX5_wantItem 7 = .ok (.aload_n 0, 1) := by decide +kernel
theorem dX5_wantItem_8 : decode cX5_wantItem 8 = .ok (.aload_n 0, 1) := by decide +kernel
theorem dX5_wantItem_9 : decode cX5_wantItem 9 = .ok (.invokevirtual 243, 3) := by decide +kernel
theorem dX5_wantItem_12 : decode cX5_wantItem 12 = .ok (.invokevirtual 246, 3) := by decide +kernel
theorem dX5_wantItem_15 : decode cX5_wantItem 15 = .ok (.goto 42, 3) := by decide +kernel
theorem dX5_wantItem_18 : decode cX5_wantItem 18 = .ok (.aload_n 0, 1) := by decide +kernel
theorem dX5_wantItem_19 : decode cX5_wantItem 19 = .ok (.ldc2_w 249, 3) := by decide +kernel
theorem dX5_wantItem_22 : decode cX5_wantItem 22 = .ok (.invokevirtual 210, 3) := by decide +kernel
theorem dX5_wantItem_25 : decode cX5_wantItem 25 = .ok (.ifCond .eq 10, 3) := by decide +kernel
theorem dX5_wantItem_28 : decode cX5_wantItem 28 = .ok (.aload_n 0, 1) := by decide +kernel
theorem dX5_wantItem_29 : decode cX5_wantItem 29 = .ok (.invokevirtual 251, 3) := by decide +kernel
theorem dX5_wantItem_32 : decode cX5_wantItem 32 = .ok (.goto 25, 3) := by decide +kernel
theorem dX5_wantItem_35 : decode cX5_wantItem 35 = .ok (.aload_n 0, 1) := by decide +kernel
theorem dX5_wantItem_36 : decode cX5_wantItem 36 = .ok (.ldc2_w 254, 3) := by decide +kernel
theorem dX5_wantItem_39 : decode cX5_wantItem 39 = .ok (.invokevirtual 210, 3) := by decide +kernel
theorem dX5_wantItem_42 : decode cX5_wantItem 42 = .ok (.ifCond .eq 10, 3) := by decide +kernel
theorem dX5_wantItem_45 : decode cX5_wantItem 45 = .ok (.aload_n 0, 1) := by decide +kernel
theorem dX5_wantItem_46 : decode cX5_wantItem 46 = .ok (.invokevirtual 256, 3) := by decide +kernel
theorem dX5_wantItem_49 : decode cX5_wantItem 49 = .ok (.goto 8, 3) := by decide +kernel
theorem dX5_wantItem_52 : decode cX5_wantItem 52 = .ok (.aload_n 0, 1) := by decide +kernel
theorem dX5_wantItem_53 : decode cX5_wantItem 53 = .ok (.iconst 0, 1) := by decide +kernel
theorem dX5_wantItem_54 : decode cX5_wantItem 54 = .ok (.putfield 224, 3) := by decide +kernel
theorem dX5_wantItem_57 : decode cX5_wantItem 57 = .ok (.return_, 1) := by decide +kernel
theorem dX5_chapel_0 : decode cX5_chapel 0 = .ok (.aload_n 0, 1) := by decide +kernel
theorem dX5_chapel_1 : decode cX5_chapel 1 = .ok (.iconst 1, 1) := by decide +kernel
theorem dX5_chapel_2 : decode cX5_chapel 2 = .ok (.aload_n 0, 1) := by decide +kernel
theorem dX5_chapel_3 : decode cX5_chapel 3 = .ok (.getfield 47, 3) := by decide +kernel
theorem dX5_chapel_6 : decode cX5_chapel 6 = .ok (.invokevirtual 156, 3) := by decide +kernel
theorem dX5_chapel_9 : decode cX5_chapel 9 = .ok (.aload_n 0, 1) := by decide +kernel
theorem dX5_chapel_10 : decode cX5_chapel 10 = .ok (.iconst 0, 1) := by decide +kernel
theorem dX5_chapel_11 : decode cX5_chapel 11 = .ok (.putfield 177, 3) := by decide +kernel
theorem dX5_chapel_14 : decode cX5_chapel 14 = .ok (.aload_n 0, 1) := by decide +kernel
theorem dX5_chapel_15 : decode cX5_chapel 15 = .ok (.iconst 1, 1) := by decide +kernel
theorem dX5_chapel_16 : decode cX5_chapel 16 = .ok (.putfield 224, 3) := by decide +kernel
theorem dX5_chapel_19 : decode cX5_chapel 19 = .ok (.iconst 0, 1) := by decide +kernel
theorem dX5_chapel_20 : decode cX5_chapel 20 = .ok (.istore_n 1, 1) := by decide +kernel
theorem dX5_chapel_21 : decode cX5_chapel 21 = .ok (.iconst 1, 1) := by decide +kernel
theorem dX5_chapel_22 : decode cX5_chapel 22 = .ok (.istore_n 2, 1) := by decide +kernel
theorem dX5_chapel_23 : decode cX5_chapel 23 = .ok (.iload_n 2, 1) := by decide +kernel
theorem dX5_chapel_24 : decode cX5_chapel 24 = .ok (.ifCond .eq 47, 3) := by decide +kernel
theorem dX5_chapel_27 : decode cX5_chapel 27 = .ok (.aload_n 0, 1) := by decide +kernel
theorem dX5_chapel_28 : decode cX5_chapel 28 = .ok (.invokevirtual 228, 3) := by decide +kernel
theorem dX5_chapel_31 : decode cX5_chapel 31 = .ok (.aload_n 0, 1) := by decide +kernel
theorem dX5_chapel_32 : decode cX5_chapel 32 = .ok (.invokevirtual 259, 3) := by decide +kernel
theorem dX5_chapel_35 : decode cX5_chapel 35 = .ok (.iinc 1 1, 3) := by decide +kernel
theorem dX5_chapel_38 : decode cX5_chapel 38 = .ok (.aload_n 0, 1) := by decide +kernel
theorem dX5_chapel_39 : decode cX5_chapel 39 = .ok (.getfield 224, 3) := by decide +kernel
theorem dX5_chapel_42 : decode cX5_chapel 42 = .ok (.ifCond .eq 24, 3) := by decide +kernel
theorem dX5_chapel_45 : decode cX5_chapel 45 = .ok (.aload_n 0, 1) := by decide +kernel
theorem dX5_chapel_46 : decode cX5_chapel 46 = .ok (.getfield 192, 3) := by decide +kernel
theorem dX5_chapel_49 : decode cX5_chapel 49 = .ok (.iconst 3, 1) := by decide +kernel
theorem dX5_chapel_50 : decode cX5_chapel 50 = .ok (.if_icmp .ne 16, 3) := by decide +kernel
theorem dX5_chapel_53 : decode cX5_chapel 53 = .ok (.aload_n 0, 1) := by decide +kernel
theorem dX5_chapel_54 : decode cX5_chapel 54 = .ok (.getfield 199, 3) := by decide +kernel
theorem dX5_chapel_57 : decode cX5_chapel 57 = .ok (.bipush 59, 2) := by decide +kernel
theorem dX5_chapel_59 : decode cX5_chapel 59 = .ok (.if_icmp .ne 7, 3) := by decide +kernel
theorem dX5_chapel_62 : decode cX5_chapel 62 = .ok (.iconst 1, 1) := by decide +kernel
theorem dX5_chapel_63 : decode cX5_chapel 63 = .ok (.goto 4, 3) := by decide +kernel
theorem dX5_chapel_66 : decode cX5_chapel 66 = .ok (.iconst 0, 1) := by decide +kernel
theorem dX5_chapel_67 : decode cX5_chapel 67 = .ok (.istore_n 2, 1) := by decide +kernel
theorem dX5_chapel_68 : decode cX5_chapel 68 = .ok (.goto (-45), 3) := by decide +kernel
theorem dX5_chapel_71 : decode cX5_chapel 71 = .ok (.aload_n 0, 1) := by decide +kernel
theorem dX5_chapel_72 : decode cX5_chapel 72 = .ok (.aload_n 0, 1) := by decide +kernel
theorem dX5_chapel_73 : decode cX5_chapel 73 = .ok (.getfield 224, 3) := by decide +kernel
theorem dX5_chapel_76 : decode cX5_chapel 76 = .ok (.ifCond .eq 14, 3) := by decide +kernel
theorem dX5_chapel_79 : decode cX5_chapel 79 = .ok (.aload_n 0, 1) := by decide +kernel
theorem dX5_chapel_80 : decode cX5_chapel 80 = .ok (.getfield 192, 3) := by decide +kernel
theorem dX5_chapel_83 : decode cX5_chapel 83 = .ok (.ifCond .ne 7, 3) := by decide +kernel
theorem dX5_chapel_86 : decode cX5_chapel 86 = .ok (.iconst 1, 1) := by decide +kernel
theorem dX5_chapel_87 : decode cX5_chapel 87 = .ok (.goto 4, 3) := by decide +kernel
theorem dX5_chapel_90 : decode cX5_chapel 90 = .ok (.iconst 0, 1) := by decide +kernel
theorem dX5_chapel_91 : decode cX5_chapel 91 = .ok (.putfield 224, 3) := by decide +kernel
theorem dX5_chapel_94 : decode cX5_chapel 94 = .ok (.aload_n 0, 1) := by decide +kernel
theorem dX5_chapel_95 : decode cX5_chapel 95 = .ok (.iconst 0, 1) := by decide +kernel
theorem dX5_chapel_96 : decode cX5_chapel 96 = .ok (.putfield 173, 3) := by decide +kernel
theorem dX5_chapel_99 : decode cX5_chapel 99 = .ok (.aload_n 0, 1) := by decide +kernel
theorem dX5_chapel_100 : decode cX5_chapel 100 = .ok (.getfield 224, 3) := by decide +kernel
theorem dX5_chapel_103 : decode cX5_chapel 103 = .ok (.ifCond .ne 19, 3) := by decide +kernel
theorem dX5_chapel_106 : decode cX5_chapel 106 = .ok (.aload_n 0, 1) := by decide +kernel
theorem dX5_chapel_107 : decode cX5_chapel 107 = .ok (.iconst 0, 1) := by decide +kernel
theorem dX5_chapel_108 : decode cX5_chapel 108 = .ok (.aload_n 0, 1) := by decide +kernel
theorem dX5_chapel_109 : decode cX5_chapel 109 = .ok (.getfield 47, 3) := by decide +kernel
theorem dX5_chapel_112 : decode cX5_chapel 112 = .ok (.invokevirtual 156, 3) := by decide +kernel
theorem dX5_chapel_115 : decode cX5_chapel 115 = .ok (.iconst (-1), 1) := by decide +kernel
theorem dX5_chapel_116 : decode cX5_chapel 116 = .ok (.aload_n 0, 1) := by decide +kernel
theorem dX5_chapel_117 : decode cX5_chapel 117 = .ok (.getfield 180, 3) := by decide +kernel
theorem dX5_chapel_120 : decode cX5_chapel 120 = .ok (.isub, 1) := by decide +kernel
theorem dX5_chapel_121 : decode cX5_chapel 121 = .ok (.ireturn, 1) := by decide +kernel
theorem dX5_chapel_122 : decode cX5_chapel 122 = .ok (.iload_n 1, 1) := by decide +kernel
theorem dX5_chapel_123 : decode cX5_chapel 123 = .ok (.ireturn, 1) := by decide +kernel
theorem dX5_isSheet_0 : decode cX5_isSheet 0 = .ok (.iload_n 0, 1) := by decide +kernel
theorem dX5_isSheet_1 : decode cX5_isSheet 1 = .ok (.iconst 0, 1) := by decide +kernel
theorem dX5_isSheet_2 : decode cX5_isSheet 2 = .ok (.iconst 3, 1) := by decide +kernel
theorem dX5_isSheet_3 : decode cX5_isSheet 3 = .ok (.invokestatic 51, 3) := by decide +kernel
theorem dX5_isSheet_6 : decode cX5_isSheet 6 = .ok (.ireturn, 1) := by decide +kernel
theorem dX5_narrow_0 : decode cX5_narrow 0 = .ok (.iload_n 0, 1) := by decide +kernel
theorem dX5_narrow_1 : decode cX5_narrow 1 = .ok (.bipush 8, 2) := by decide +kernel
theorem dX5_narrow_3 : decode cX5_narrow 3 = .ok (.if_icmp .ne 13, 3) := by decide +kernel
theorem dX5_narrow_6 : decode cX5_narrow 6 = .ok (.lload_n 1, 1) := by decide +kernel
theorem dX5_narrow_7 : decode cX5_narrow 7 = .ok (.bipush 56, 2) := by decide +kernel
theorem dX5_narrow_9 : decode cX5_narrow 9 = .ok (.lshl, 1) := by decide +kernel
theorem dX5_narrow_10 : decode cX5_narrow 10 = .ok (.bipush 56, 2) := by decide +kernel
theorem dX5_narrow_12 : decode cX5_narrow 12 = .ok (.lshr, 1) := by decide +kernel
theorem dX5_narrow_13 : decode cX5_narrow 13 = .ok (.goto 20, 3) := by decide +kernel
theorem dX5_narrow_16 : decode cX5_narrow 16 = .ok (.iload_n 0, 1) := by decide +kernel
theorem dX5_narrow_17 : decode cX5_narrow 17 = .ok (.bipush 16, 2) := by decide +kernel
theorem dX5_narrow_19 : decode cX5_narrow 19 = .ok (.if_icmp .ne 13, 3) := by decide +kernel
theorem dX5_narrow_22 : decode cX5_narrow 22 = .ok (.lload_n 1, 1) := by decide +kernel
theorem dX5_narrow_23 : decode cX5_narrow 23 = .ok (.bipush 48, 2) := by decide +kernel
theorem dX5_narrow_25 : decode cX5_narrow 25 = .ok (.lshl, 1) := by decide +kernel
theorem dX5_narrow_26 : decode cX5_narrow 26 = .ok (.bipush 48, 2) := by decide +kernel
theorem dX5_narrow_28 : decode cX5_narrow 28 = .ok (.lshr, 1) := by decide +kernel
theorem dX5_narrow_29 : decode cX5_narrow 29 = .ok (.goto 4, 3) := by decide +kernel
theorem dX5_narrow_32 : decode cX5_narrow 32 = .ok (.lload_n 1, 1) := by decide +kernel
theorem dX5_narrow_33 : decode cX5_narrow 33 = .ok (.lreturn, 1) := by decide +kernel
theorem dX5_sheet_0 : decode cX5_sheet 0 = .ok (.iload_n 1, 1) := by decide +kernel
theorem dX5_sheet_1 : decode cX5_sheet 1 = .ok (.invokestatic 262, 3) := by decide +kernel
theorem dX5_sheet_4 : decode cX5_sheet 4 = .ok (.ifCond .eq 25, 3) := by decide +kernel
theorem dX5_sheet_7 : decode cX5_sheet 7 = .ok (.iload_n 2, 1) := by decide +kernel
theorem dX5_sheet_8 : decode cX5_sheet 8 = .ok (.ifCond .eq 28, 3) := by decide +kernel
theorem dX5_sheet_11 : decode cX5_sheet 11 = .ok (.iload_n 2, 1) := by decide +kernel
theorem dX5_sheet_12 : decode cX5_sheet 12 = .ok (.bipush 8, 2) := by decide +kernel
theorem dX5_sheet_14 : decode cX5_sheet 14 = .ok (.if_icmp .eq 22, 3) := by decide +kernel
theorem dX5_sheet_17 : decode cX5_sheet 17 = .ok (.iload_n 2, 1) := by decide +kernel
theorem dX5_sheet_18 : decode cX5_sheet 18 = .ok (.bipush 16, 2) := by decide +kernel
theorem dX5_sheet_20 : decode cX5_sheet 20 = .ok (.if_icmp .eq 16, 3) := by decide +kernel
theorem dX5_sheet_23 : decode cX5_sheet 23 = .ok (.iload_n 2, 1) := by decide +kernel
theorem dX5_sheet_24 : decode cX5_sheet 24 = .ok (.bipush 64, 2) := by decide +kernel
theorem dX5_sheet_26 : decode cX5_sheet 26 = .ok (.if_icmp .eq 10, 3) := by decide +kernel
theorem dX5_sheet_29 : decode cX5_sheet 29 = .ok (.aload_n 0, 1) := by decide +kernel
theorem dX5_sheet_30 : decode cX5_sheet 30 = .ok (.ldc 50, 2) := by decide +kernel
theorem dX5_sheet_32 : decode cX5_sheet 32 = .ok (.invokevirtual 67, 3) := by decide +kernel
theorem dX5_sheet_35 : decode cX5_sheet 35 = .ok (.ireturn, 1) := by decide +kernel
theorem dX5_sheet_36 : decode cX5_sheet 36 = .ok (.iload_n 3, 1) := by decide +kernel
theorem dX5_sheet_37 : decode cX5_sheet 37 = .ok (.ifCond .ge 11, 3) := by decide +kernel
theorem dX5_sheet_40 : decode cX5_sheet 40 = .ok (.aload_n 0, 1) := by decide +kernel
theorem dX5_sheet_41 : decode cX5_sheet 41 = .ok (.ldc_w 265, 3) := by decide +kernel
theorem dX5_sheet_44 : decode cX5_sheet 44 = .ok (.invokevirtual 67, 3) := by decide +kernel
theorem dX5_sheet_47 : decode cX5_sheet 47 = .ok (.ireturn, 1) := by decide +kernel
theorem dX5_sheet_48 : decode cX5_sheet 48 = .ok (.iload_n 3, 1) := by decide +kernel
theorem dX5_sheet_49 : decode cX5_sheet 49 = .ok (.bipush 40, 2) := by decide +kernel
theorem dX5_sheet_51 : decode cX5_sheet 51 = .ok (.if_icmp .le 10, 3) := by decide +kernel
theorem dX5_sheet_54 : decode cX5_sheet 54 = .ok (.aload_n 0, 1) := by decide +kernel
theorem dX5_sheet_55 : decode cX5_sheet 55 = .ok (.ldc 50, 2) := by decide +kernel
theorem dX5_sheet_57 : decode cX5_sheet 57 = .ok (.invokevirtual 67, 3) := by decide +kernel
theorem dX5_sheet_60 : decode cX5_sheet 60 = .ok (.ireturn, 1) := by decide +kernel
theorem dX5_sheet_61 : decode cX5_sheet 61 = .ok (.aload_n 0, 1) := by decide +kernel
theorem dX5_sheet_62 : decode cX5_sheet 62 = .ok (.getfield 31, 3) := by decide +kernel
theorem dX5_sheet_65 : decode cX5_sheet 65 = .ok (.iload_n 1, 1) := by decide +kernel
theorem dX5_sheet_66 : decode cX5_sheet 66 = .ok (.iload_n 2, 1) := by decide +kernel
theorem dX5_sheet_67 : decode cX5_sheet 67 = .ok (.iastore, 1) := by decide +kernel
theorem dX5_sheet_68 : decode cX5_sheet 68 = .ok (.aload_n 0, 1) := by decide +kernel
theorem dX5_sheet_69 : decode cX5_sheet 69 = .ok (.getfield 34, 3) := by decide +kernel
theorem dX5_sheet_72 : decode cX5_sheet 72 = .ok (.iload_n 1, 1) := by decide +kernel
theorem dX5_sheet_73 : decode cX5_sheet 73 = .ok (.iload_n 2, 1) := by decide +kernel
theorem dX5_sheet_74 : decode cX5_sheet 74 = .ok (.ifCond .ne 7, 3) := by decide +kernel
theorem dX5_sheet_77 : decode cX5_sheet 77 = .ok (.iconst 0, 1) := by decide +kernel
theorem dX5_sheet_78 : decode cX5_sheet 78 = .ok (.goto 4, 3) := by decide +kernel
theorem dX5_sheet_81 : decode cX5_sheet 81 = .ok (.iload_n 3, 1) := by decide +kernel
theorem dX5_sheet_82 : decode cX5_sheet 82 = .ok (.iastore, 1) := by decide +kernel
theorem dX5_sheet_83 : decode cX5_sheet 83 = .ok (.iconst 0, 1) := by decide +kernel
theorem dX5_sheet_84 : decode cX5_sheet 84 = .ok (.istore 4, 2) := by decide +kernel
theorem dX5_sheet_86 : decode cX5_sheet 86 = .ok (.iload 4, 2) := by decide +kernel
theorem dX5_sheet_88 : decode cX5_sheet 88 = .ok (.bipush 40, 2) := by decide +kernel
theorem dX5_sheet_90 : decode cX5_sheet 90 = .ok (.if_icmp .ge 22, 3) := by decide +kernel
theorem dX5_sheet_93 : decode cX5_sheet 93 = .ok (.aload_n 0, 1) := by decide +kernel
theorem dX5_sheet_94 : decode cX5_sheet 94 = .ok (.getfield 37, 3) := by decide +kernel
theorem dX5_sheet_97 : decode cX5_sheet 97 = .ok (.bipush 40, 2) := by decide +kernel
theorem dX5_sheet_99 : decode cX5_sheet 99 = .ok (.iload_n 1, 1) := by decide +kernel
theorem dX5_sheet_100 : decode cX5_sheet 100 = .ok (.imul, 1) := by decide +kernel
theorem dX5_sheet_101 : decode cX5_sheet 101 = .ok (.iload 4, 2) := by decide +kernel
theorem dX5_sheet_103 : decode cX5_sheet 103 = .ok (.iadd, 1) := by decide +kernel
theorem dX5_sheet_104 : decode cX5_sheet 104 = .ok (.lconst 0, 1) := by decide +kernel
theorem dX5_sheet_105 : decode cX5_sheet 105 = .ok (.lastore, 1) := by decide +kernel
theorem dX5_sheet_106 : decode cX5_sheet 106 = .ok (.iinc 4 1, 3) := by decide +kernel
theorem dX5_sheet_109 : decode cX5_sheet 109 = .ok (.goto (-23), 3) := by decide +kernel
theorem dX5_sheet_112 : decode cX5_sheet 112 = .ok (.aload_n 0, 1) := by decide +kernel
theorem dX5_sheet_113 : decode cX5_sheet 113 = .ok (.getfield 34, 3) := by decide +kernel
theorem dX5_sheet_116 : decode cX5_sheet 116 = .ok (.iload_n 1, 1) := by decide +kernel
theorem dX5_sheet_117 : decode cX5_sheet 117 = .ok (.iaload, 1) := by decide +kernel
theorem dX5_sheet_118 : decode cX5_sheet 118 = .ok (.ireturn, 1) := by decide +kernel
theorem dX5_write_0 : decode cX5_write 0 = .ok (.iload_n 1, 1) := by decide +kernel
theorem dX5_write_1 : decode cX5_write 1 = .ok (.invokestatic 262, 3) := by decide +kernel
theorem dX5_write_4 : decode cX5_write 4 = .ok (.ifCond .ne 11, 3) := by decide +kernel
theorem dX5_write_7 : decode cX5_write 7 = .ok (.aload_n 0, 1) := by decide +kernel
theorem dX5_write_8 : decode cX5_write 8 = .ok (.ldc 50, 2) := by decide +kernel
theorem dX5_write_10 : decode cX5_write 10 = .ok (.invokevirtual 67, 3) := by decide +kernel
theorem dX5_write_13 : decode cX5_write 13 = .ok (.i2l, 1) := by decide +kernel
theorem dX5_write_14 : decode cX5_write 14 = .ok (.lreturn, 1) := by decide +kernel
theorem dX5_write_15 : decode cX5_write 15 = .ok (.aload_n 0, 1) := by decide +kernel
theorem dX5_write_16 : decode cX5_write 16 = .ok (.getfield 31, 3) := by decide +kernel
theorem dX5_write_19 : decode cX5_write 19 = .ok (.iload_n 1, 1) := by decide +kernel
theorem dX5_write_20 : decode cX5_write 20 = .ok (.iaload, 1) := by decide +kernel
theorem dX5_write_21 : decode cX5_write 21 = .ok (.ifCond .ne 12, 3) := by decide +kernel
theorem dX5_write_24 : decode cX5_write 24 = .ok (.aload_n 0, 1) := by decide +kernel
theorem dX5_write_25 : decode cX5_write 25 = .ok (.ldc_w 266, 3) := by decide +kernel
theorem dX5_write_28 : decode cX5_write 28 = .ok (.invokevirtual 67, 3) := by decide +kernel
theorem dX5_write_31 : decode cX5_write 31 = .ok (.i2l, 1) := by decide +kernel
theorem dX5_write_32 : decode cX5_write 32 = .ok (.lreturn, 1) := by decide +kernel
theorem dX5_write_33 : decode cX5_write 33 = .ok (.iload_n 2, 1) := by decide +kernel
theorem dX5_write_34 : decode cX5_write 34 = .ok (.iconst 0, 1) := by decide +kernel
theorem dX5_write_35 : decode cX5_write 35 = .ok (.aload_n 0, 1) := by decide +kernel
theorem dX5_write_36 : decode cX5_write 36 = .ok (.getfield 34, 3) := by decide +kernel
theorem dX5_write_39 : decode cX5_write 39 = .ok (.iload_n 1, 1) := by decide +kernel
theorem dX5_write_40 : decode cX5_write 40 = .ok (.iaload, 1) := by decide +kernel
theorem dX5_write_41 : decode cX5_write 41 = .ok (.iconst 1, 1) := by decide +kernel
theorem dX5_write_42 : decode cX5_write 42 = .ok (.isub, 1) := by decide +kernel
theorem dX5_write_43 : decode cX5_write 43 = .ok (.invokestatic 51, 3) := by decide +kernel
theorem dX5_write_46 : decode cX5_write 46 = .ok (.ifCond .ne 11, 3) := by decide +kernel
theorem dX5_write_49 : decode cX5_write 49 = .ok (.aload_n 0, 1) := by decide +kernel
theorem dX5_write_50 : decode cX5_write 50 = .ok (.ldc 50, 2) := by decide +kernel
theorem dX5_write_52 : decode cX5_write 52 = .ok (.invokevirtual 67, 3) := by decide +kernel
theorem dX5_write_55 : decode cX5_write 55 = .ok (.i2l, 1) := by decide +kernel
theorem dX5_write_56 : decode cX5_write 56 = .ok (.lreturn, 1) := by decide +kernel
theorem dX5_write_57 : decode cX5_write 57 = .ok (.aload_n 0, 1) := by decide +kernel
theorem dX5_write_58 : decode cX5_write 58 = .ok (.getfield 37, 3) := by decide +kernel
theorem dX5_write_61 : decode cX5_write 61 = .ok (.bipush 40, 2) := by decide +kernel
theorem dX5_write_63 : decode cX5_write 63 = .ok (.iload_n 1, 1) := by decide +kernel
theorem dX5_write_64 : decode cX5_write 64 = .ok (.imul, 1) := by decide +kernel
theorem dX5_write_65 : decode cX5_write 65 = .ok (.iload_n 2, 1) := by decide +kernel
theorem dX5_write_66 : decode cX5_write 66 = .ok (.iadd, 1) := by decide +kernel
theorem dX5_write_67 : decode cX5_write 67 = .ok (.laload, 1) := by decide +kernel
theorem dX5_write_68 : decode cX5_write 68 = .ok (.lstore 5, 2) := by decide +kernel
theorem dX5_write_70 : decode cX5_write 70 = .ok (.aload_n 0, 1) := by decide +kernel
theorem dX5_write_71 : decode cX5_write 71 = .ok (.getfield 37, 3) := by decide +kernel
